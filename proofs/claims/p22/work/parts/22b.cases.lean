set_option maxHeartbeats 4000000 in
set_option maxRecDepth 100000 in
theorem law_c0 {p : Program} {l : Launch} {e : Env} {s : State} {m : MethodId} {below : List Frame} {meth : Method} {c : Code} {b L : Nat} {xs : Nat → Int32} (hL : L ≤ 2048) (hx : p.tables.exec = Jvm.exec) (hb : c.code = code) (hX : va_X b L xs s s.heap) (hbl : b < s.heap.size) (hl : l.stackTraces = false) {G : hG} (B0 : hB p l s m #[Value.ref b] meth c code 7 RL G) (hbA : ¬ hFr G b) {xo ez eo bu nw0 na0 nq0 nr0 nw1 na1 nq1 nr1 bs bp bh bf bl bg mo dW dA dQ dM dS dL dR dT dZ dI dH dN dK dJ dU dO dF dP dE dX dY dG out : Nat} (hdis : ∀ p, p ∈ [xo, ez, eo, bu, nw0, na0, nq0, nr0, nw1, na1, nq1, nr1, bs, bp, bh, bf, bl, bg] → p ∉ [mo, dW, dA, dQ, dM, dS, dL, dR, dT, dZ, dI, dH, dN, dK, dJ, dU, dO, dF, dP, dE, dX, dY, dG]) (hdos : ∀ p, p ∈ [mo, dW, dA, dQ, dM, dS, dL, dR, dT, dZ, dI, dH, dN, dK, dJ, dU, dO, dF, dP, dE, dX, dY, dG] → p ∉ [out, xo, ez, eo, bu, nw0, na0, nq0, nr0, nw1, na1, nq1, nr1, bs, bp, bh, bf, bl, bg]) (hno : out ∉ [xo, ez, eo, bu, nw0, na0, nq0, nr0, nw1, na1, nq1, nr1, bs, bp, bh, bf, bl, bg]) (hno2 : out ∉ [mo, dW, dA, dQ, dM, dS, dL, dR, dT, dZ, dI, dH, dN, dK, dJ, dU, dO, dF, dP, dE, dX, dY, dG]) {j T : Nat} (hj : j < T) (hT1 : 4 * T ≤ L) (ih : ∀ (f9 : hM) (lv9 : List (Nat × Value)) (H : Heap) (locs : List Loc) (ls : Array Slot), lwI G xo ez eo bu nw0 na0 nq0 nr0 nw1 na1 nq1 nr1 bs bp bh bf bl bg mo dW dA dQ dM dS dL dR dT dZ dI dH dN dK dJ dU dO dF dP dE dX dY dG out b (j + 1) f9 lv9 → hW G f9 H → va_S (hFr G) s.heap H locs → lv_has ls 7 lv9 → W p l e room_1 s m #[Value.ref b] below meth c H locs (42 + (j + 1) * 201) (9564 + (j + 1) * 1101) (lw_Z below #[Value.ref b] s) (F0 m 23 ls [])) {gw0 : Nat → Int32} {ga0 : Nat → Int32} {gw1 : Nat → Int32} {ga1 : Nat → Int32} {mg0 : Int32} {mg1 : Int32} {n : Nat} {a : Nat} {cg : Nat} {x : Nat} {sa : Nat → Nat} {pk : Nat → Nat} {fl : Nat → Nat} {gv : Nat → Nat} {gh : Nat → Int32} {gl : Nat → Int32} {f9 : hM} {th : Int32} {go : Nat → Int64} (hC : CW G f9 xo ez eo bu nw0 na0 nq0 nr0 nw1 na1 nq1 nr1 bs bp bh bf bl bg gw0 ga0 gw1 ga1 mg0 mg1 n a cg x sa pk fl gv gh gl) (hM : MW G f9 mo dW dA dQ dM dS dL dR dT dZ dI dH dN dK dJ dU dO dF dP dE dX dY dG th (100 * j) gw0 ga0 gw1 ga1 mg0 mg1 n a cg x sa pk fl gv gh gl) (ho : f9 out = some (.inl (cJ G, 1, .inr (.inl go)))) {H : Heap} {locs : List Loc} {ls : Array Slot} (hw : hW G f9 H) (hS : va_S (hFr G) s.heap H locs) (hl9 : lv_has ls 7 [(4, .int (nI (4 * j))), (0, .ref b), (1, .ref xo), (2, .ref mo), (3, .ref out)]) : W p l e room_1 s m #[Value.ref b] below meth c H locs (42 + j * 201) (9564 + j * 1101) (lw_Z below #[Value.ref b] s) (F0 m 136 ls []) := by
  refine lv_aload_n hx hb dL_law_136 rfl (lv_at hl9 2 rfl) ?_
  refine lv_aload_n hx hb dL_law_137 rfl (lv_at hl9 1 rfl) ?_
  refine lv_iload hx hb dL_law_138 (lv_at hl9 0 rfl) ?_
  refine lv_iconst (v := 1) hx hb dL_law_140 (by decide) ?_
  refine lv_iadd hx hb dL_law_141 ?_
  refine hp_c (v := (nI (4 * j + 1))) (nI_add (4 * j) 1) ?_
  refine va_sld hx hb hX hbl hbA hS (vp_in_nI (show 4 * j + 1 < L by omega) (by omega)) dL_law_142 ?_
  refine hp_c (v := xs (4 * j + 1)) (congrArg xs (nI_clamp (by omega))) ?_
  refine lv_aload_n hx hb dL_law_143 rfl (lv_at hl9 1 rfl) ?_
  refine lv_iload hx hb dL_law_144 (lv_at hl9 0 rfl) ?_
  refine lv_iconst (v := 2) hx hb dL_law_146 (by decide) ?_
  refine lv_iadd hx hb dL_law_147 ?_
  refine hp_c (v := (nI (4 * j + 2))) (nI_add (4 * j) 2) ?_
  refine va_sld hx hb hX hbl hbA hS (vp_in_nI (show 4 * j + 2 < L by omega) (by omega)) dL_law_148 ?_
  refine hp_c (v := xs (4 * j + 2)) (congrArg xs (nI_clamp (by omega))) ?_
  refine lv_aload_n hx hb dL_law_149 rfl (lv_at hl9 1 rfl) ?_
  refine lv_iload hx hb dL_law_150 (lv_at hl9 0 rfl) ?_
  refine lv_iconst (v := 3) hx hb dL_law_152 (by decide) ?_
  refine lv_iadd hx hb dL_law_153 ?_
  refine hp_c (v := (nI (4 * j + 3))) (nI_add (4 * j) 3) ?_
  refine va_sld hx hb hX hbl hbA hS (vp_in_nI (show 4 * j + 3 < L by omega) (by omega)) dL_law_154 ?_
  refine hp_c (v := xs (4 * j + 3)) (congrArg xs (nI_clamp (by omega))) ?_
  refine lv_aload_n hx hb dL_law_155 rfl (lv_at hl9 4 rfl) ?_
  refine hp_SH (As := [.ref xo, .int (xs (4 * j + 1)), .int (xs (4 * j + 2)), .int (xs (4 * j + 3)), .ref out]) (rest := []) B0 hw hS (c_L_wish hl G f9 xo ez eo bu nw0 na0 nq0 nr0 nw1 na1 nq1 nr1 bs bp bh bf bl bg gw0 ga0 gw1 ga1 mg0 mg1 n a cg x sa pk fl gv gh gl hC out go ho hno (xs (4 * j + 1)) (xs (4 * j + 2)) (xs (4 * j + 3))) mH_L_wish qM_L_80 rfl rfl hl9.1 (Nat.le_of_ble_eq_true rfl) ⟨⟨Nat.le_of_ble_eq_true rfl, Nat.le_of_ble_eq_true rfl⟩, (by first | omega | (dsimp only; omega) | (show (_ : Nat) ≤ _; simp only [room_1]; omega)), (by first | omega | (dsimp only; omega) | (show (_ : Nat) ≤ _; simp only [room_1]; omega))⟩ dL_law_156 (fun E ce q9 f587 H locs hPX hw hS hce hcv hcl => ?_) (fun v f587 H locs hP hw hS => ?_)
  · exact hPX.elim
  · obtain ⟨hP, hk592⟩ := hP
    rcases hP with ⟨hz588, ev9, hC589, ho591⟩ | ⟨hz588, ev9, hC589, g590, ho591⟩
    · subst ev9
      have hM593 := MW.kp hM hk592 hdos
      refine W.eq (g2 := F0 m 159 ls [.int 0]) rfl ?_
      refine lv_istore (lv' := [(5, .int 0), (4, .int (nI (4 * j))), (0, .ref b), (1, .ref xo), (2, .ref mo), (3, .ref out)]) hx hb dL_law_159 hl9 (by decide) rfl (fun ls hl9 => ?_)
      refine lv_aload_n hx hb dL_law_161 rfl (lv_at hl9 4 rfl) ?_
      refine lv_aload_n hx hb dL_law_162 rfl (lv_at hl9 2 rfl) ?_
      refine lv_iload hx hb dL_law_163 (lv_at hl9 1 rfl) ?_
      refine lv_iconst (v := 1) hx hb dL_law_165 (by decide) ?_
      refine lv_iadd hx hb dL_law_166 ?_
      refine hp_c (v := (nI (4 * j + 1))) (nI_add (4 * j) 1) ?_
      refine va_sld hx hb hX hbl hbA hS (vp_in_nI (show 4 * j + 1 < L by omega) (by omega)) dL_law_167 ?_
      refine hp_c (v := xs (4 * j + 1)) (congrArg xs (nI_clamp (by omega))) ?_
      refine lv_aload_n hx hb dL_law_168 rfl (lv_at hl9 2 rfl) ?_
      refine lv_iload hx hb dL_law_169 (lv_at hl9 1 rfl) ?_
      refine lv_iconst (v := 2) hx hb dL_law_171 (by decide) ?_
      refine lv_iadd hx hb dL_law_172 ?_
      refine hp_c (v := (nI (4 * j + 2))) (nI_add (4 * j) 2) ?_
      refine va_sld hx hb hX hbl hbA hS (vp_in_nI (show 4 * j + 2 < L by omega) (by omega)) dL_law_173 ?_
      refine hp_c (v := xs (4 * j + 2)) (congrArg xs (nI_clamp (by omega))) ?_
      refine lv_aload_n hx hb dL_law_174 rfl (lv_at hl9 2 rfl) ?_
      refine lv_iload hx hb dL_law_175 (lv_at hl9 1 rfl) ?_
      refine lv_iconst (v := 3) hx hb dL_law_177 (by decide) ?_
      refine lv_iadd hx hb dL_law_178 ?_
      refine hp_c (v := (nI (4 * j + 3))) (nI_add (4 * j) 3) ?_
      refine va_sld hx hb hX hbl hbA hS (vp_in_nI (show 4 * j + 3 < L by omega) (by omega)) dL_law_179 ?_
      refine hp_c (v := xs (4 * j + 3)) (congrArg xs (nI_clamp (by omega))) ?_
      refine hp_V (ci := 5) (As := [.int (xs (4 * j + 1)), .int (xs (4 * j + 2)), .int (xs (4 * j + 3))]) (rest := []) B0 hw hS (c_W5_wish hl G f587 mo dW dA dQ dM dS dL dR dT dZ dI dH dN dK dJ dU dO dF dP dE dX dY dG th (100 * j) gw0 ga0 gw1 ga1 mg0 mg1 n a cg x sa pk fl gv gh gl hM593 (by omega) (xs (4 * j + 1)) (xs (4 * j + 2)) (xs (4 * j + 3))) mV_X5_wish qM_L_85 rfl hM593.1 rfl rfl hl9.1 (Nat.le_of_ble_eq_true rfl) ⟨⟨Nat.le_of_ble_eq_true rfl, Nat.le_of_ble_eq_true rfl⟩, (by first | omega | (dsimp only; omega) | (show (_ : Nat) ≤ _; simp only [room_1]; omega)), (by first | omega | (dsimp only; omega) | (show (_ : Nat) ≤ _; simp only [room_1]; omega))⟩ dL_law_180 (fun E ce q9 f594 H locs hPX hw hS hce hcv hcl => ?_) (fun v f594 H locs hP hw hS => ?_)
      · exact hPX.elim
      · obtain ⟨hP, he597⟩ := hP
        rcases hP with ⟨hy595, ev9, hM596⟩ | ⟨hy595, ⟨r598, ev9⟩, hM596⟩
        · subst ev9
          have hC599 := CW.eq hC589 he597 hdis (MW.fr hM593 hM596)
          have ho600 := (he597 _ hno2).trans ho591
          refine W.eq (g2 := F0 m 183 ls [.int ((selE (xs (4 * j + 1)) gw0 gw1 (xs (4 * j + 2)).toNatClampNeg))]) rfl ?_
          refine lv_istore (lv' := [(6, .int ((selE (xs (4 * j + 1)) gw0 gw1 (xs (4 * j + 2)).toNatClampNeg))), (5, .int 0), (4, .int (nI (4 * j))), (0, .ref b), (1, .ref xo), (2, .ref mo), (3, .ref out)]) hx hb dL_law_183 hl9 (by decide) rfl (fun ls hl9 => ?_)
          refine lv_goto (tgt := 766) hx hb dL_law_185 (by decide) ?_
          refine lv_iinc (v := (nI (4 * (j + 1)))) (lv' := [(4, .int (nI (4 * (j + 1)))), (6, .int ((selE (xs (4 * j + 1)) gw0 gw1 (xs (4 * j + 2)).toNatClampNeg))), (5, .int 0), (0, .ref b), (1, .ref xo), (2, .ref mo), (3, .ref out)]) hx hb dL_law_766 hl9 (k := 2) rfl (nI_add (4 * j) 4) (by decide) rfl (fun ls hl9 => ?_)
          refine lv_goto (tgt := 23) hx hb dL_law_769 (by decide) ?_
          exact W.widen (by omega) (by omega) (ih _ _ H locs ls ⟨_, _, _, _, _, _, _, _, _, _, _, _, _, _, _, _, hC599, ⟨_, (MW.mono hM596 (by omega))⟩, ⟨_, ho600⟩, rfl⟩ hw hS (lv_sub hl9 [0, 3, 4, 5, 6] rfl))
        · exact absurd hz588 hy595
    · subst ev9
      have hM601 := MW.kp hM hk592 hdos
      refine W.eq (g2 := F0 m 159 ls [.int (spc (sE (xs (4 * j + 1)) ∧ sO (xs (4 * j + 2))) (sV (xs (4 * j + 3))))]) rfl ?_
      refine lv_istore (lv' := [(5, .int (spc (sE (xs (4 * j + 1)) ∧ sO (xs (4 * j + 2))) (sV (xs (4 * j + 3))))), (4, .int (nI (4 * j))), (0, .ref b), (1, .ref xo), (2, .ref mo), (3, .ref out)]) hx hb dL_law_159 hl9 (by decide) rfl (fun ls hl9 => ?_)
      refine lv_aload_n hx hb dL_law_161 rfl (lv_at hl9 4 rfl) ?_
      refine lv_aload_n hx hb dL_law_162 rfl (lv_at hl9 2 rfl) ?_
      refine lv_iload hx hb dL_law_163 (lv_at hl9 1 rfl) ?_
      refine lv_iconst (v := 1) hx hb dL_law_165 (by decide) ?_
      refine lv_iadd hx hb dL_law_166 ?_
      refine hp_c (v := (nI (4 * j + 1))) (nI_add (4 * j) 1) ?_
      refine va_sld hx hb hX hbl hbA hS (vp_in_nI (show 4 * j + 1 < L by omega) (by omega)) dL_law_167 ?_
      refine hp_c (v := xs (4 * j + 1)) (congrArg xs (nI_clamp (by omega))) ?_
      refine lv_aload_n hx hb dL_law_168 rfl (lv_at hl9 2 rfl) ?_
      refine lv_iload hx hb dL_law_169 (lv_at hl9 1 rfl) ?_
      refine lv_iconst (v := 2) hx hb dL_law_171 (by decide) ?_
      refine lv_iadd hx hb dL_law_172 ?_
      refine hp_c (v := (nI (4 * j + 2))) (nI_add (4 * j) 2) ?_
      refine va_sld hx hb hX hbl hbA hS (vp_in_nI (show 4 * j + 2 < L by omega) (by omega)) dL_law_173 ?_
      refine hp_c (v := xs (4 * j + 2)) (congrArg xs (nI_clamp (by omega))) ?_
      refine lv_aload_n hx hb dL_law_174 rfl (lv_at hl9 2 rfl) ?_
      refine lv_iload hx hb dL_law_175 (lv_at hl9 1 rfl) ?_
      refine lv_iconst (v := 3) hx hb dL_law_177 (by decide) ?_
      refine lv_iadd hx hb dL_law_178 ?_
      refine hp_c (v := (nI (4 * j + 3))) (nI_add (4 * j) 3) ?_
      refine va_sld hx hb hX hbl hbA hS (vp_in_nI (show 4 * j + 3 < L by omega) (by omega)) dL_law_179 ?_
      refine hp_c (v := xs (4 * j + 3)) (congrArg xs (nI_clamp (by omega))) ?_
      refine hp_V (ci := 5) (As := [.int (xs (4 * j + 1)), .int (xs (4 * j + 2)), .int (xs (4 * j + 3))]) (rest := []) B0 hw hS (c_W5_wish hl G f587 mo dW dA dQ dM dS dL dR dT dZ dI dH dN dK dJ dU dO dF dP dE dX dY dG th (100 * j) gw0 ga0 gw1 ga1 mg0 mg1 n a cg x sa pk fl gv gh gl hM601 (by omega) (xs (4 * j + 1)) (xs (4 * j + 2)) (xs (4 * j + 3))) mV_X5_wish qM_L_85 rfl hM601.1 rfl rfl hl9.1 (Nat.le_of_ble_eq_true rfl) ⟨⟨Nat.le_of_ble_eq_true rfl, Nat.le_of_ble_eq_true rfl⟩, (by first | omega | (dsimp only; omega) | (show (_ : Nat) ≤ _; simp only [room_1]; omega)), (by first | omega | (dsimp only; omega) | (show (_ : Nat) ≤ _; simp only [room_1]; omega))⟩ dL_law_180 (fun E ce q9 f602 H locs hPX hw hS hce hcv hcl => ?_) (fun v f602 H locs hP hw hS => ?_)
      · exact hPX.elim
      · obtain ⟨hP, he605⟩ := hP
        rcases hP with ⟨hy603, ev9, hM604⟩ | ⟨hy603, ⟨r606, ev9⟩, hM604⟩
        · exact absurd hy603 hz588
        · subst ev9
          have hC607 := CW.eq hC589 he605 hdis (MW.fr hM601 hM604)
          have ho608 := (he605 _ hno2).trans ho591
          refine W.eq (g2 := F0 m 183 ls [.int r606]) rfl ?_
          refine lv_istore (lv' := [(6, .int r606), (5, .int (spc (sE (xs (4 * j + 1)) ∧ sO (xs (4 * j + 2))) (sV (xs (4 * j + 3))))), (4, .int (nI (4 * j))), (0, .ref b), (1, .ref xo), (2, .ref mo), (3, .ref out)]) hx hb dL_law_183 hl9 (by decide) rfl (fun ls hl9 => ?_)
          refine lv_goto (tgt := 766) hx hb dL_law_185 (by decide) ?_
          refine lv_iinc (v := (nI (4 * (j + 1)))) (lv' := [(4, .int (nI (4 * (j + 1)))), (6, .int r606), (5, .int (spc (sE (xs (4 * j + 1)) ∧ sO (xs (4 * j + 2))) (sV (xs (4 * j + 3))))), (0, .ref b), (1, .ref xo), (2, .ref mo), (3, .ref out)]) hx hb dL_law_766 hl9 (k := 2) rfl (nI_add (4 * j) 4) (by decide) rfl (fun ls hl9 => ?_)
          refine lv_goto (tgt := 23) hx hb dL_law_769 (by decide) ?_
          exact W.widen (by omega) (by omega) (ih _ _ H locs ls ⟨_, _, _, _, _, _, _, _, _, _, _, _, _, _, _, _, hC607, ⟨_, (MW.mono hM604 (by omega))⟩, ⟨_, ho608⟩, rfl⟩ hw hS (lv_sub hl9 [0, 3, 4, 5, 6] rfl))

set_option maxHeartbeats 4000000 in
set_option maxRecDepth 100000 in
theorem law_c1 {p : Program} {l : Launch} {e : Env} {s : State} {m : MethodId} {below : List Frame} {meth : Method} {c : Code} {b L : Nat} {xs : Nat → Int32} (hL : L ≤ 2048) (hx : p.tables.exec = Jvm.exec) (hb : c.code = code) (hX : va_X b L xs s s.heap) (hbl : b < s.heap.size) (hl : l.stackTraces = false) {G : hG} (B0 : hB p l s m #[Value.ref b] meth c code 7 RL G) (hbA : ¬ hFr G b) {xo ez eo bu nw0 na0 nq0 nr0 nw1 na1 nq1 nr1 bs bp bh bf bl bg mo dW dA dQ dM dS dL dR dT dZ dI dH dN dK dJ dU dO dF dP dE dX dY dG out : Nat} (hdis : ∀ p, p ∈ [xo, ez, eo, bu, nw0, na0, nq0, nr0, nw1, na1, nq1, nr1, bs, bp, bh, bf, bl, bg] → p ∉ [mo, dW, dA, dQ, dM, dS, dL, dR, dT, dZ, dI, dH, dN, dK, dJ, dU, dO, dF, dP, dE, dX, dY, dG]) (hdos : ∀ p, p ∈ [mo, dW, dA, dQ, dM, dS, dL, dR, dT, dZ, dI, dH, dN, dK, dJ, dU, dO, dF, dP, dE, dX, dY, dG] → p ∉ [out, xo, ez, eo, bu, nw0, na0, nq0, nr0, nw1, na1, nq1, nr1, bs, bp, bh, bf, bl, bg]) (hno : out ∉ [xo, ez, eo, bu, nw0, na0, nq0, nr0, nw1, na1, nq1, nr1, bs, bp, bh, bf, bl, bg]) (hno2 : out ∉ [mo, dW, dA, dQ, dM, dS, dL, dR, dT, dZ, dI, dH, dN, dK, dJ, dU, dO, dF, dP, dE, dX, dY, dG]) {j T : Nat} (hj : j < T) (hT1 : 4 * T ≤ L) (ih : ∀ (f9 : hM) (lv9 : List (Nat × Value)) (H : Heap) (locs : List Loc) (ls : Array Slot), lwI G xo ez eo bu nw0 na0 nq0 nr0 nw1 na1 nq1 nr1 bs bp bh bf bl bg mo dW dA dQ dM dS dL dR dT dZ dI dH dN dK dJ dU dO dF dP dE dX dY dG out b (j + 1) f9 lv9 → hW G f9 H → va_S (hFr G) s.heap H locs → lv_has ls 7 lv9 → W p l e room_1 s m #[Value.ref b] below meth c H locs (42 + (j + 1) * 201) (9564 + (j + 1) * 1101) (lw_Z below #[Value.ref b] s) (F0 m 23 ls [])) {gw0 : Nat → Int32} {ga0 : Nat → Int32} {gw1 : Nat → Int32} {ga1 : Nat → Int32} {mg0 : Int32} {mg1 : Int32} {n : Nat} {a : Nat} {cg : Nat} {x : Nat} {sa : Nat → Nat} {pk : Nat → Nat} {fl : Nat → Nat} {gv : Nat → Nat} {gh : Nat → Int32} {gl : Nat → Int32} {f9 : hM} {th : Int32} {go : Nat → Int64} (hC : CW G f9 xo ez eo bu nw0 na0 nq0 nr0 nw1 na1 nq1 nr1 bs bp bh bf bl bg gw0 ga0 gw1 ga1 mg0 mg1 n a cg x sa pk fl gv gh gl) (hM : MW G f9 mo dW dA dQ dM dS dL dR dT dZ dI dH dN dK dJ dU dO dF dP dE dX dY dG th (100 * j) gw0 ga0 gw1 ga1 mg0 mg1 n a cg x sa pk fl gv gh gl) (ho : f9 out = some (.inl (cJ G, 1, .inr (.inl go)))) {H : Heap} {locs : List Loc} {ls : Array Slot} (hw : hW G f9 H) (hS : va_S (hFr G) s.heap H locs) (hl9 : lv_has ls 7 [(4, .int (nI (4 * j))), (0, .ref b), (1, .ref xo), (2, .ref mo), (3, .ref out)]) : W p l e room_1 s m #[Value.ref b] below meth c H locs (42 + j * 201) (9564 + j * 1101) (lw_Z below #[Value.ref b] s) (F0 m 188 ls []) := by
  refine lv_aload_n hx hb dL_law_188 rfl (lv_at hl9 2 rfl) ?_
  refine lv_aload_n hx hb dL_law_189 rfl (lv_at hl9 1 rfl) ?_
  refine lv_iload hx hb dL_law_190 (lv_at hl9 0 rfl) ?_
  refine lv_iconst (v := 1) hx hb dL_law_192 (by decide) ?_
  refine lv_iadd hx hb dL_law_193 ?_
  refine hp_c (v := (nI (4 * j + 1))) (nI_add (4 * j) 1) ?_
  refine va_sld hx hb hX hbl hbA hS (vp_in_nI (show 4 * j + 1 < L by omega) (by omega)) dL_law_194 ?_
  refine hp_c (v := xs (4 * j + 1)) (congrArg xs (nI_clamp (by omega))) ?_
  refine lv_aload_n hx hb dL_law_195 rfl (lv_at hl9 1 rfl) ?_
  refine lv_iload hx hb dL_law_196 (lv_at hl9 0 rfl) ?_
  refine lv_iconst (v := 2) hx hb dL_law_198 (by decide) ?_
  refine lv_iadd hx hb dL_law_199 ?_
  refine hp_c (v := (nI (4 * j + 2))) (nI_add (4 * j) 2) ?_
  refine va_sld hx hb hX hbl hbA hS (vp_in_nI (show 4 * j + 2 < L by omega) (by omega)) dL_law_200 ?_
  refine hp_c (v := xs (4 * j + 2)) (congrArg xs (nI_clamp (by omega))) ?_
  refine lv_aload_n hx hb dL_law_201 rfl (lv_at hl9 1 rfl) ?_
  refine lv_iload hx hb dL_law_202 (lv_at hl9 0 rfl) ?_
  refine lv_iconst (v := 3) hx hb dL_law_204 (by decide) ?_
  refine lv_iadd hx hb dL_law_205 ?_
  refine hp_c (v := (nI (4 * j + 3))) (nI_add (4 * j) 3) ?_
  refine va_sld hx hb hX hbl hbA hS (vp_in_nI (show 4 * j + 3 < L by omega) (by omega)) dL_law_206 ?_
  refine hp_c (v := xs (4 * j + 3)) (congrArg xs (nI_clamp (by omega))) ?_
  refine lv_aload_n hx hb dL_law_207 rfl (lv_at hl9 4 rfl) ?_
  refine hp_SH (As := [.ref xo, .int (xs (4 * j + 1)), .int (xs (4 * j + 2)), .int (xs (4 * j + 3)), .ref out]) (rest := []) B0 hw hS (c_L_allow hl G f9 xo ez eo bu nw0 na0 nq0 nr0 nw1 na1 nq1 nr1 bs bp bh bf bl bg gw0 ga0 gw1 ga1 mg0 mg1 n a cg x sa pk fl gv gh gl hC out go ho hno (xs (4 * j + 1)) (xs (4 * j + 2)) (xs (4 * j + 3))) mH_L_allow qM_L_86 rfl rfl hl9.1 (Nat.le_of_ble_eq_true rfl) ⟨⟨Nat.le_of_ble_eq_true rfl, Nat.le_of_ble_eq_true rfl⟩, (by first | omega | (dsimp only; omega) | (show (_ : Nat) ≤ _; simp only [room_1]; omega)), (by first | omega | (dsimp only; omega) | (show (_ : Nat) ≤ _; simp only [room_1]; omega))⟩ dL_law_208 (fun E ce q9 f609 H locs hPX hw hS hce hcv hcl => ?_) (fun v f609 H locs hP hw hS => ?_)
  · exact hPX.elim
  · obtain ⟨hP, hk614⟩ := hP
    rcases hP with ⟨hz610, ev9, hC611, ho613⟩ | ⟨hz610, ev9, hC611, g612, ho613⟩
    · subst ev9
      have hM615 := MW.kp hM hk614 hdos
      refine W.eq (g2 := F0 m 211 ls [.int 0]) rfl ?_
      refine lv_istore (lv' := [(5, .int 0), (4, .int (nI (4 * j))), (0, .ref b), (1, .ref xo), (2, .ref mo), (3, .ref out)]) hx hb dL_law_211 hl9 (by decide) rfl (fun ls hl9 => ?_)
      refine lv_aload_n hx hb dL_law_213 rfl (lv_at hl9 4 rfl) ?_
      refine lv_aload_n hx hb dL_law_214 rfl (lv_at hl9 2 rfl) ?_
      refine lv_iload hx hb dL_law_215 (lv_at hl9 1 rfl) ?_
      refine lv_iconst (v := 1) hx hb dL_law_217 (by decide) ?_
      refine lv_iadd hx hb dL_law_218 ?_
      refine hp_c (v := (nI (4 * j + 1))) (nI_add (4 * j) 1) ?_
      refine va_sld hx hb hX hbl hbA hS (vp_in_nI (show 4 * j + 1 < L by omega) (by omega)) dL_law_219 ?_
      refine hp_c (v := xs (4 * j + 1)) (congrArg xs (nI_clamp (by omega))) ?_
      refine lv_aload_n hx hb dL_law_220 rfl (lv_at hl9 2 rfl) ?_
      refine lv_iload hx hb dL_law_221 (lv_at hl9 1 rfl) ?_
      refine lv_iconst (v := 2) hx hb dL_law_223 (by decide) ?_
      refine lv_iadd hx hb dL_law_224 ?_
      refine hp_c (v := (nI (4 * j + 2))) (nI_add (4 * j) 2) ?_
      refine va_sld hx hb hX hbl hbA hS (vp_in_nI (show 4 * j + 2 < L by omega) (by omega)) dL_law_225 ?_
      refine hp_c (v := xs (4 * j + 2)) (congrArg xs (nI_clamp (by omega))) ?_
      refine lv_aload_n hx hb dL_law_226 rfl (lv_at hl9 2 rfl) ?_
      refine lv_iload hx hb dL_law_227 (lv_at hl9 1 rfl) ?_
      refine lv_iconst (v := 3) hx hb dL_law_229 (by decide) ?_
      refine lv_iadd hx hb dL_law_230 ?_
      refine hp_c (v := (nI (4 * j + 3))) (nI_add (4 * j) 3) ?_
      refine va_sld hx hb hX hbl hbA hS (vp_in_nI (show 4 * j + 3 < L by omega) (by omega)) dL_law_231 ?_
      refine hp_c (v := xs (4 * j + 3)) (congrArg xs (nI_clamp (by omega))) ?_
      refine hp_V (ci := 5) (As := [.int (xs (4 * j + 1)), .int (xs (4 * j + 2)), .int (xs (4 * j + 3))]) (rest := []) B0 hw hS (c_W5_allow hl G f609 mo dW dA dQ dM dS dL dR dT dZ dI dH dN dK dJ dU dO dF dP dE dX dY dG th (100 * j) gw0 ga0 gw1 ga1 mg0 mg1 n a cg x sa pk fl gv gh gl hM615 (by omega) (xs (4 * j + 1)) (xs (4 * j + 2)) (xs (4 * j + 3))) mV_X5_allow qM_L_88 rfl hM615.1 rfl rfl hl9.1 (Nat.le_of_ble_eq_true rfl) ⟨⟨Nat.le_of_ble_eq_true rfl, Nat.le_of_ble_eq_true rfl⟩, (by first | omega | (dsimp only; omega) | (show (_ : Nat) ≤ _; simp only [room_1]; omega)), (by first | omega | (dsimp only; omega) | (show (_ : Nat) ≤ _; simp only [room_1]; omega))⟩ dL_law_232 (fun E ce q9 f616 H locs hPX hw hS hce hcv hcl => ?_) (fun v f616 H locs hP hw hS => ?_)
      · exact hPX.elim
      · obtain ⟨hP, he619⟩ := hP
        rcases hP with ⟨hy617, ev9, hM618⟩ | ⟨hy617, ⟨r620, ev9⟩, hM618⟩
        · subst ev9
          have hC621 := CW.eq hC611 he619 hdis (MW.fr hM615 hM618)
          have ho622 := (he619 _ hno2).trans ho613
          refine W.eq (g2 := F0 m 235 ls [.int ((selE (xs (4 * j + 1)) ga0 ga1 (xs (4 * j + 2)).toNatClampNeg))]) rfl ?_
          refine lv_istore (lv' := [(6, .int ((selE (xs (4 * j + 1)) ga0 ga1 (xs (4 * j + 2)).toNatClampNeg))), (5, .int 0), (4, .int (nI (4 * j))), (0, .ref b), (1, .ref xo), (2, .ref mo), (3, .ref out)]) hx hb dL_law_235 hl9 (by decide) rfl (fun ls hl9 => ?_)
          refine lv_goto (tgt := 766) hx hb dL_law_237 (by decide) ?_
          refine lv_iinc (v := (nI (4 * (j + 1)))) (lv' := [(4, .int (nI (4 * (j + 1)))), (6, .int ((selE (xs (4 * j + 1)) ga0 ga1 (xs (4 * j + 2)).toNatClampNeg))), (5, .int 0), (0, .ref b), (1, .ref xo), (2, .ref mo), (3, .ref out)]) hx hb dL_law_766 hl9 (k := 2) rfl (nI_add (4 * j) 4) (by decide) rfl (fun ls hl9 => ?_)
          refine lv_goto (tgt := 23) hx hb dL_law_769 (by decide) ?_
          exact W.widen (by omega) (by omega) (ih _ _ H locs ls ⟨_, _, _, _, _, _, _, _, _, _, _, _, _, _, _, _, hC621, ⟨_, (MW.mono hM618 (by omega))⟩, ⟨_, ho622⟩, rfl⟩ hw hS (lv_sub hl9 [0, 3, 4, 5, 6] rfl))
        · exact absurd hz610 hy617
    · subst ev9
      have hM623 := MW.kp hM hk614 hdos
      refine W.eq (g2 := F0 m 211 ls [.int (spc (sE (xs (4 * j + 1)) ∧ sO (xs (4 * j + 2))) (sA (xs (4 * j + 3))))]) rfl ?_
      refine lv_istore (lv' := [(5, .int (spc (sE (xs (4 * j + 1)) ∧ sO (xs (4 * j + 2))) (sA (xs (4 * j + 3))))), (4, .int (nI (4 * j))), (0, .ref b), (1, .ref xo), (2, .ref mo), (3, .ref out)]) hx hb dL_law_211 hl9 (by decide) rfl (fun ls hl9 => ?_)
      refine lv_aload_n hx hb dL_law_213 rfl (lv_at hl9 4 rfl) ?_
      refine lv_aload_n hx hb dL_law_214 rfl (lv_at hl9 2 rfl) ?_
      refine lv_iload hx hb dL_law_215 (lv_at hl9 1 rfl) ?_
      refine lv_iconst (v := 1) hx hb dL_law_217 (by decide) ?_
      refine lv_iadd hx hb dL_law_218 ?_
      refine hp_c (v := (nI (4 * j + 1))) (nI_add (4 * j) 1) ?_
      refine va_sld hx hb hX hbl hbA hS (vp_in_nI (show 4 * j + 1 < L by omega) (by omega)) dL_law_219 ?_
      refine hp_c (v := xs (4 * j + 1)) (congrArg xs (nI_clamp (by omega))) ?_
      refine lv_aload_n hx hb dL_law_220 rfl (lv_at hl9 2 rfl) ?_
      refine lv_iload hx hb dL_law_221 (lv_at hl9 1 rfl) ?_
      refine lv_iconst (v := 2) hx hb dL_law_223 (by decide) ?_
      refine lv_iadd hx hb dL_law_224 ?_
      refine hp_c (v := (nI (4 * j + 2))) (nI_add (4 * j) 2) ?_
      refine va_sld hx hb hX hbl hbA hS (vp_in_nI (show 4 * j + 2 < L by omega) (by omega)) dL_law_225 ?_
      refine hp_c (v := xs (4 * j + 2)) (congrArg xs (nI_clamp (by omega))) ?_
      refine lv_aload_n hx hb dL_law_226 rfl (lv_at hl9 2 rfl) ?_
      refine lv_iload hx hb dL_law_227 (lv_at hl9 1 rfl) ?_
      refine lv_iconst (v := 3) hx hb dL_law_229 (by decide) ?_
      refine lv_iadd hx hb dL_law_230 ?_
      refine hp_c (v := (nI (4 * j + 3))) (nI_add (4 * j) 3) ?_
      refine va_sld hx hb hX hbl hbA hS (vp_in_nI (show 4 * j + 3 < L by omega) (by omega)) dL_law_231 ?_
      refine hp_c (v := xs (4 * j + 3)) (congrArg xs (nI_clamp (by omega))) ?_
      refine hp_V (ci := 5) (As := [.int (xs (4 * j + 1)), .int (xs (4 * j + 2)), .int (xs (4 * j + 3))]) (rest := []) B0 hw hS (c_W5_allow hl G f609 mo dW dA dQ dM dS dL dR dT dZ dI dH dN dK dJ dU dO dF dP dE dX dY dG th (100 * j) gw0 ga0 gw1 ga1 mg0 mg1 n a cg x sa pk fl gv gh gl hM623 (by omega) (xs (4 * j + 1)) (xs (4 * j + 2)) (xs (4 * j + 3))) mV_X5_allow qM_L_88 rfl hM623.1 rfl rfl hl9.1 (Nat.le_of_ble_eq_true rfl) ⟨⟨Nat.le_of_ble_eq_true rfl, Nat.le_of_ble_eq_true rfl⟩, (by first | omega | (dsimp only; omega) | (show (_ : Nat) ≤ _; simp only [room_1]; omega)), (by first | omega | (dsimp only; omega) | (show (_ : Nat) ≤ _; simp only [room_1]; omega))⟩ dL_law_232 (fun E ce q9 f624 H locs hPX hw hS hce hcv hcl => ?_) (fun v f624 H locs hP hw hS => ?_)
      · exact hPX.elim
      · obtain ⟨hP, he627⟩ := hP
        rcases hP with ⟨hy625, ev9, hM626⟩ | ⟨hy625, ⟨r628, ev9⟩, hM626⟩
        · exact absurd hy625 hz610
        · subst ev9
          have hC629 := CW.eq hC611 he627 hdis (MW.fr hM623 hM626)
          have ho630 := (he627 _ hno2).trans ho613
          refine W.eq (g2 := F0 m 235 ls [.int r628]) rfl ?_
          refine lv_istore (lv' := [(6, .int r628), (5, .int (spc (sE (xs (4 * j + 1)) ∧ sO (xs (4 * j + 2))) (sA (xs (4 * j + 3))))), (4, .int (nI (4 * j))), (0, .ref b), (1, .ref xo), (2, .ref mo), (3, .ref out)]) hx hb dL_law_235 hl9 (by decide) rfl (fun ls hl9 => ?_)
          refine lv_goto (tgt := 766) hx hb dL_law_237 (by decide) ?_
          refine lv_iinc (v := (nI (4 * (j + 1)))) (lv' := [(4, .int (nI (4 * (j + 1)))), (6, .int r628), (5, .int (spc (sE (xs (4 * j + 1)) ∧ sO (xs (4 * j + 2))) (sA (xs (4 * j + 3))))), (0, .ref b), (1, .ref xo), (2, .ref mo), (3, .ref out)]) hx hb dL_law_766 hl9 (k := 2) rfl (nI_add (4 * j) 4) (by decide) rfl (fun ls hl9 => ?_)
          refine lv_goto (tgt := 23) hx hb dL_law_769 (by decide) ?_
          exact W.widen (by omega) (by omega) (ih _ _ H locs ls ⟨_, _, _, _, _, _, _, _, _, _, _, _, _, _, _, _, hC629, ⟨_, (MW.mono hM626 (by omega))⟩, ⟨_, ho630⟩, rfl⟩ hw hS (lv_sub hl9 [0, 3, 4, 5, 6] rfl))

set_option maxHeartbeats 4000000 in
set_option maxRecDepth 100000 in
theorem law_c2 {p : Program} {l : Launch} {e : Env} {s : State} {m : MethodId} {below : List Frame} {meth : Method} {c : Code} {b L : Nat} {xs : Nat → Int32} (hL : L ≤ 2048) (hx : p.tables.exec = Jvm.exec) (hb : c.code = code) (hX : va_X b L xs s s.heap) (hbl : b < s.heap.size) (hl : l.stackTraces = false) {G : hG} (B0 : hB p l s m #[Value.ref b] meth c code 7 RL G) (hbA : ¬ hFr G b) {xo ez eo bu nw0 na0 nq0 nr0 nw1 na1 nq1 nr1 bs bp bh bf bl bg mo dW dA dQ dM dS dL dR dT dZ dI dH dN dK dJ dU dO dF dP dE dX dY dG out : Nat} (hdis : ∀ p, p ∈ [xo, ez, eo, bu, nw0, na0, nq0, nr0, nw1, na1, nq1, nr1, bs, bp, bh, bf, bl, bg] → p ∉ [mo, dW, dA, dQ, dM, dS, dL, dR, dT, dZ, dI, dH, dN, dK, dJ, dU, dO, dF, dP, dE, dX, dY, dG]) (hdos : ∀ p, p ∈ [mo, dW, dA, dQ, dM, dS, dL, dR, dT, dZ, dI, dH, dN, dK, dJ, dU, dO, dF, dP, dE, dX, dY, dG] → p ∉ [out, xo, ez, eo, bu, nw0, na0, nq0, nr0, nw1, na1, nq1, nr1, bs, bp, bh, bf, bl, bg]) (hno : out ∉ [xo, ez, eo, bu, nw0, na0, nq0, nr0, nw1, na1, nq1, nr1, bs, bp, bh, bf, bl, bg]) (hno2 : out ∉ [mo, dW, dA, dQ, dM, dS, dL, dR, dT, dZ, dI, dH, dN, dK, dJ, dU, dO, dF, dP, dE, dX, dY, dG]) {j T : Nat} (hj : j < T) (hT1 : 4 * T ≤ L) (ih : ∀ (f9 : hM) (lv9 : List (Nat × Value)) (H : Heap) (locs : List Loc) (ls : Array Slot), lwI G xo ez eo bu nw0 na0 nq0 nr0 nw1 na1 nq1 nr1 bs bp bh bf bl bg mo dW dA dQ dM dS dL dR dT dZ dI dH dN dK dJ dU dO dF dP dE dX dY dG out b (j + 1) f9 lv9 → hW G f9 H → va_S (hFr G) s.heap H locs → lv_has ls 7 lv9 → W p l e room_1 s m #[Value.ref b] below meth c H locs (42 + (j + 1) * 201) (9564 + (j + 1) * 1101) (lw_Z below #[Value.ref b] s) (F0 m 23 ls [])) {gw0 : Nat → Int32} {ga0 : Nat → Int32} {gw1 : Nat → Int32} {ga1 : Nat → Int32} {mg0 : Int32} {mg1 : Int32} {n : Nat} {a : Nat} {cg : Nat} {x : Nat} {sa : Nat → Nat} {pk : Nat → Nat} {fl : Nat → Nat} {gv : Nat → Nat} {gh : Nat → Int32} {gl : Nat → Int32} {f9 : hM} {th : Int32} {go : Nat → Int64} (hC : CW G f9 xo ez eo bu nw0 na0 nq0 nr0 nw1 na1 nq1 nr1 bs bp bh bf bl bg gw0 ga0 gw1 ga1 mg0 mg1 n a cg x sa pk fl gv gh gl) (hM : MW G f9 mo dW dA dQ dM dS dL dR dT dZ dI dH dN dK dJ dU dO dF dP dE dX dY dG th (100 * j) gw0 ga0 gw1 ga1 mg0 mg1 n a cg x sa pk fl gv gh gl) (ho : f9 out = some (.inl (cJ G, 1, .inr (.inl go)))) {H : Heap} {locs : List Loc} {ls : Array Slot} (hw : hW G f9 H) (hS : va_S (hFr G) s.heap H locs) (hl9 : lv_has ls 7 [(4, .int (nI (4 * j))), (0, .ref b), (1, .ref xo), (2, .ref mo), (3, .ref out)]) : W p l e room_1 s m #[Value.ref b] below meth c H locs (42 + j * 201) (9564 + j * 1101) (lw_Z below #[Value.ref b] s) (F0 m 240 ls []) := by
  refine lv_aload_n hx hb dL_law_240 rfl (lv_at hl9 2 rfl) ?_
  refine lv_aload_n hx hb dL_law_241 rfl (lv_at hl9 1 rfl) ?_
  refine lv_iload hx hb dL_law_242 (lv_at hl9 0 rfl) ?_
  refine lv_iconst (v := 1) hx hb dL_law_244 (by decide) ?_
  refine lv_iadd hx hb dL_law_245 ?_
  refine hp_c (v := (nI (4 * j + 1))) (nI_add (4 * j) 1) ?_
  refine va_sld hx hb hX hbl hbA hS (vp_in_nI (show 4 * j + 1 < L by omega) (by omega)) dL_law_246 ?_
  refine hp_c (v := xs (4 * j + 1)) (congrArg xs (nI_clamp (by omega))) ?_
  refine lv_aload_n hx hb dL_law_247 rfl (lv_at hl9 1 rfl) ?_
  refine lv_iload hx hb dL_law_248 (lv_at hl9 0 rfl) ?_
  refine lv_iconst (v := 2) hx hb dL_law_250 (by decide) ?_
  refine lv_iadd hx hb dL_law_251 ?_
  refine hp_c (v := (nI (4 * j + 2))) (nI_add (4 * j) 2) ?_
  refine va_sld hx hb hX hbl hbA hS (vp_in_nI (show 4 * j + 2 < L by omega) (by omega)) dL_law_252 ?_
  refine hp_c (v := xs (4 * j + 2)) (congrArg xs (nI_clamp (by omega))) ?_
  refine lv_aload_n hx hb dL_law_253 rfl (lv_at hl9 4 rfl) ?_
  refine hp_SH (As := [.ref xo, .int (xs (4 * j + 1)), .int (xs (4 * j + 2)), .ref out]) (rest := []) B0 hw hS (c_L_setMagic hl G f9 xo ez eo bu nw0 na0 nq0 nr0 nw1 na1 nq1 nr1 bs bp bh bf bl bg gw0 ga0 gw1 ga1 mg0 mg1 n a cg x sa pk fl gv gh gl hC out go ho hno (xs (4 * j + 1)) (xs (4 * j + 2))) mH_L_setMagic qM_L_89 rfl rfl hl9.1 (Nat.le_of_ble_eq_true rfl) ⟨⟨Nat.le_of_ble_eq_true rfl, Nat.le_of_ble_eq_true rfl⟩, (by first | omega | (dsimp only; omega) | (show (_ : Nat) ≤ _; simp only [room_1]; omega)), (by first | omega | (dsimp only; omega) | (show (_ : Nat) ≤ _; simp only [room_1]; omega))⟩ dL_law_254 (fun E ce q9 f631 H locs hPX hw hS hce hcv hcl => ?_) (fun v f631 H locs hP hw hS => ?_)
  · exact hPX.elim
  · obtain ⟨hP, hk636⟩ := hP
    rcases hP with ⟨hz632, ev9, hC633, ho635⟩ | ⟨hz632, ev9, hC633, g634, ho635⟩
    · subst ev9
      have hM637 := MW.kp hM hk636 hdos
      refine W.eq (g2 := F0 m 257 ls [.int 0]) rfl ?_
      refine lv_istore (lv' := [(5, .int 0), (4, .int (nI (4 * j))), (0, .ref b), (1, .ref xo), (2, .ref mo), (3, .ref out)]) hx hb dL_law_257 hl9 (by decide) rfl (fun ls hl9 => ?_)
      refine lv_aload_n hx hb dL_law_259 rfl (lv_at hl9 4 rfl) ?_
      refine lv_aload_n hx hb dL_law_260 rfl (lv_at hl9 2 rfl) ?_
      refine lv_iload hx hb dL_law_261 (lv_at hl9 1 rfl) ?_
      refine lv_iconst (v := 1) hx hb dL_law_263 (by decide) ?_
      refine lv_iadd hx hb dL_law_264 ?_
      refine hp_c (v := (nI (4 * j + 1))) (nI_add (4 * j) 1) ?_
      refine va_sld hx hb hX hbl hbA hS (vp_in_nI (show 4 * j + 1 < L by omega) (by omega)) dL_law_265 ?_
      refine hp_c (v := xs (4 * j + 1)) (congrArg xs (nI_clamp (by omega))) ?_
      refine lv_aload_n hx hb dL_law_266 rfl (lv_at hl9 2 rfl) ?_
      refine lv_iload hx hb dL_law_267 (lv_at hl9 1 rfl) ?_
      refine lv_iconst (v := 2) hx hb dL_law_269 (by decide) ?_
      refine lv_iadd hx hb dL_law_270 ?_
      refine hp_c (v := (nI (4 * j + 2))) (nI_add (4 * j) 2) ?_
      refine va_sld hx hb hX hbl hbA hS (vp_in_nI (show 4 * j + 2 < L by omega) (by omega)) dL_law_271 ?_
      refine hp_c (v := xs (4 * j + 2)) (congrArg xs (nI_clamp (by omega))) ?_
      refine hp_V (ci := 5) (As := [.int (xs (4 * j + 1)), .int (xs (4 * j + 2))]) (rest := []) B0 hw hS (c_W5_setMagic hl G f631 mo dW dA dQ dM dS dL dR dT dZ dI dH dN dK dJ dU dO dF dP dE dX dY dG th (100 * j) gw0 ga0 gw1 ga1 mg0 mg1 n a cg x sa pk fl gv gh gl hM637 (by omega) (xs (4 * j + 1)) (xs (4 * j + 2))) mV_X5_setMagic qM_L_92 rfl hM637.1 rfl rfl hl9.1 (Nat.le_of_ble_eq_true rfl) ⟨⟨Nat.le_of_ble_eq_true rfl, Nat.le_of_ble_eq_true rfl⟩, (by first | omega | (dsimp only; omega) | (show (_ : Nat) ≤ _; simp only [room_1]; omega)), (by first | omega | (dsimp only; omega) | (show (_ : Nat) ≤ _; simp only [room_1]; omega))⟩ dL_law_272 (fun E ce q9 f638 H locs hPX hw hS hce hcv hcl => ?_) (fun v f638 H locs hP hw hS => ?_)
      · exact hPX.elim
      · obtain ⟨hP, he641⟩ := hP
        rcases hP with ⟨hy639, ev9, hM640⟩ | ⟨hy639, ⟨r642, ev9⟩, hM640⟩
        · subst ev9
          have hC643 := CW.eq hC633 he641 hdis (MW.fr hM637 hM640)
          have ho644 := (he641 _ hno2).trans ho635
          refine W.eq (g2 := F0 m 275 ls [.int ((if (xs (4 * j + 1)) = 0 then mg0 else mg1))]) rfl ?_
          refine lv_istore (lv' := [(6, .int ((if (xs (4 * j + 1)) = 0 then mg0 else mg1))), (5, .int 0), (4, .int (nI (4 * j))), (0, .ref b), (1, .ref xo), (2, .ref mo), (3, .ref out)]) hx hb dL_law_275 hl9 (by decide) rfl (fun ls hl9 => ?_)
          refine lv_goto (tgt := 766) hx hb dL_law_277 (by decide) ?_
          refine lv_iinc (v := (nI (4 * (j + 1)))) (lv' := [(4, .int (nI (4 * (j + 1)))), (6, .int ((if (xs (4 * j + 1)) = 0 then mg0 else mg1))), (5, .int 0), (0, .ref b), (1, .ref xo), (2, .ref mo), (3, .ref out)]) hx hb dL_law_766 hl9 (k := 2) rfl (nI_add (4 * j) 4) (by decide) rfl (fun ls hl9 => ?_)
          refine lv_goto (tgt := 23) hx hb dL_law_769 (by decide) ?_
          exact W.widen (by omega) (by omega) (ih _ _ H locs ls ⟨_, _, _, _, _, _, _, _, _, _, _, _, _, _, _, _, hC643, ⟨_, (MW.mono hM640 (by omega))⟩, ⟨_, ho644⟩, rfl⟩ hw hS (lv_sub hl9 [0, 3, 4, 5, 6] rfl))
        · exact absurd hz632 hy639
    · subst ev9
      have hM645 := MW.kp hM hk636 hdos
      refine W.eq (g2 := F0 m 257 ls [.int (spc (sE (xs (4 * j + 1))) True)]) rfl ?_
      refine lv_istore (lv' := [(5, .int (spc (sE (xs (4 * j + 1))) True)), (4, .int (nI (4 * j))), (0, .ref b), (1, .ref xo), (2, .ref mo), (3, .ref out)]) hx hb dL_law_257 hl9 (by decide) rfl (fun ls hl9 => ?_)
      refine lv_aload_n hx hb dL_law_259 rfl (lv_at hl9 4 rfl) ?_
      refine lv_aload_n hx hb dL_law_260 rfl (lv_at hl9 2 rfl) ?_
      refine lv_iload hx hb dL_law_261 (lv_at hl9 1 rfl) ?_
      refine lv_iconst (v := 1) hx hb dL_law_263 (by decide) ?_
      refine lv_iadd hx hb dL_law_264 ?_
      refine hp_c (v := (nI (4 * j + 1))) (nI_add (4 * j) 1) ?_
      refine va_sld hx hb hX hbl hbA hS (vp_in_nI (show 4 * j + 1 < L by omega) (by omega)) dL_law_265 ?_
      refine hp_c (v := xs (4 * j + 1)) (congrArg xs (nI_clamp (by omega))) ?_
      refine lv_aload_n hx hb dL_law_266 rfl (lv_at hl9 2 rfl) ?_
      refine lv_iload hx hb dL_law_267 (lv_at hl9 1 rfl) ?_
      refine lv_iconst (v := 2) hx hb dL_law_269 (by decide) ?_
      refine lv_iadd hx hb dL_law_270 ?_
      refine hp_c (v := (nI (4 * j + 2))) (nI_add (4 * j) 2) ?_
      refine va_sld hx hb hX hbl hbA hS (vp_in_nI (show 4 * j + 2 < L by omega) (by omega)) dL_law_271 ?_
      refine hp_c (v := xs (4 * j + 2)) (congrArg xs (nI_clamp (by omega))) ?_
      refine hp_V (ci := 5) (As := [.int (xs (4 * j + 1)), .int (xs (4 * j + 2))]) (rest := []) B0 hw hS (c_W5_setMagic hl G f631 mo dW dA dQ dM dS dL dR dT dZ dI dH dN dK dJ dU dO dF dP dE dX dY dG th (100 * j) gw0 ga0 gw1 ga1 mg0 mg1 n a cg x sa pk fl gv gh gl hM645 (by omega) (xs (4 * j + 1)) (xs (4 * j + 2))) mV_X5_setMagic qM_L_92 rfl hM645.1 rfl rfl hl9.1 (Nat.le_of_ble_eq_true rfl) ⟨⟨Nat.le_of_ble_eq_true rfl, Nat.le_of_ble_eq_true rfl⟩, (by first | omega | (dsimp only; omega) | (show (_ : Nat) ≤ _; simp only [room_1]; omega)), (by first | omega | (dsimp only; omega) | (show (_ : Nat) ≤ _; simp only [room_1]; omega))⟩ dL_law_272 (fun E ce q9 f646 H locs hPX hw hS hce hcv hcl => ?_) (fun v f646 H locs hP hw hS => ?_)
      · exact hPX.elim
      · obtain ⟨hP, he649⟩ := hP
        rcases hP with ⟨hy647, ev9, hM648⟩ | ⟨hy647, ⟨r650, ev9⟩, hM648⟩
        · exact absurd hy647 hz632
        · subst ev9
          have hC651 := CW.eq hC633 he649 hdis (MW.fr hM645 hM648)
          have ho652 := (he649 _ hno2).trans ho635
          refine W.eq (g2 := F0 m 275 ls [.int r650]) rfl ?_
          refine lv_istore (lv' := [(6, .int r650), (5, .int (spc (sE (xs (4 * j + 1))) True)), (4, .int (nI (4 * j))), (0, .ref b), (1, .ref xo), (2, .ref mo), (3, .ref out)]) hx hb dL_law_275 hl9 (by decide) rfl (fun ls hl9 => ?_)
          refine lv_goto (tgt := 766) hx hb dL_law_277 (by decide) ?_
          refine lv_iinc (v := (nI (4 * (j + 1)))) (lv' := [(4, .int (nI (4 * (j + 1)))), (6, .int r650), (5, .int (spc (sE (xs (4 * j + 1))) True)), (0, .ref b), (1, .ref xo), (2, .ref mo), (3, .ref out)]) hx hb dL_law_766 hl9 (k := 2) rfl (nI_add (4 * j) 4) (by decide) rfl (fun ls hl9 => ?_)
          refine lv_goto (tgt := 23) hx hb dL_law_769 (by decide) ?_
          exact W.widen (by omega) (by omega) (ih _ _ H locs ls ⟨_, _, _, _, _, _, _, _, _, _, _, _, _, _, _, _, hC651, ⟨_, (MW.mono hM648 (by omega))⟩, ⟨_, ho652⟩, rfl⟩ hw hS (lv_sub hl9 [0, 3, 4, 5, 6] rfl))

set_option maxHeartbeats 4000000 in
set_option maxRecDepth 100000 in
theorem law_c3 {p : Program} {l : Launch} {e : Env} {s : State} {m : MethodId} {below : List Frame} {meth : Method} {c : Code} {b L : Nat} {xs : Nat → Int32} (hL : L ≤ 2048) (hx : p.tables.exec = Jvm.exec) (hb : c.code = code) (hX : va_X b L xs s s.heap) (hbl : b < s.heap.size) (hl : l.stackTraces = false) {G : hG} (B0 : hB p l s m #[Value.ref b] meth c code 7 RL G) (hbA : ¬ hFr G b) {xo ez eo bu nw0 na0 nq0 nr0 nw1 na1 nq1 nr1 bs bp bh bf bl bg mo dW dA dQ dM dS dL dR dT dZ dI dH dN dK dJ dU dO dF dP dE dX dY dG out : Nat} (hdis : ∀ p, p ∈ [xo, ez, eo, bu, nw0, na0, nq0, nr0, nw1, na1, nq1, nr1, bs, bp, bh, bf, bl, bg] → p ∉ [mo, dW, dA, dQ, dM, dS, dL, dR, dT, dZ, dI, dH, dN, dK, dJ, dU, dO, dF, dP, dE, dX, dY, dG]) (hdos : ∀ p, p ∈ [mo, dW, dA, dQ, dM, dS, dL, dR, dT, dZ, dI, dH, dN, dK, dJ, dU, dO, dF, dP, dE, dX, dY, dG] → p ∉ [out, xo, ez, eo, bu, nw0, na0, nq0, nr0, nw1, na1, nq1, nr1, bs, bp, bh, bf, bl, bg]) (hno : out ∉ [xo, ez, eo, bu, nw0, na0, nq0, nr0, nw1, na1, nq1, nr1, bs, bp, bh, bf, bl, bg]) (hno2 : out ∉ [mo, dW, dA, dQ, dM, dS, dL, dR, dT, dZ, dI, dH, dN, dK, dJ, dU, dO, dF, dP, dE, dX, dY, dG]) {j T : Nat} (hj : j < T) (hT1 : 4 * T ≤ L) (ih : ∀ (f9 : hM) (lv9 : List (Nat × Value)) (H : Heap) (locs : List Loc) (ls : Array Slot), lwI G xo ez eo bu nw0 na0 nq0 nr0 nw1 na1 nq1 nr1 bs bp bh bf bl bg mo dW dA dQ dM dS dL dR dT dZ dI dH dN dK dJ dU dO dF dP dE dX dY dG out b (j + 1) f9 lv9 → hW G f9 H → va_S (hFr G) s.heap H locs → lv_has ls 7 lv9 → W p l e room_1 s m #[Value.ref b] below meth c H locs (42 + (j + 1) * 201) (9564 + (j + 1) * 1101) (lw_Z below #[Value.ref b] s) (F0 m 23 ls [])) {gw0 : Nat → Int32} {ga0 : Nat → Int32} {gw1 : Nat → Int32} {ga1 : Nat → Int32} {mg0 : Int32} {mg1 : Int32} {n : Nat} {a : Nat} {cg : Nat} {x : Nat} {sa : Nat → Nat} {pk : Nat → Nat} {fl : Nat → Nat} {gv : Nat → Nat} {gh : Nat → Int32} {gl : Nat → Int32} {f9 : hM} {th : Int32} {go : Nat → Int64} (hC : CW G f9 xo ez eo bu nw0 na0 nq0 nr0 nw1 na1 nq1 nr1 bs bp bh bf bl bg gw0 ga0 gw1 ga1 mg0 mg1 n a cg x sa pk fl gv gh gl) (hM : MW G f9 mo dW dA dQ dM dS dL dR dT dZ dI dH dN dK dJ dU dO dF dP dE dX dY dG th (100 * j) gw0 ga0 gw1 ga1 mg0 mg1 n a cg x sa pk fl gv gh gl) (ho : f9 out = some (.inl (cJ G, 1, .inr (.inl go)))) {H : Heap} {locs : List Loc} {ls : Array Slot} (hw : hW G f9 H) (hS : va_S (hFr G) s.heap H locs) (hl9 : lv_has ls 7 [(4, .int (nI (4 * j))), (0, .ref b), (1, .ref xo), (2, .ref mo), (3, .ref out)]) : W p l e room_1 s m #[Value.ref b] below meth c H locs (42 + j * 201) (9564 + j * 1101) (lw_Z below #[Value.ref b] s) (F0 m 280 ls []) := by
  refine lv_aload_n hx hb dL_law_280 rfl (lv_at hl9 2 rfl) ?_
  refine lv_aload_n hx hb dL_law_281 rfl (lv_at hl9 1 rfl) ?_
  refine lv_iload hx hb dL_law_282 (lv_at hl9 0 rfl) ?_
  refine lv_iconst (v := 1) hx hb dL_law_284 (by decide) ?_
  refine lv_iadd hx hb dL_law_285 ?_
  refine hp_c (v := (nI (4 * j + 1))) (nI_add (4 * j) 1) ?_
  refine va_sld hx hb hX hbl hbA hS (vp_in_nI (show 4 * j + 1 < L by omega) (by omega)) dL_law_286 ?_
  refine hp_c (v := xs (4 * j + 1)) (congrArg xs (nI_clamp (by omega))) ?_
  refine lv_aload_n hx hb dL_law_287 rfl (lv_at hl9 4 rfl) ?_
  refine hp_SH (As := [.ref xo, .int (xs (4 * j + 1)), .ref out]) (rest := []) B0 hw hS (c_L_open hl G f9 xo ez eo bu nw0 na0 nq0 nr0 nw1 na1 nq1 nr1 bs bp bh bf bl bg gw0 ga0 gw1 ga1 mg0 mg1 n a cg x sa pk fl gv gh gl hC out go ho hno (xs (4 * j + 1))) mH_L_open qM_L_93 rfl rfl hl9.1 (Nat.le_of_ble_eq_true rfl) ⟨⟨Nat.le_of_ble_eq_true rfl, Nat.le_of_ble_eq_true rfl⟩, (by first | omega | (dsimp only; omega) | (show (_ : Nat) ≤ _; simp only [room_1]; omega)), (by first | omega | (dsimp only; omega) | (show (_ : Nat) ≤ _; simp only [room_1]; omega))⟩ dL_law_288 (fun E ce q9 f653 H locs hPX hw hS hce hcv hcl => ?_) (fun v f653 H locs hP hw hS => ?_)
  · exact hPX.elim
  · obtain ⟨⟨k654, ev9⟩, hC655, ⟨g656, ho657⟩, hk658⟩ := hP
    subst ev9
    have hM659 := MW.kp hM hk658 hdos
    refine W.eq (g2 := F0 m 291 ls [.int k654]) rfl ?_
    refine lv_istore (lv' := [(5, .int k654), (4, .int (nI (4 * j))), (0, .ref b), (1, .ref xo), (2, .ref mo), (3, .ref out)]) hx hb dL_law_291 hl9 (by decide) rfl (fun ls hl9 => ?_)
    refine lv_aload_n hx hb dL_law_293 rfl (lv_at hl9 4 rfl) ?_
    refine lv_aload_n hx hb dL_law_294 rfl (lv_at hl9 2 rfl) ?_
    refine lv_iload hx hb dL_law_295 (lv_at hl9 1 rfl) ?_
    refine lv_iconst (v := 1) hx hb dL_law_297 (by decide) ?_
    refine lv_iadd hx hb dL_law_298 ?_
    refine hp_c (v := (nI (4 * j + 1))) (nI_add (4 * j) 1) ?_
    refine va_sld hx hb hX hbl hbA hS (vp_in_nI (show 4 * j + 1 < L by omega) (by omega)) dL_law_299 ?_
    refine hp_c (v := xs (4 * j + 1)) (congrArg xs (nI_clamp (by omega))) ?_
    refine hp_V (ci := 5) (As := [.int (xs (4 * j + 1))]) (rest := []) B0 hw hS (c_W5_open hl G f653 mo dW dA dQ dM dS dL dR dT dZ dI dH dN dK dJ dU dO dF dP dE dX dY dG th (100 * j) gw0 ga0 gw1 ga1 mg0 mg1 n a cg x sa pk fl gv gh gl hM659 (by omega) (xs (4 * j + 1))) mV_X5_open qM_L_96 rfl hM659.1 rfl rfl hl9.1 (Nat.le_of_ble_eq_true rfl) ⟨⟨Nat.le_of_ble_eq_true rfl, Nat.le_of_ble_eq_true rfl⟩, (by first | omega | (dsimp only; omega) | (show (_ : Nat) ≤ _; simp only [room_1]; omega)), (by first | omega | (dsimp only; omega) | (show (_ : Nat) ≤ _; simp only [room_1]; omega))⟩ dL_law_300 (fun E ce q9 f660 H locs hPX hw hS hce hcv hcl => ?_) (fun v f660 H locs hP hw hS => ?_)
    · exact hPX.elim
    · obtain ⟨⟨r661, ev9⟩, ⟨t662, hM663⟩, he664⟩ := hP
      subst ev9
      have hC665 := CW.eq hC655 he664 hdis (MW.fr hM659 hM663)
      have ho666 := (he664 _ hno2).trans ho657
      refine W.eq (g2 := F0 m 303 ls [.int r661]) rfl ?_
      refine lv_istore (lv' := [(6, .int r661), (5, .int k654), (4, .int (nI (4 * j))), (0, .ref b), (1, .ref xo), (2, .ref mo), (3, .ref out)]) hx hb dL_law_303 hl9 (by decide) rfl (fun ls hl9 => ?_)
      refine lv_goto (tgt := 766) hx hb dL_law_305 (by decide) ?_
      refine lv_iinc (v := (nI (4 * (j + 1)))) (lv' := [(4, .int (nI (4 * (j + 1)))), (6, .int r661), (5, .int k654), (0, .ref b), (1, .ref xo), (2, .ref mo), (3, .ref out)]) hx hb dL_law_766 hl9 (k := 2) rfl (nI_add (4 * j) 4) (by decide) rfl (fun ls hl9 => ?_)
      refine lv_goto (tgt := 23) hx hb dL_law_769 (by decide) ?_
      exact W.widen (by omega) (by omega) (ih _ _ H locs ls ⟨_, _, _, _, _, _, _, _, _, _, _, _, _, _, _, _, hC665, ⟨_, (MW.mono hM663 (by omega))⟩, ⟨_, ho666⟩, rfl⟩ hw hS (lv_sub hl9 [0, 3, 4, 5, 6] rfl))

set_option maxHeartbeats 4000000 in
set_option maxRecDepth 100000 in
theorem law_c4 {p : Program} {l : Launch} {e : Env} {s : State} {m : MethodId} {below : List Frame} {meth : Method} {c : Code} {b L : Nat} {xs : Nat → Int32} (hL : L ≤ 2048) (hx : p.tables.exec = Jvm.exec) (hb : c.code = code) (hX : va_X b L xs s s.heap) (hbl : b < s.heap.size) (hl : l.stackTraces = false) {G : hG} (B0 : hB p l s m #[Value.ref b] meth c code 7 RL G) (hbA : ¬ hFr G b) {xo ez eo bu nw0 na0 nq0 nr0 nw1 na1 nq1 nr1 bs bp bh bf bl bg mo dW dA dQ dM dS dL dR dT dZ dI dH dN dK dJ dU dO dF dP dE dX dY dG out : Nat} (hdis : ∀ p, p ∈ [xo, ez, eo, bu, nw0, na0, nq0, nr0, nw1, na1, nq1, nr1, bs, bp, bh, bf, bl, bg] → p ∉ [mo, dW, dA, dQ, dM, dS, dL, dR, dT, dZ, dI, dH, dN, dK, dJ, dU, dO, dF, dP, dE, dX, dY, dG]) (hdos : ∀ p, p ∈ [mo, dW, dA, dQ, dM, dS, dL, dR, dT, dZ, dI, dH, dN, dK, dJ, dU, dO, dF, dP, dE, dX, dY, dG] → p ∉ [out, xo, ez, eo, bu, nw0, na0, nq0, nr0, nw1, na1, nq1, nr1, bs, bp, bh, bf, bl, bg]) (hno : out ∉ [xo, ez, eo, bu, nw0, na0, nq0, nr0, nw1, na1, nq1, nr1, bs, bp, bh, bf, bl, bg]) (hno2 : out ∉ [mo, dW, dA, dQ, dM, dS, dL, dR, dT, dZ, dI, dH, dN, dK, dJ, dU, dO, dF, dP, dE, dX, dY, dG]) {j T : Nat} (hj : j < T) (hT1 : 4 * T ≤ L) (ih : ∀ (f9 : hM) (lv9 : List (Nat × Value)) (H : Heap) (locs : List Loc) (ls : Array Slot), lwI G xo ez eo bu nw0 na0 nq0 nr0 nw1 na1 nq1 nr1 bs bp bh bf bl bg mo dW dA dQ dM dS dL dR dT dZ dI dH dN dK dJ dU dO dF dP dE dX dY dG out b (j + 1) f9 lv9 → hW G f9 H → va_S (hFr G) s.heap H locs → lv_has ls 7 lv9 → W p l e room_1 s m #[Value.ref b] below meth c H locs (42 + (j + 1) * 201) (9564 + (j + 1) * 1101) (lw_Z below #[Value.ref b] s) (F0 m 23 ls [])) {gw0 : Nat → Int32} {ga0 : Nat → Int32} {gw1 : Nat → Int32} {ga1 : Nat → Int32} {mg0 : Int32} {mg1 : Int32} {n : Nat} {a : Nat} {cg : Nat} {x : Nat} {sa : Nat → Nat} {pk : Nat → Nat} {fl : Nat → Nat} {gv : Nat → Nat} {gh : Nat → Int32} {gl : Nat → Int32} {f9 : hM} {th : Int32} {go : Nat → Int64} (hC : CW G f9 xo ez eo bu nw0 na0 nq0 nr0 nw1 na1 nq1 nr1 bs bp bh bf bl bg gw0 ga0 gw1 ga1 mg0 mg1 n a cg x sa pk fl gv gh gl) (hM : MW G f9 mo dW dA dQ dM dS dL dR dT dZ dI dH dN dK dJ dU dO dF dP dE dX dY dG th (100 * j) gw0 ga0 gw1 ga1 mg0 mg1 n a cg x sa pk fl gv gh gl) (ho : f9 out = some (.inl (cJ G, 1, .inr (.inl go)))) {H : Heap} {locs : List Loc} {ls : Array Slot} (hw : hW G f9 H) (hS : va_S (hFr G) s.heap H locs) (hl9 : lv_has ls 7 [(4, .int (nI (4 * j))), (0, .ref b), (1, .ref xo), (2, .ref mo), (3, .ref out)]) : W p l e room_1 s m #[Value.ref b] below meth c H locs (42 + j * 201) (9564 + j * 1101) (lw_Z below #[Value.ref b] s) (F0 m 308 ls []) := by
  refine lv_aload_n hx hb dL_law_308 rfl (lv_at hl9 2 rfl) ?_
  refine lv_aload_n hx hb dL_law_309 rfl (lv_at hl9 1 rfl) ?_
  refine lv_iload hx hb dL_law_310 (lv_at hl9 0 rfl) ?_
  refine lv_iconst (v := 1) hx hb dL_law_312 (by decide) ?_
  refine lv_iadd hx hb dL_law_313 ?_
  refine hp_c (v := (nI (4 * j + 1))) (nI_add (4 * j) 1) ?_
  refine va_sld hx hb hX hbl hbA hS (vp_in_nI (show 4 * j + 1 < L by omega) (by omega)) dL_law_314 ?_
  refine hp_c (v := xs (4 * j + 1)) (congrArg xs (nI_clamp (by omega))) ?_
  refine lv_aload_n hx hb dL_law_315 rfl (lv_at hl9 4 rfl) ?_
  refine hp_SH (As := [.ref xo, .int (xs (4 * j + 1)), .ref out]) (rest := []) B0 hw hS (c_L_close hl G f9 xo ez eo bu nw0 na0 nq0 nr0 nw1 na1 nq1 nr1 bs bp bh bf bl bg gw0 ga0 gw1 ga1 mg0 mg1 n a cg x sa pk fl gv gh gl hC out go ho hno (xs (4 * j + 1))) mH_L_close qM_L_97 rfl rfl hl9.1 (Nat.le_of_ble_eq_true rfl) ⟨⟨Nat.le_of_ble_eq_true rfl, Nat.le_of_ble_eq_true rfl⟩, (by first | omega | (dsimp only; omega) | (show (_ : Nat) ≤ _; simp only [room_1]; omega)), (by first | omega | (dsimp only; omega) | (show (_ : Nat) ≤ _; simp only [room_1]; omega))⟩ dL_law_316 (fun E ce q9 f667 H locs hPX hw hS hce hcv hcl => ?_) (fun v f667 H locs hP hw hS => ?_)
  · exact hPX.elim
  · obtain ⟨⟨k668, ev9⟩, hC669, ⟨g670, ho671⟩, hk672⟩ := hP
    subst ev9
    have hM673 := MW.kp hM hk672 hdos
    refine W.eq (g2 := F0 m 319 ls [.int k668]) rfl ?_
    refine lv_istore (lv' := [(5, .int k668), (4, .int (nI (4 * j))), (0, .ref b), (1, .ref xo), (2, .ref mo), (3, .ref out)]) hx hb dL_law_319 hl9 (by decide) rfl (fun ls hl9 => ?_)
    refine lv_aload_n hx hb dL_law_321 rfl (lv_at hl9 4 rfl) ?_
    refine lv_aload_n hx hb dL_law_322 rfl (lv_at hl9 2 rfl) ?_
    refine lv_iload hx hb dL_law_323 (lv_at hl9 1 rfl) ?_
    refine lv_iconst (v := 1) hx hb dL_law_325 (by decide) ?_
    refine lv_iadd hx hb dL_law_326 ?_
    refine hp_c (v := (nI (4 * j + 1))) (nI_add (4 * j) 1) ?_
    refine va_sld hx hb hX hbl hbA hS (vp_in_nI (show 4 * j + 1 < L by omega) (by omega)) dL_law_327 ?_
    refine hp_c (v := xs (4 * j + 1)) (congrArg xs (nI_clamp (by omega))) ?_
    refine hp_V (ci := 5) (As := [.int (xs (4 * j + 1))]) (rest := []) B0 hw hS (c_W5_close hl G f667 mo dW dA dQ dM dS dL dR dT dZ dI dH dN dK dJ dU dO dF dP dE dX dY dG th (100 * j) gw0 ga0 gw1 ga1 mg0 mg1 n a cg x sa pk fl gv gh gl hM673 (by omega) (xs (4 * j + 1))) mV_X5_close qM_L_99 rfl hM673.1 rfl rfl hl9.1 (Nat.le_of_ble_eq_true rfl) ⟨⟨Nat.le_of_ble_eq_true rfl, Nat.le_of_ble_eq_true rfl⟩, (by first | omega | (dsimp only; omega) | (show (_ : Nat) ≤ _; simp only [room_1]; omega)), (by first | omega | (dsimp only; omega) | (show (_ : Nat) ≤ _; simp only [room_1]; omega))⟩ dL_law_328 (fun E ce q9 f674 H locs hPX hw hS hce hcv hcl => ?_) (fun v f674 H locs hP hw hS => ?_)
    · exact hPX.elim
    · obtain ⟨⟨r675, ev9⟩, ⟨t676, hM677⟩, he678⟩ := hP
      subst ev9
      have hC679 := CW.eq hC669 he678 hdis (MW.fr hM673 hM677)
      have ho680 := (he678 _ hno2).trans ho671
      refine W.eq (g2 := F0 m 331 ls [.int r675]) rfl ?_
      refine lv_istore (lv' := [(6, .int r675), (5, .int k668), (4, .int (nI (4 * j))), (0, .ref b), (1, .ref xo), (2, .ref mo), (3, .ref out)]) hx hb dL_law_331 hl9 (by decide) rfl (fun ls hl9 => ?_)
      refine lv_goto (tgt := 766) hx hb dL_law_333 (by decide) ?_
      refine lv_iinc (v := (nI (4 * (j + 1)))) (lv' := [(4, .int (nI (4 * (j + 1)))), (6, .int r675), (5, .int k668), (0, .ref b), (1, .ref xo), (2, .ref mo), (3, .ref out)]) hx hb dL_law_766 hl9 (k := 2) rfl (nI_add (4 * j) 4) (by decide) rfl (fun ls hl9 => ?_)
      refine lv_goto (tgt := 23) hx hb dL_law_769 (by decide) ?_
      exact W.widen (by omega) (by omega) (ih _ _ H locs ls ⟨_, _, _, _, _, _, _, _, _, _, _, _, _, _, _, _, hC679, ⟨_, (MW.mono hM677 (by omega))⟩, ⟨_, ho680⟩, rfl⟩ hw hS (lv_sub hl9 [0, 3, 4, 5, 6] rfl))

set_option maxHeartbeats 4000000 in
set_option maxRecDepth 100000 in
theorem law_c5 {p : Program} {l : Launch} {e : Env} {s : State} {m : MethodId} {below : List Frame} {meth : Method} {c : Code} {b L : Nat} {xs : Nat → Int32} (hL : L ≤ 2048) (hx : p.tables.exec = Jvm.exec) (hb : c.code = code) (hX : va_X b L xs s s.heap) (hbl : b < s.heap.size) (hl : l.stackTraces = false) {G : hG} (B0 : hB p l s m #[Value.ref b] meth c code 7 RL G) (hbA : ¬ hFr G b) {xo ez eo bu nw0 na0 nq0 nr0 nw1 na1 nq1 nr1 bs bp bh bf bl bg mo dW dA dQ dM dS dL dR dT dZ dI dH dN dK dJ dU dO dF dP dE dX dY dG out : Nat} (hdis : ∀ p, p ∈ [xo, ez, eo, bu, nw0, na0, nq0, nr0, nw1, na1, nq1, nr1, bs, bp, bh, bf, bl, bg] → p ∉ [mo, dW, dA, dQ, dM, dS, dL, dR, dT, dZ, dI, dH, dN, dK, dJ, dU, dO, dF, dP, dE, dX, dY, dG]) (hdos : ∀ p, p ∈ [mo, dW, dA, dQ, dM, dS, dL, dR, dT, dZ, dI, dH, dN, dK, dJ, dU, dO, dF, dP, dE, dX, dY, dG] → p ∉ [out, xo, ez, eo, bu, nw0, na0, nq0, nr0, nw1, na1, nq1, nr1, bs, bp, bh, bf, bl, bg]) (hno : out ∉ [xo, ez, eo, bu, nw0, na0, nq0, nr0, nw1, na1, nq1, nr1, bs, bp, bh, bf, bl, bg]) (hno2 : out ∉ [mo, dW, dA, dQ, dM, dS, dL, dR, dT, dZ, dI, dH, dN, dK, dJ, dU, dO, dF, dP, dE, dX, dY, dG]) {j T : Nat} (hj : j < T) (hT1 : 4 * T ≤ L) (ih : ∀ (f9 : hM) (lv9 : List (Nat × Value)) (H : Heap) (locs : List Loc) (ls : Array Slot), lwI G xo ez eo bu nw0 na0 nq0 nr0 nw1 na1 nq1 nr1 bs bp bh bf bl bg mo dW dA dQ dM dS dL dR dT dZ dI dH dN dK dJ dU dO dF dP dE dX dY dG out b (j + 1) f9 lv9 → hW G f9 H → va_S (hFr G) s.heap H locs → lv_has ls 7 lv9 → W p l e room_1 s m #[Value.ref b] below meth c H locs (42 + (j + 1) * 201) (9564 + (j + 1) * 1101) (lw_Z below #[Value.ref b] s) (F0 m 23 ls [])) {gw0 : Nat → Int32} {ga0 : Nat → Int32} {gw1 : Nat → Int32} {ga1 : Nat → Int32} {mg0 : Int32} {mg1 : Int32} {n : Nat} {a : Nat} {cg : Nat} {x : Nat} {sa : Nat → Nat} {pk : Nat → Nat} {fl : Nat → Nat} {gv : Nat → Nat} {gh : Nat → Int32} {gl : Nat → Int32} {f9 : hM} {th : Int32} {go : Nat → Int64} (hC : CW G f9 xo ez eo bu nw0 na0 nq0 nr0 nw1 na1 nq1 nr1 bs bp bh bf bl bg gw0 ga0 gw1 ga1 mg0 mg1 n a cg x sa pk fl gv gh gl) (hM : MW G f9 mo dW dA dQ dM dS dL dR dT dZ dI dH dN dK dJ dU dO dF dP dE dX dY dG th (100 * j) gw0 ga0 gw1 ga1 mg0 mg1 n a cg x sa pk fl gv gh gl) (ho : f9 out = some (.inl (cJ G, 1, .inr (.inl go)))) {H : Heap} {locs : List Loc} {ls : Array Slot} (hw : hW G f9 H) (hS : va_S (hFr G) s.heap H locs) (hl9 : lv_has ls 7 [(4, .int (nI (4 * j))), (0, .ref b), (1, .ref xo), (2, .ref mo), (3, .ref out)]) : W p l e room_1 s m #[Value.ref b] below meth c H locs (42 + j * 201) (9564 + j * 1101) (lw_Z below #[Value.ref b] s) (F0 m 336 ls []) := by
  refine lv_aload_n hx hb dL_law_336 rfl (lv_at hl9 2 rfl) ?_
  refine lv_aload_n hx hb dL_law_337 rfl (lv_at hl9 1 rfl) ?_
  refine lv_iload hx hb dL_law_338 (lv_at hl9 0 rfl) ?_
  refine lv_iconst (v := 1) hx hb dL_law_340 (by decide) ?_
  refine lv_iadd hx hb dL_law_341 ?_
  refine hp_c (v := (nI (4 * j + 1))) (nI_add (4 * j) 1) ?_
  refine va_sld hx hb hX hbl hbA hS (vp_in_nI (show 4 * j + 1 < L by omega) (by omega)) dL_law_342 ?_
  refine hp_c (v := xs (4 * j + 1)) (congrArg xs (nI_clamp (by omega))) ?_
  refine lv_aload_n hx hb dL_law_343 rfl (lv_at hl9 4 rfl) ?_
  refine hp_SH (As := [.ref xo, .int (xs (4 * j + 1)), .ref out]) (rest := []) B0 hw hS (c_L_deliver hl G f9 xo ez eo bu nw0 na0 nq0 nr0 nw1 na1 nq1 nr1 bs bp bh bf bl bg gw0 ga0 gw1 ga1 mg0 mg1 n a cg x sa pk fl gv gh gl hC out go ho hno (xs (4 * j + 1))) mH_L_deliver qM_L_100 rfl rfl hl9.1 (Nat.le_of_ble_eq_true rfl) ⟨⟨Nat.le_of_ble_eq_true rfl, Nat.le_of_ble_eq_true rfl⟩, (by first | omega | (dsimp only; omega) | (show (_ : Nat) ≤ _; simp only [room_1]; omega)), (by first | omega | (dsimp only; omega) | (show (_ : Nat) ≤ _; simp only [room_1]; omega))⟩ dL_law_344 (fun E ce q9 f681 H locs hPX hw hS hce hcv hcl => ?_) (fun v f681 H locs hP hw hS => ?_)
  · exact hPX.elim
  · obtain ⟨⟨k682, ev9⟩, hC683, ⟨g684, ho685⟩, hk686⟩ := hP
    subst ev9
    have hM687 := MW.kp hM hk686 hdos
    refine W.eq (g2 := F0 m 347 ls [.int k682]) rfl ?_
    refine lv_istore (lv' := [(5, .int k682), (4, .int (nI (4 * j))), (0, .ref b), (1, .ref xo), (2, .ref mo), (3, .ref out)]) hx hb dL_law_347 hl9 (by decide) rfl (fun ls hl9 => ?_)
    refine lv_aload_n hx hb dL_law_349 rfl (lv_at hl9 4 rfl) ?_
    refine lv_aload_n hx hb dL_law_350 rfl (lv_at hl9 2 rfl) ?_
    refine lv_iload hx hb dL_law_351 (lv_at hl9 1 rfl) ?_
    refine lv_iconst (v := 1) hx hb dL_law_353 (by decide) ?_
    refine lv_iadd hx hb dL_law_354 ?_
    refine hp_c (v := (nI (4 * j + 1))) (nI_add (4 * j) 1) ?_
    refine va_sld hx hb hX hbl hbA hS (vp_in_nI (show 4 * j + 1 < L by omega) (by omega)) dL_law_355 ?_
    refine hp_c (v := xs (4 * j + 1)) (congrArg xs (nI_clamp (by omega))) ?_
    refine hp_V (ci := 5) (As := [.int (xs (4 * j + 1))]) (rest := []) B0 hw hS (c_W5_deliver hl G f681 mo dW dA dQ dM dS dL dR dT dZ dI dH dN dK dJ dU dO dF dP dE dX dY dG th (100 * j) gw0 ga0 gw1 ga1 mg0 mg1 n a cg x sa pk fl gv gh gl hM687 (by omega) (xs (4 * j + 1))) mV_X5_deliver qM_L_102 rfl hM687.1 rfl rfl hl9.1 (Nat.le_of_ble_eq_true rfl) ⟨⟨Nat.le_of_ble_eq_true rfl, Nat.le_of_ble_eq_true rfl⟩, (by first | omega | (dsimp only; omega) | (show (_ : Nat) ≤ _; simp only [room_1]; omega)), (by first | omega | (dsimp only; omega) | (show (_ : Nat) ≤ _; simp only [room_1]; omega))⟩ dL_law_356 (fun E ce q9 f688 H locs hPX hw hS hce hcv hcl => ?_) (fun v f688 H locs hP hw hS => ?_)
    · exact hPX.elim
    · obtain ⟨⟨r689, ev9⟩, ⟨t690, hM691⟩, he692⟩ := hP
      subst ev9
      have hC693 := CW.eq hC683 he692 hdis (MW.fr hM687 hM691)
      have ho694 := (he692 _ hno2).trans ho685
      refine W.eq (g2 := F0 m 359 ls [.int r689]) rfl ?_
      refine lv_istore (lv' := [(6, .int r689), (5, .int k682), (4, .int (nI (4 * j))), (0, .ref b), (1, .ref xo), (2, .ref mo), (3, .ref out)]) hx hb dL_law_359 hl9 (by decide) rfl (fun ls hl9 => ?_)
      refine lv_goto (tgt := 766) hx hb dL_law_361 (by decide) ?_
      refine lv_iinc (v := (nI (4 * (j + 1)))) (lv' := [(4, .int (nI (4 * (j + 1)))), (6, .int r689), (5, .int k682), (0, .ref b), (1, .ref xo), (2, .ref mo), (3, .ref out)]) hx hb dL_law_766 hl9 (k := 2) rfl (nI_add (4 * j) 4) (by decide) rfl (fun ls hl9 => ?_)
      refine lv_goto (tgt := 23) hx hb dL_law_769 (by decide) ?_
      exact W.widen (by omega) (by omega) (ih _ _ H locs ls ⟨_, _, _, _, _, _, _, _, _, _, _, _, _, _, _, _, hC693, ⟨_, (MW.mono hM691 (by omega))⟩, ⟨_, ho694⟩, rfl⟩ hw hS (lv_sub hl9 [0, 3, 4, 5, 6] rfl))

set_option maxHeartbeats 4000000 in
set_option maxRecDepth 100000 in
theorem law_c6 {p : Program} {l : Launch} {e : Env} {s : State} {m : MethodId} {below : List Frame} {meth : Method} {c : Code} {b L : Nat} {xs : Nat → Int32} (hL : L ≤ 2048) (hx : p.tables.exec = Jvm.exec) (hb : c.code = code) (hX : va_X b L xs s s.heap) (hbl : b < s.heap.size) (hl : l.stackTraces = false) {G : hG} (B0 : hB p l s m #[Value.ref b] meth c code 7 RL G) (hbA : ¬ hFr G b) {xo ez eo bu nw0 na0 nq0 nr0 nw1 na1 nq1 nr1 bs bp bh bf bl bg mo dW dA dQ dM dS dL dR dT dZ dI dH dN dK dJ dU dO dF dP dE dX dY dG out : Nat} (hdis : ∀ p, p ∈ [xo, ez, eo, bu, nw0, na0, nq0, nr0, nw1, na1, nq1, nr1, bs, bp, bh, bf, bl, bg] → p ∉ [mo, dW, dA, dQ, dM, dS, dL, dR, dT, dZ, dI, dH, dN, dK, dJ, dU, dO, dF, dP, dE, dX, dY, dG]) (hdos : ∀ p, p ∈ [mo, dW, dA, dQ, dM, dS, dL, dR, dT, dZ, dI, dH, dN, dK, dJ, dU, dO, dF, dP, dE, dX, dY, dG] → p ∉ [out, xo, ez, eo, bu, nw0, na0, nq0, nr0, nw1, na1, nq1, nr1, bs, bp, bh, bf, bl, bg]) (hno : out ∉ [xo, ez, eo, bu, nw0, na0, nq0, nr0, nw1, na1, nq1, nr1, bs, bp, bh, bf, bl, bg]) (hno2 : out ∉ [mo, dW, dA, dQ, dM, dS, dL, dR, dT, dZ, dI, dH, dN, dK, dJ, dU, dO, dF, dP, dE, dX, dY, dG]) {j T : Nat} (hj : j < T) (hT1 : 4 * T ≤ L) (ih : ∀ (f9 : hM) (lv9 : List (Nat × Value)) (H : Heap) (locs : List Loc) (ls : Array Slot), lwI G xo ez eo bu nw0 na0 nq0 nr0 nw1 na1 nq1 nr1 bs bp bh bf bl bg mo dW dA dQ dM dS dL dR dT dZ dI dH dN dK dJ dU dO dF dP dE dX dY dG out b (j + 1) f9 lv9 → hW G f9 H → va_S (hFr G) s.heap H locs → lv_has ls 7 lv9 → W p l e room_1 s m #[Value.ref b] below meth c H locs (42 + (j + 1) * 201) (9564 + (j + 1) * 1101) (lw_Z below #[Value.ref b] s) (F0 m 23 ls [])) {gw0 : Nat → Int32} {ga0 : Nat → Int32} {gw1 : Nat → Int32} {ga1 : Nat → Int32} {mg0 : Int32} {mg1 : Int32} {n : Nat} {a : Nat} {cg : Nat} {x : Nat} {sa : Nat → Nat} {pk : Nat → Nat} {fl : Nat → Nat} {gv : Nat → Nat} {gh : Nat → Int32} {gl : Nat → Int32} {f9 : hM} {th : Int32} {go : Nat → Int64} (hC : CW G f9 xo ez eo bu nw0 na0 nq0 nr0 nw1 na1 nq1 nr1 bs bp bh bf bl bg gw0 ga0 gw1 ga1 mg0 mg1 n a cg x sa pk fl gv gh gl) (hM : MW G f9 mo dW dA dQ dM dS dL dR dT dZ dI dH dN dK dJ dU dO dF dP dE dX dY dG th (100 * j) gw0 ga0 gw1 ga1 mg0 mg1 n a cg x sa pk fl gv gh gl) (ho : f9 out = some (.inl (cJ G, 1, .inr (.inl go)))) {H : Heap} {locs : List Loc} {ls : Array Slot} (hw : hW G f9 H) (hS : va_S (hFr G) s.heap H locs) (hl9 : lv_has ls 7 [(4, .int (nI (4 * j))), (0, .ref b), (1, .ref xo), (2, .ref mo), (3, .ref out)]) : W p l e room_1 s m #[Value.ref b] below meth c H locs (42 + j * 201) (9564 + j * 1101) (lw_Z below #[Value.ref b] s) (F0 m 364 ls []) := by
  refine lv_aload_n hx hb dL_law_364 rfl (lv_at hl9 2 rfl) ?_
  refine lv_aload_n hx hb dL_law_365 rfl (lv_at hl9 1 rfl) ?_
  refine lv_iload hx hb dL_law_366 (lv_at hl9 0 rfl) ?_
  refine lv_iconst (v := 1) hx hb dL_law_368 (by decide) ?_
  refine lv_iadd hx hb dL_law_369 ?_
  refine hp_c (v := (nI (4 * j + 1))) (nI_add (4 * j) 1) ?_
  refine va_sld hx hb hX hbl hbA hS (vp_in_nI (show 4 * j + 1 < L by omega) (by omega)) dL_law_370 ?_
  refine hp_c (v := xs (4 * j + 1)) (congrArg xs (nI_clamp (by omega))) ?_
  refine lv_aload_n hx hb dL_law_371 rfl (lv_at hl9 4 rfl) ?_
  refine hp_SH (As := [.ref xo, .int (xs (4 * j + 1)), .ref out]) (rest := []) B0 hw hS (c_L_lose hl G f9 xo ez eo bu nw0 na0 nq0 nr0 nw1 na1 nq1 nr1 bs bp bh bf bl bg gw0 ga0 gw1 ga1 mg0 mg1 n a cg x sa pk fl gv gh gl hC out go ho hno (xs (4 * j + 1))) mH_L_lose qM_L_103 rfl rfl hl9.1 (Nat.le_of_ble_eq_true rfl) ⟨⟨Nat.le_of_ble_eq_true rfl, Nat.le_of_ble_eq_true rfl⟩, (by first | omega | (dsimp only; omega) | (show (_ : Nat) ≤ _; simp only [room_1]; omega)), (by first | omega | (dsimp only; omega) | (show (_ : Nat) ≤ _; simp only [room_1]; omega))⟩ dL_law_372 (fun E ce q9 f695 H locs hPX hw hS hce hcv hcl => ?_) (fun v f695 H locs hP hw hS => ?_)
  · exact hPX.elim
  · obtain ⟨⟨k696, ev9⟩, hC697, ⟨g698, ho699⟩, hk700⟩ := hP
    subst ev9
    have hM701 := MW.kp hM hk700 hdos
    refine W.eq (g2 := F0 m 375 ls [.int k696]) rfl ?_
    refine lv_istore (lv' := [(5, .int k696), (4, .int (nI (4 * j))), (0, .ref b), (1, .ref xo), (2, .ref mo), (3, .ref out)]) hx hb dL_law_375 hl9 (by decide) rfl (fun ls hl9 => ?_)
    refine lv_aload_n hx hb dL_law_377 rfl (lv_at hl9 4 rfl) ?_
    refine lv_aload_n hx hb dL_law_378 rfl (lv_at hl9 2 rfl) ?_
    refine lv_iload hx hb dL_law_379 (lv_at hl9 1 rfl) ?_
    refine lv_iconst (v := 1) hx hb dL_law_381 (by decide) ?_
    refine lv_iadd hx hb dL_law_382 ?_
    refine hp_c (v := (nI (4 * j + 1))) (nI_add (4 * j) 1) ?_
    refine va_sld hx hb hX hbl hbA hS (vp_in_nI (show 4 * j + 1 < L by omega) (by omega)) dL_law_383 ?_
    refine hp_c (v := xs (4 * j + 1)) (congrArg xs (nI_clamp (by omega))) ?_
    refine hp_V (ci := 5) (As := [.int (xs (4 * j + 1))]) (rest := []) B0 hw hS (c_W5_lose hl G f695 mo dW dA dQ dM dS dL dR dT dZ dI dH dN dK dJ dU dO dF dP dE dX dY dG th (100 * j) gw0 ga0 gw1 ga1 mg0 mg1 n a cg x sa pk fl gv gh gl hM701 (by omega) (xs (4 * j + 1))) mV_X5_lose qM_L_105 rfl hM701.1 rfl rfl hl9.1 (Nat.le_of_ble_eq_true rfl) ⟨⟨Nat.le_of_ble_eq_true rfl, Nat.le_of_ble_eq_true rfl⟩, (by first | omega | (dsimp only; omega) | (show (_ : Nat) ≤ _; simp only [room_1]; omega)), (by first | omega | (dsimp only; omega) | (show (_ : Nat) ≤ _; simp only [room_1]; omega))⟩ dL_law_384 (fun E ce q9 f702 H locs hPX hw hS hce hcv hcl => ?_) (fun v f702 H locs hP hw hS => ?_)
    · exact hPX.elim
    · obtain ⟨⟨r703, ev9⟩, ⟨t704, hM705⟩, he706⟩ := hP
      subst ev9
      have hC707 := CW.eq hC697 he706 hdis (MW.fr hM701 hM705)
      have ho708 := (he706 _ hno2).trans ho699
      refine W.eq (g2 := F0 m 387 ls [.int r703]) rfl ?_
      refine lv_istore (lv' := [(6, .int r703), (5, .int k696), (4, .int (nI (4 * j))), (0, .ref b), (1, .ref xo), (2, .ref mo), (3, .ref out)]) hx hb dL_law_387 hl9 (by decide) rfl (fun ls hl9 => ?_)
      refine lv_goto (tgt := 766) hx hb dL_law_389 (by decide) ?_
      refine lv_iinc (v := (nI (4 * (j + 1)))) (lv' := [(4, .int (nI (4 * (j + 1)))), (6, .int r703), (5, .int k696), (0, .ref b), (1, .ref xo), (2, .ref mo), (3, .ref out)]) hx hb dL_law_766 hl9 (k := 2) rfl (nI_add (4 * j) 4) (by decide) rfl (fun ls hl9 => ?_)
      refine lv_goto (tgt := 23) hx hb dL_law_769 (by decide) ?_
      exact W.widen (by omega) (by omega) (ih _ _ H locs ls ⟨_, _, _, _, _, _, _, _, _, _, _, _, _, _, _, _, hC707, ⟨_, (MW.mono hM705 (by omega))⟩, ⟨_, ho708⟩, rfl⟩ hw hS (lv_sub hl9 [0, 3, 4, 5, 6] rfl))

set_option maxHeartbeats 4000000 in
set_option maxRecDepth 100000 in
theorem law_c7 {p : Program} {l : Launch} {e : Env} {s : State} {m : MethodId} {below : List Frame} {meth : Method} {c : Code} {b L : Nat} {xs : Nat → Int32} (hL : L ≤ 2048) (hx : p.tables.exec = Jvm.exec) (hb : c.code = code) (hX : va_X b L xs s s.heap) (hbl : b < s.heap.size) (hl : l.stackTraces = false) {G : hG} (B0 : hB p l s m #[Value.ref b] meth c code 7 RL G) (hbA : ¬ hFr G b) {xo ez eo bu nw0 na0 nq0 nr0 nw1 na1 nq1 nr1 bs bp bh bf bl bg mo dW dA dQ dM dS dL dR dT dZ dI dH dN dK dJ dU dO dF dP dE dX dY dG out : Nat} (hdis : ∀ p, p ∈ [xo, ez, eo, bu, nw0, na0, nq0, nr0, nw1, na1, nq1, nr1, bs, bp, bh, bf, bl, bg] → p ∉ [mo, dW, dA, dQ, dM, dS, dL, dR, dT, dZ, dI, dH, dN, dK, dJ, dU, dO, dF, dP, dE, dX, dY, dG]) (hdos : ∀ p, p ∈ [mo, dW, dA, dQ, dM, dS, dL, dR, dT, dZ, dI, dH, dN, dK, dJ, dU, dO, dF, dP, dE, dX, dY, dG] → p ∉ [out, xo, ez, eo, bu, nw0, na0, nq0, nr0, nw1, na1, nq1, nr1, bs, bp, bh, bf, bl, bg]) (hno : out ∉ [xo, ez, eo, bu, nw0, na0, nq0, nr0, nw1, na1, nq1, nr1, bs, bp, bh, bf, bl, bg]) (hno2 : out ∉ [mo, dW, dA, dQ, dM, dS, dL, dR, dT, dZ, dI, dH, dN, dK, dJ, dU, dO, dF, dP, dE, dX, dY, dG]) {j T : Nat} (hj : j < T) (hT1 : 4 * T ≤ L) (ih : ∀ (f9 : hM) (lv9 : List (Nat × Value)) (H : Heap) (locs : List Loc) (ls : Array Slot), lwI G xo ez eo bu nw0 na0 nq0 nr0 nw1 na1 nq1 nr1 bs bp bh bf bl bg mo dW dA dQ dM dS dL dR dT dZ dI dH dN dK dJ dU dO dF dP dE dX dY dG out b (j + 1) f9 lv9 → hW G f9 H → va_S (hFr G) s.heap H locs → lv_has ls 7 lv9 → W p l e room_1 s m #[Value.ref b] below meth c H locs (42 + (j + 1) * 201) (9564 + (j + 1) * 1101) (lw_Z below #[Value.ref b] s) (F0 m 23 ls [])) {gw0 : Nat → Int32} {ga0 : Nat → Int32} {gw1 : Nat → Int32} {ga1 : Nat → Int32} {mg0 : Int32} {mg1 : Int32} {n : Nat} {a : Nat} {cg : Nat} {x : Nat} {sa : Nat → Nat} {pk : Nat → Nat} {fl : Nat → Nat} {gv : Nat → Nat} {gh : Nat → Int32} {gl : Nat → Int32} {f9 : hM} {th : Int32} {go : Nat → Int64} (hC : CW G f9 xo ez eo bu nw0 na0 nq0 nr0 nw1 na1 nq1 nr1 bs bp bh bf bl bg gw0 ga0 gw1 ga1 mg0 mg1 n a cg x sa pk fl gv gh gl) (hM : MW G f9 mo dW dA dQ dM dS dL dR dT dZ dI dH dN dK dJ dU dO dF dP dE dX dY dG th (100 * j) gw0 ga0 gw1 ga1 mg0 mg1 n a cg x sa pk fl gv gh gl) (ho : f9 out = some (.inl (cJ G, 1, .inr (.inl go)))) {H : Heap} {locs : List Loc} {ls : Array Slot} (hw : hW G f9 H) (hS : va_S (hFr G) s.heap H locs) (hl9 : lv_has ls 7 [(4, .int (nI (4 * j))), (0, .ref b), (1, .ref xo), (2, .ref mo), (3, .ref out)]) : W p l e room_1 s m #[Value.ref b] below meth c H locs (42 + j * 201) (9564 + j * 1101) (lw_Z below #[Value.ref b] s) (F0 m 392 ls []) := by
  refine lv_aload_n hx hb dL_law_392 rfl (lv_at hl9 2 rfl) ?_
  refine lv_aload_n hx hb dL_law_393 rfl (lv_at hl9 1 rfl) ?_
  refine lv_iload hx hb dL_law_394 (lv_at hl9 0 rfl) ?_
  refine lv_iconst (v := 1) hx hb dL_law_396 (by decide) ?_
  refine lv_iadd hx hb dL_law_397 ?_
  refine hp_c (v := (nI (4 * j + 1))) (nI_add (4 * j) 1) ?_
  refine va_sld hx hb hX hbl hbA hS (vp_in_nI (show 4 * j + 1 < L by omega) (by omega)) dL_law_398 ?_
  refine hp_c (v := xs (4 * j + 1)) (congrArg xs (nI_clamp (by omega))) ?_
  refine lv_aload_n hx hb dL_law_399 rfl (lv_at hl9 4 rfl) ?_
  refine hp_SH (As := [.ref xo, .int (xs (4 * j + 1)), .ref out]) (rest := []) B0 hw hS (c_L_loop hl G f9 xo ez eo bu nw0 na0 nq0 nr0 nw1 na1 nq1 nr1 bs bp bh bf bl bg gw0 ga0 gw1 ga1 mg0 mg1 n a cg x sa pk fl gv gh gl hC out go ho hno (xs (4 * j + 1))) mH_L_loop qM_L_106 rfl rfl hl9.1 (Nat.le_of_ble_eq_true rfl) ⟨⟨Nat.le_of_ble_eq_true rfl, Nat.le_of_ble_eq_true rfl⟩, (by first | omega | (dsimp only; omega) | (show (_ : Nat) ≤ _; simp only [room_1]; omega)), (by first | omega | (dsimp only; omega) | (show (_ : Nat) ≤ _; simp only [room_1]; omega))⟩ dL_law_400 (fun E ce q9 f709 H locs hPX hw hS hce hcv hcl => ?_) (fun v f709 H locs hP hw hS => ?_)
  · exact hPX.elim
  · obtain ⟨⟨k710, ev9⟩, hC711, ⟨g712, ho713⟩, hk714⟩ := hP
    subst ev9
    have hM715 := MW.kp hM hk714 hdos
    refine W.eq (g2 := F0 m 403 ls [.int k710]) rfl ?_
    refine lv_istore (lv' := [(5, .int k710), (4, .int (nI (4 * j))), (0, .ref b), (1, .ref xo), (2, .ref mo), (3, .ref out)]) hx hb dL_law_403 hl9 (by decide) rfl (fun ls hl9 => ?_)
    refine lv_aload_n hx hb dL_law_405 rfl (lv_at hl9 4 rfl) ?_
    refine lv_aload_n hx hb dL_law_406 rfl (lv_at hl9 2 rfl) ?_
    refine lv_iload hx hb dL_law_407 (lv_at hl9 1 rfl) ?_
    refine lv_iconst (v := 1) hx hb dL_law_409 (by decide) ?_
    refine lv_iadd hx hb dL_law_410 ?_
    refine hp_c (v := (nI (4 * j + 1))) (nI_add (4 * j) 1) ?_
    refine va_sld hx hb hX hbl hbA hS (vp_in_nI (show 4 * j + 1 < L by omega) (by omega)) dL_law_411 ?_
    refine hp_c (v := xs (4 * j + 1)) (congrArg xs (nI_clamp (by omega))) ?_
    refine hp_V (ci := 5) (As := [.int (xs (4 * j + 1))]) (rest := []) B0 hw hS (c_W5_loop hl G f709 mo dW dA dQ dM dS dL dR dT dZ dI dH dN dK dJ dU dO dF dP dE dX dY dG th (100 * j) gw0 ga0 gw1 ga1 mg0 mg1 n a cg x sa pk fl gv gh gl hM715 (by omega) (xs (4 * j + 1))) mV_X5_loop qM_L_108 rfl hM715.1 rfl rfl hl9.1 (Nat.le_of_ble_eq_true rfl) ⟨⟨Nat.le_of_ble_eq_true rfl, Nat.le_of_ble_eq_true rfl⟩, (by first | omega | (dsimp only; omega) | (show (_ : Nat) ≤ _; simp only [room_1]; omega)), (by first | omega | (dsimp only; omega) | (show (_ : Nat) ≤ _; simp only [room_1]; omega))⟩ dL_law_412 (fun E ce q9 f716 H locs hPX hw hS hce hcv hcl => ?_) (fun v f716 H locs hP hw hS => ?_)
    · exact hPX.elim
    · obtain ⟨⟨r717, ev9⟩, ⟨t718, hM719⟩, he720⟩ := hP
      subst ev9
      have hC721 := CW.eq hC711 he720 hdis (MW.fr hM715 hM719)
      have ho722 := (he720 _ hno2).trans ho713
      refine W.eq (g2 := F0 m 415 ls [.int r717]) rfl ?_
      refine lv_istore (lv' := [(6, .int r717), (5, .int k710), (4, .int (nI (4 * j))), (0, .ref b), (1, .ref xo), (2, .ref mo), (3, .ref out)]) hx hb dL_law_415 hl9 (by decide) rfl (fun ls hl9 => ?_)
      refine lv_goto (tgt := 766) hx hb dL_law_417 (by decide) ?_
      refine lv_iinc (v := (nI (4 * (j + 1)))) (lv' := [(4, .int (nI (4 * (j + 1)))), (6, .int r717), (5, .int k710), (0, .ref b), (1, .ref xo), (2, .ref mo), (3, .ref out)]) hx hb dL_law_766 hl9 (k := 2) rfl (nI_add (4 * j) 4) (by decide) rfl (fun ls hl9 => ?_)
      refine lv_goto (tgt := 23) hx hb dL_law_769 (by decide) ?_
      exact W.widen (by omega) (by omega) (ih _ _ H locs ls ⟨_, _, _, _, _, _, _, _, _, _, _, _, _, _, _, _, hC721, ⟨_, (MW.mono hM719 (by omega))⟩, ⟨_, ho722⟩, rfl⟩ hw hS (lv_sub hl9 [0, 3, 4, 5, 6] rfl))

set_option maxHeartbeats 4000000 in
set_option maxRecDepth 100000 in
theorem law_c8 {p : Program} {l : Launch} {e : Env} {s : State} {m : MethodId} {below : List Frame} {meth : Method} {c : Code} {b L : Nat} {xs : Nat → Int32} (hL : L ≤ 2048) (hx : p.tables.exec = Jvm.exec) (hb : c.code = code) (hX : va_X b L xs s s.heap) (hbl : b < s.heap.size) (hl : l.stackTraces = false) {G : hG} (B0 : hB p l s m #[Value.ref b] meth c code 7 RL G) (hbA : ¬ hFr G b) {xo ez eo bu nw0 na0 nq0 nr0 nw1 na1 nq1 nr1 bs bp bh bf bl bg mo dW dA dQ dM dS dL dR dT dZ dI dH dN dK dJ dU dO dF dP dE dX dY dG out : Nat} (hdis : ∀ p, p ∈ [xo, ez, eo, bu, nw0, na0, nq0, nr0, nw1, na1, nq1, nr1, bs, bp, bh, bf, bl, bg] → p ∉ [mo, dW, dA, dQ, dM, dS, dL, dR, dT, dZ, dI, dH, dN, dK, dJ, dU, dO, dF, dP, dE, dX, dY, dG]) (hdos : ∀ p, p ∈ [mo, dW, dA, dQ, dM, dS, dL, dR, dT, dZ, dI, dH, dN, dK, dJ, dU, dO, dF, dP, dE, dX, dY, dG] → p ∉ [out, xo, ez, eo, bu, nw0, na0, nq0, nr0, nw1, na1, nq1, nr1, bs, bp, bh, bf, bl, bg]) (hno : out ∉ [xo, ez, eo, bu, nw0, na0, nq0, nr0, nw1, na1, nq1, nr1, bs, bp, bh, bf, bl, bg]) (hno2 : out ∉ [mo, dW, dA, dQ, dM, dS, dL, dR, dT, dZ, dI, dH, dN, dK, dJ, dU, dO, dF, dP, dE, dX, dY, dG]) {j T : Nat} (hj : j < T) (hT1 : 4 * T ≤ L) (ih : ∀ (f9 : hM) (lv9 : List (Nat × Value)) (H : Heap) (locs : List Loc) (ls : Array Slot), lwI G xo ez eo bu nw0 na0 nq0 nr0 nw1 na1 nq1 nr1 bs bp bh bf bl bg mo dW dA dQ dM dS dL dR dT dZ dI dH dN dK dJ dU dO dF dP dE dX dY dG out b (j + 1) f9 lv9 → hW G f9 H → va_S (hFr G) s.heap H locs → lv_has ls 7 lv9 → W p l e room_1 s m #[Value.ref b] below meth c H locs (42 + (j + 1) * 201) (9564 + (j + 1) * 1101) (lw_Z below #[Value.ref b] s) (F0 m 23 ls [])) {gw0 : Nat → Int32} {ga0 : Nat → Int32} {gw1 : Nat → Int32} {ga1 : Nat → Int32} {mg0 : Int32} {mg1 : Int32} {n : Nat} {a : Nat} {cg : Nat} {x : Nat} {sa : Nat → Nat} {pk : Nat → Nat} {fl : Nat → Nat} {gv : Nat → Nat} {gh : Nat → Int32} {gl : Nat → Int32} {f9 : hM} {th : Int32} {go : Nat → Int64} (hC : CW G f9 xo ez eo bu nw0 na0 nq0 nr0 nw1 na1 nq1 nr1 bs bp bh bf bl bg gw0 ga0 gw1 ga1 mg0 mg1 n a cg x sa pk fl gv gh gl) (hM : MW G f9 mo dW dA dQ dM dS dL dR dT dZ dI dH dN dK dJ dU dO dF dP dE dX dY dG th (100 * j) gw0 ga0 gw1 ga1 mg0 mg1 n a cg x sa pk fl gv gh gl) (ho : f9 out = some (.inl (cJ G, 1, .inr (.inl go)))) {H : Heap} {locs : List Loc} {ls : Array Slot} (hw : hW G f9 H) (hS : va_S (hFr G) s.heap H locs) (hl9 : lv_has ls 7 [(4, .int (nI (4 * j))), (0, .ref b), (1, .ref xo), (2, .ref mo), (3, .ref out)]) : W p l e room_1 s m #[Value.ref b] below meth c H locs (42 + j * 201) (9564 + j * 1101) (lw_Z below #[Value.ref b] s) (F0 m 420 ls []) := by
  refine lv_aload_n hx hb dL_law_420 rfl (lv_at hl9 2 rfl) ?_
  refine lv_aload_n hx hb dL_law_421 rfl (lv_at hl9 1 rfl) ?_
  refine lv_iload hx hb dL_law_422 (lv_at hl9 0 rfl) ?_
  refine lv_iconst (v := 1) hx hb dL_law_424 (by decide) ?_
  refine lv_iadd hx hb dL_law_425 ?_
  refine hp_c (v := (nI (4 * j + 1))) (nI_add (4 * j) 1) ?_
  refine va_sld hx hb hX hbl hbA hS (vp_in_nI (show 4 * j + 1 < L by omega) (by omega)) dL_law_426 ?_
  refine hp_c (v := xs (4 * j + 1)) (congrArg xs (nI_clamp (by omega))) ?_
  refine lv_aload_n hx hb dL_law_427 rfl (lv_at hl9 4 rfl) ?_
  refine hp_SH (As := [.ref xo, .int (xs (4 * j + 1)), .ref out]) (rest := []) B0 hw hS (c_L_pass hl G f9 xo ez eo bu nw0 na0 nq0 nr0 nw1 na1 nq1 nr1 bs bp bh bf bl bg gw0 ga0 gw1 ga1 mg0 mg1 n a cg x sa pk fl gv gh gl hC out go ho hno (xs (4 * j + 1))) mH_L_pass qM_L_109 rfl rfl hl9.1 (Nat.le_of_ble_eq_true rfl) ⟨⟨Nat.le_of_ble_eq_true rfl, Nat.le_of_ble_eq_true rfl⟩, (by first | omega | (dsimp only; omega) | (show (_ : Nat) ≤ _; simp only [room_1]; omega)), (by first | omega | (dsimp only; omega) | (show (_ : Nat) ≤ _; simp only [room_1]; omega))⟩ dL_law_428 (fun E ce q9 f723 H locs hPX hw hS hce hcv hcl => ?_) (fun v f723 H locs hP hw hS => ?_)
  · exact hPX.elim
  · obtain ⟨⟨k724, ev9⟩, hC725, ⟨g726, ho727⟩, hk728⟩ := hP
    subst ev9
    have hM729 := MW.kp hM hk728 hdos
    refine W.eq (g2 := F0 m 431 ls [.int k724]) rfl ?_
    refine lv_istore (lv' := [(5, .int k724), (4, .int (nI (4 * j))), (0, .ref b), (1, .ref xo), (2, .ref mo), (3, .ref out)]) hx hb dL_law_431 hl9 (by decide) rfl (fun ls hl9 => ?_)
    refine lv_aload_n hx hb dL_law_433 rfl (lv_at hl9 4 rfl) ?_
    refine lv_aload_n hx hb dL_law_434 rfl (lv_at hl9 2 rfl) ?_
    refine lv_iload hx hb dL_law_435 (lv_at hl9 1 rfl) ?_
    refine lv_iconst (v := 1) hx hb dL_law_437 (by decide) ?_
    refine lv_iadd hx hb dL_law_438 ?_
    refine hp_c (v := (nI (4 * j + 1))) (nI_add (4 * j) 1) ?_
    refine va_sld hx hb hX hbl hbA hS (vp_in_nI (show 4 * j + 1 < L by omega) (by omega)) dL_law_439 ?_
    refine hp_c (v := xs (4 * j + 1)) (congrArg xs (nI_clamp (by omega))) ?_
    refine hp_V (ci := 5) (As := [.int (xs (4 * j + 1))]) (rest := []) B0 hw hS (c_W5_pass hl G f723 mo dW dA dQ dM dS dL dR dT dZ dI dH dN dK dJ dU dO dF dP dE dX dY dG th (100 * j) gw0 ga0 gw1 ga1 mg0 mg1 n a cg x sa pk fl gv gh gl hM729 (by omega) (xs (4 * j + 1))) mV_X5_pass qM_L_111 rfl hM729.1 rfl rfl hl9.1 (Nat.le_of_ble_eq_true rfl) ⟨⟨Nat.le_of_ble_eq_true rfl, Nat.le_of_ble_eq_true rfl⟩, (by first | omega | (dsimp only; omega) | (show (_ : Nat) ≤ _; simp only [room_1]; omega)), (by first | omega | (dsimp only; omega) | (show (_ : Nat) ≤ _; simp only [room_1]; omega))⟩ dL_law_440 (fun E ce q9 f730 H locs hPX hw hS hce hcv hcl => ?_) (fun v f730 H locs hP hw hS => ?_)
    · exact hPX.elim
    · obtain ⟨⟨r731, ev9⟩, ⟨t732, hM733⟩, he734⟩ := hP
      subst ev9
      have hC735 := CW.eq hC725 he734 hdis (MW.fr hM729 hM733)
      have ho736 := (he734 _ hno2).trans ho727
      refine W.eq (g2 := F0 m 443 ls [.int r731]) rfl ?_
      refine lv_istore (lv' := [(6, .int r731), (5, .int k724), (4, .int (nI (4 * j))), (0, .ref b), (1, .ref xo), (2, .ref mo), (3, .ref out)]) hx hb dL_law_443 hl9 (by decide) rfl (fun ls hl9 => ?_)
      refine lv_goto (tgt := 766) hx hb dL_law_445 (by decide) ?_
      refine lv_iinc (v := (nI (4 * (j + 1)))) (lv' := [(4, .int (nI (4 * (j + 1)))), (6, .int r731), (5, .int k724), (0, .ref b), (1, .ref xo), (2, .ref mo), (3, .ref out)]) hx hb dL_law_766 hl9 (k := 2) rfl (nI_add (4 * j) 4) (by decide) rfl (fun ls hl9 => ?_)
      refine lv_goto (tgt := 23) hx hb dL_law_769 (by decide) ?_
      exact W.widen (by omega) (by omega) (ih _ _ H locs ls ⟨_, _, _, _, _, _, _, _, _, _, _, _, _, _, _, _, hC735, ⟨_, (MW.mono hM733 (by omega))⟩, ⟨_, ho736⟩, rfl⟩ hw hS (lv_sub hl9 [0, 3, 4, 5, 6] rfl))

set_option maxHeartbeats 4000000 in
set_option maxRecDepth 100000 in
theorem law_c9 {p : Program} {l : Launch} {e : Env} {s : State} {m : MethodId} {below : List Frame} {meth : Method} {c : Code} {b L : Nat} {xs : Nat → Int32} (hL : L ≤ 2048) (hx : p.tables.exec = Jvm.exec) (hb : c.code = code) (hX : va_X b L xs s s.heap) (hbl : b < s.heap.size) (hl : l.stackTraces = false) {G : hG} (B0 : hB p l s m #[Value.ref b] meth c code 7 RL G) (hbA : ¬ hFr G b) {xo ez eo bu nw0 na0 nq0 nr0 nw1 na1 nq1 nr1 bs bp bh bf bl bg mo dW dA dQ dM dS dL dR dT dZ dI dH dN dK dJ dU dO dF dP dE dX dY dG out : Nat} (hdis : ∀ p, p ∈ [xo, ez, eo, bu, nw0, na0, nq0, nr0, nw1, na1, nq1, nr1, bs, bp, bh, bf, bl, bg] → p ∉ [mo, dW, dA, dQ, dM, dS, dL, dR, dT, dZ, dI, dH, dN, dK, dJ, dU, dO, dF, dP, dE, dX, dY, dG]) (hdos : ∀ p, p ∈ [mo, dW, dA, dQ, dM, dS, dL, dR, dT, dZ, dI, dH, dN, dK, dJ, dU, dO, dF, dP, dE, dX, dY, dG] → p ∉ [out, xo, ez, eo, bu, nw0, na0, nq0, nr0, nw1, na1, nq1, nr1, bs, bp, bh, bf, bl, bg]) (hno : out ∉ [xo, ez, eo, bu, nw0, na0, nq0, nr0, nw1, na1, nq1, nr1, bs, bp, bh, bf, bl, bg]) (hno2 : out ∉ [mo, dW, dA, dQ, dM, dS, dL, dR, dT, dZ, dI, dH, dN, dK, dJ, dU, dO, dF, dP, dE, dX, dY, dG]) {j T : Nat} (hj : j < T) (hT1 : 4 * T ≤ L) (ih : ∀ (f9 : hM) (lv9 : List (Nat × Value)) (H : Heap) (locs : List Loc) (ls : Array Slot), lwI G xo ez eo bu nw0 na0 nq0 nr0 nw1 na1 nq1 nr1 bs bp bh bf bl bg mo dW dA dQ dM dS dL dR dT dZ dI dH dN dK dJ dU dO dF dP dE dX dY dG out b (j + 1) f9 lv9 → hW G f9 H → va_S (hFr G) s.heap H locs → lv_has ls 7 lv9 → W p l e room_1 s m #[Value.ref b] below meth c H locs (42 + (j + 1) * 201) (9564 + (j + 1) * 1101) (lw_Z below #[Value.ref b] s) (F0 m 23 ls [])) {gw0 : Nat → Int32} {ga0 : Nat → Int32} {gw1 : Nat → Int32} {ga1 : Nat → Int32} {mg0 : Int32} {mg1 : Int32} {n : Nat} {a : Nat} {cg : Nat} {x : Nat} {sa : Nat → Nat} {pk : Nat → Nat} {fl : Nat → Nat} {gv : Nat → Nat} {gh : Nat → Int32} {gl : Nat → Int32} {f9 : hM} {th : Int32} {go : Nat → Int64} (hC : CW G f9 xo ez eo bu nw0 na0 nq0 nr0 nw1 na1 nq1 nr1 bs bp bh bf bl bg gw0 ga0 gw1 ga1 mg0 mg1 n a cg x sa pk fl gv gh gl) (hM : MW G f9 mo dW dA dQ dM dS dL dR dT dZ dI dH dN dK dJ dU dO dF dP dE dX dY dG th (100 * j) gw0 ga0 gw1 ga1 mg0 mg1 n a cg x sa pk fl gv gh gl) (ho : f9 out = some (.inl (cJ G, 1, .inr (.inl go)))) {H : Heap} {locs : List Loc} {ls : Array Slot} (hw : hW G f9 H) (hS : va_S (hFr G) s.heap H locs) (hl9 : lv_has ls 7 [(4, .int (nI (4 * j))), (0, .ref b), (1, .ref xo), (2, .ref mo), (3, .ref out)]) : W p l e room_1 s m #[Value.ref b] below meth c H locs (42 + j * 201) (9564 + j * 1101) (lw_Z below #[Value.ref b] s) (F0 m 448 ls []) := by
  refine lv_aload_n hx hb dL_law_448 rfl (lv_at hl9 2 rfl) ?_
  refine lv_aload_n hx hb dL_law_449 rfl (lv_at hl9 1 rfl) ?_
  refine lv_iload hx hb dL_law_450 (lv_at hl9 0 rfl) ?_
  refine lv_iconst (v := 1) hx hb dL_law_452 (by decide) ?_
  refine lv_iadd hx hb dL_law_453 ?_
  refine hp_c (v := (nI (4 * j + 1))) (nI_add (4 * j) 1) ?_
  refine va_sld hx hb hX hbl hbA hS (vp_in_nI (show 4 * j + 1 < L by omega) (by omega)) dL_law_454 ?_
  refine hp_c (v := xs (4 * j + 1)) (congrArg xs (nI_clamp (by omega))) ?_
  refine lv_aload_n hx hb dL_law_455 rfl (lv_at hl9 4 rfl) ?_
  refine hp_SH (As := [.ref xo, .int (xs (4 * j + 1)), .ref out]) (rest := []) B0 hw hS (c_L_stateOf hl G f9 xo ez eo bu nw0 na0 nq0 nr0 nw1 na1 nq1 nr1 bs bp bh bf bl bg gw0 ga0 gw1 ga1 mg0 mg1 n a cg x sa pk fl gv gh gl hC out go ho hno (xs (4 * j + 1))) mH_L_stateOf qM_L_112 rfl rfl hl9.1 (Nat.le_of_ble_eq_true rfl) ⟨⟨Nat.le_of_ble_eq_true rfl, Nat.le_of_ble_eq_true rfl⟩, (by first | omega | (dsimp only; omega) | (show (_ : Nat) ≤ _; simp only [room_1]; omega)), (by first | omega | (dsimp only; omega) | (show (_ : Nat) ≤ _; simp only [room_1]; omega))⟩ dL_law_456 (fun E ce q9 f737 H locs hPX hw hS hce hcv hcl => ?_) (fun v f737 H locs hP hw hS => ?_)
  · exact hPX.elim
  · obtain ⟨⟨k738, ev9⟩, hC739, ⟨g740, ho741⟩, hk742⟩ := hP
    subst ev9
    have hM743 := MW.kp hM hk742 hdos
    refine W.eq (g2 := F0 m 459 ls [.int k738]) rfl ?_
    refine lv_istore (lv' := [(5, .int k738), (4, .int (nI (4 * j))), (0, .ref b), (1, .ref xo), (2, .ref mo), (3, .ref out)]) hx hb dL_law_459 hl9 (by decide) rfl (fun ls hl9 => ?_)
    refine lv_aload_n hx hb dL_law_461 rfl (lv_at hl9 4 rfl) ?_
    refine lv_aload_n hx hb dL_law_462 rfl (lv_at hl9 2 rfl) ?_
    refine lv_iload hx hb dL_law_463 (lv_at hl9 1 rfl) ?_
    refine lv_iconst (v := 1) hx hb dL_law_465 (by decide) ?_
    refine lv_iadd hx hb dL_law_466 ?_
    refine hp_c (v := (nI (4 * j + 1))) (nI_add (4 * j) 1) ?_
    refine va_sld hx hb hX hbl hbA hS (vp_in_nI (show 4 * j + 1 < L by omega) (by omega)) dL_law_467 ?_
    refine hp_c (v := xs (4 * j + 1)) (congrArg xs (nI_clamp (by omega))) ?_
    refine hp_V (ci := 5) (As := [.int (xs (4 * j + 1))]) (rest := []) B0 hw hS (c_W5_stateOf hl G f737 mo dW dA dQ dM dS dL dR dT dZ dI dH dN dK dJ dU dO dF dP dE dX dY dG th (100 * j) gw0 ga0 gw1 ga1 mg0 mg1 n a cg x sa pk fl gv gh gl hM743 (by omega) (xs (4 * j + 1))) mV_X5_stateOf qM_L_114 rfl hM743.1 rfl rfl hl9.1 (Nat.le_of_ble_eq_true rfl) ⟨⟨Nat.le_of_ble_eq_true rfl, Nat.le_of_ble_eq_true rfl⟩, (by first | omega | (dsimp only; omega) | (show (_ : Nat) ≤ _; simp only [room_1]; omega)), (by first | omega | (dsimp only; omega) | (show (_ : Nat) ≤ _; simp only [room_1]; omega))⟩ dL_law_468 (fun E ce q9 f744 H locs hPX hw hS hce hcv hcl => ?_) (fun v f744 H locs hP hw hS => ?_)
    · exact hPX.elim
    · obtain ⟨⟨r745, ev9⟩, ⟨t746, hM747⟩, he748⟩ := hP
      subst ev9
      have hC749 := CW.eq hC739 he748 hdis (MW.fr hM743 hM747)
      have ho750 := (he748 _ hno2).trans ho741
      refine W.eq (g2 := F0 m 471 ls [.int r745]) rfl ?_
      refine lv_istore (lv' := [(6, .int r745), (5, .int k738), (4, .int (nI (4 * j))), (0, .ref b), (1, .ref xo), (2, .ref mo), (3, .ref out)]) hx hb dL_law_471 hl9 (by decide) rfl (fun ls hl9 => ?_)
      refine lv_goto (tgt := 766) hx hb dL_law_473 (by decide) ?_
      refine lv_iinc (v := (nI (4 * (j + 1)))) (lv' := [(4, .int (nI (4 * (j + 1)))), (6, .int r745), (5, .int k738), (0, .ref b), (1, .ref xo), (2, .ref mo), (3, .ref out)]) hx hb dL_law_766 hl9 (k := 2) rfl (nI_add (4 * j) 4) (by decide) rfl (fun ls hl9 => ?_)
      refine lv_goto (tgt := 23) hx hb dL_law_769 (by decide) ?_
      exact W.widen (by omega) (by omega) (ih _ _ H locs ls ⟨_, _, _, _, _, _, _, _, _, _, _, _, _, _, _, _, hC749, ⟨_, (MW.mono hM747 (by omega))⟩, ⟨_, ho750⟩, rfl⟩ hw hS (lv_sub hl9 [0, 3, 4, 5, 6] rfl))

set_option maxHeartbeats 4000000 in
set_option maxRecDepth 100000 in
theorem law_c10 {p : Program} {l : Launch} {e : Env} {s : State} {m : MethodId} {below : List Frame} {meth : Method} {c : Code} {b L : Nat} {xs : Nat → Int32} (hL : L ≤ 2048) (hx : p.tables.exec = Jvm.exec) (hb : c.code = code) (hX : va_X b L xs s s.heap) (hbl : b < s.heap.size) (hl : l.stackTraces = false) {G : hG} (B0 : hB p l s m #[Value.ref b] meth c code 7 RL G) (hbA : ¬ hFr G b) {xo ez eo bu nw0 na0 nq0 nr0 nw1 na1 nq1 nr1 bs bp bh bf bl bg mo dW dA dQ dM dS dL dR dT dZ dI dH dN dK dJ dU dO dF dP dE dX dY dG out : Nat} (hdis : ∀ p, p ∈ [xo, ez, eo, bu, nw0, na0, nq0, nr0, nw1, na1, nq1, nr1, bs, bp, bh, bf, bl, bg] → p ∉ [mo, dW, dA, dQ, dM, dS, dL, dR, dT, dZ, dI, dH, dN, dK, dJ, dU, dO, dF, dP, dE, dX, dY, dG]) (hdos : ∀ p, p ∈ [mo, dW, dA, dQ, dM, dS, dL, dR, dT, dZ, dI, dH, dN, dK, dJ, dU, dO, dF, dP, dE, dX, dY, dG] → p ∉ [out, xo, ez, eo, bu, nw0, na0, nq0, nr0, nw1, na1, nq1, nr1, bs, bp, bh, bf, bl, bg]) (hno : out ∉ [xo, ez, eo, bu, nw0, na0, nq0, nr0, nw1, na1, nq1, nr1, bs, bp, bh, bf, bl, bg]) (hno2 : out ∉ [mo, dW, dA, dQ, dM, dS, dL, dR, dT, dZ, dI, dH, dN, dK, dJ, dU, dO, dF, dP, dE, dX, dY, dG]) {j T : Nat} (hj : j < T) (hT1 : 4 * T ≤ L) (ih : ∀ (f9 : hM) (lv9 : List (Nat × Value)) (H : Heap) (locs : List Loc) (ls : Array Slot), lwI G xo ez eo bu nw0 na0 nq0 nr0 nw1 na1 nq1 nr1 bs bp bh bf bl bg mo dW dA dQ dM dS dL dR dT dZ dI dH dN dK dJ dU dO dF dP dE dX dY dG out b (j + 1) f9 lv9 → hW G f9 H → va_S (hFr G) s.heap H locs → lv_has ls 7 lv9 → W p l e room_1 s m #[Value.ref b] below meth c H locs (42 + (j + 1) * 201) (9564 + (j + 1) * 1101) (lw_Z below #[Value.ref b] s) (F0 m 23 ls [])) {gw0 : Nat → Int32} {ga0 : Nat → Int32} {gw1 : Nat → Int32} {ga1 : Nat → Int32} {mg0 : Int32} {mg1 : Int32} {n : Nat} {a : Nat} {cg : Nat} {x : Nat} {sa : Nat → Nat} {pk : Nat → Nat} {fl : Nat → Nat} {gv : Nat → Nat} {gh : Nat → Int32} {gl : Nat → Int32} {f9 : hM} {th : Int32} {go : Nat → Int64} (hC : CW G f9 xo ez eo bu nw0 na0 nq0 nr0 nw1 na1 nq1 nr1 bs bp bh bf bl bg gw0 ga0 gw1 ga1 mg0 mg1 n a cg x sa pk fl gv gh gl) (hM : MW G f9 mo dW dA dQ dM dS dL dR dT dZ dI dH dN dK dJ dU dO dF dP dE dX dY dG th (100 * j) gw0 ga0 gw1 ga1 mg0 mg1 n a cg x sa pk fl gv gh gl) (ho : f9 out = some (.inl (cJ G, 1, .inr (.inl go)))) {H : Heap} {locs : List Loc} {ls : Array Slot} (hw : hW G f9 H) (hS : va_S (hFr G) s.heap H locs) (hl9 : lv_has ls 7 [(4, .int (nI (4 * j))), (0, .ref b), (1, .ref xo), (2, .ref mo), (3, .ref out)]) : W p l e room_1 s m #[Value.ref b] below meth c H locs (42 + j * 201) (9564 + j * 1101) (lw_Z below #[Value.ref b] s) (F0 m 476 ls []) := by
  refine lv_aload_n hx hb dL_law_476 rfl (lv_at hl9 2 rfl) ?_
  refine lv_aload_n hx hb dL_law_477 rfl (lv_at hl9 1 rfl) ?_
  refine lv_iload hx hb dL_law_478 (lv_at hl9 0 rfl) ?_
  refine lv_iconst (v := 1) hx hb dL_law_480 (by decide) ?_
  refine lv_iadd hx hb dL_law_481 ?_
  refine hp_c (v := (nI (4 * j + 1))) (nI_add (4 * j) 1) ?_
  refine va_sld hx hb hX hbl hbA hS (vp_in_nI (show 4 * j + 1 < L by omega) (by omega)) dL_law_482 ?_
  refine hp_c (v := xs (4 * j + 1)) (congrArg xs (nI_clamp (by omega))) ?_
  refine lv_aload_n hx hb dL_law_483 rfl (lv_at hl9 1 rfl) ?_
  refine lv_iload hx hb dL_law_484 (lv_at hl9 0 rfl) ?_
  refine lv_iconst (v := 2) hx hb dL_law_486 (by decide) ?_
  refine lv_iadd hx hb dL_law_487 ?_
  refine hp_c (v := (nI (4 * j + 2))) (nI_add (4 * j) 2) ?_
  refine va_sld hx hb hX hbl hbA hS (vp_in_nI (show 4 * j + 2 < L by omega) (by omega)) dL_law_488 ?_
  refine hp_c (v := xs (4 * j + 2)) (congrArg xs (nI_clamp (by omega))) ?_
  refine lv_aload_n hx hb dL_law_489 rfl (lv_at hl9 4 rfl) ?_
  refine hp_SH (As := [.ref xo, .int (xs (4 * j + 1)), .int (xs (4 * j + 2)), .ref out]) (rest := []) B0 hw hS (c_L_asked hl G f9 xo ez eo bu nw0 na0 nq0 nr0 nw1 na1 nq1 nr1 bs bp bh bf bl bg gw0 ga0 gw1 ga1 mg0 mg1 n a cg x sa pk fl gv gh gl hC out go ho hno (xs (4 * j + 1)) (xs (4 * j + 2))) mH_L_asked qM_L_115 rfl rfl hl9.1 (Nat.le_of_ble_eq_true rfl) ⟨⟨Nat.le_of_ble_eq_true rfl, Nat.le_of_ble_eq_true rfl⟩, (by first | omega | (dsimp only; omega) | (show (_ : Nat) ≤ _; simp only [room_1]; omega)), (by first | omega | (dsimp only; omega) | (show (_ : Nat) ≤ _; simp only [room_1]; omega))⟩ dL_law_490 (fun E ce q9 f751 H locs hPX hw hS hce hcv hcl => ?_) (fun v f751 H locs hP hw hS => ?_)
  · exact hPX.elim
  · obtain ⟨⟨k752, ev9⟩, hC753, ⟨g754, ho755⟩, hk756⟩ := hP
    subst ev9
    have hM757 := MW.kp hM hk756 hdos
    refine W.eq (g2 := F0 m 493 ls [.int k752]) rfl ?_
    refine lv_istore (lv' := [(5, .int k752), (4, .int (nI (4 * j))), (0, .ref b), (1, .ref xo), (2, .ref mo), (3, .ref out)]) hx hb dL_law_493 hl9 (by decide) rfl (fun ls hl9 => ?_)
    refine lv_aload_n hx hb dL_law_495 rfl (lv_at hl9 4 rfl) ?_
    refine lv_aload_n hx hb dL_law_496 rfl (lv_at hl9 2 rfl) ?_
    refine lv_iload hx hb dL_law_497 (lv_at hl9 1 rfl) ?_
    refine lv_iconst (v := 1) hx hb dL_law_499 (by decide) ?_
    refine lv_iadd hx hb dL_law_500 ?_
    refine hp_c (v := (nI (4 * j + 1))) (nI_add (4 * j) 1) ?_
    refine va_sld hx hb hX hbl hbA hS (vp_in_nI (show 4 * j + 1 < L by omega) (by omega)) dL_law_501 ?_
    refine hp_c (v := xs (4 * j + 1)) (congrArg xs (nI_clamp (by omega))) ?_
    refine lv_aload_n hx hb dL_law_502 rfl (lv_at hl9 2 rfl) ?_
    refine lv_iload hx hb dL_law_503 (lv_at hl9 1 rfl) ?_
    refine lv_iconst (v := 2) hx hb dL_law_505 (by decide) ?_
    refine lv_iadd hx hb dL_law_506 ?_
    refine hp_c (v := (nI (4 * j + 2))) (nI_add (4 * j) 2) ?_
    refine va_sld hx hb hX hbl hbA hS (vp_in_nI (show 4 * j + 2 < L by omega) (by omega)) dL_law_507 ?_
    refine hp_c (v := xs (4 * j + 2)) (congrArg xs (nI_clamp (by omega))) ?_
    refine hp_V (ci := 5) (As := [.int (xs (4 * j + 1)), .int (xs (4 * j + 2))]) (rest := []) B0 hw hS (c_W5_asked hl G f751 mo dW dA dQ dM dS dL dR dT dZ dI dH dN dK dJ dU dO dF dP dE dX dY dG th (100 * j) gw0 ga0 gw1 ga1 mg0 mg1 n a cg x sa pk fl gv gh gl hM757 (by omega) (xs (4 * j + 1)) (xs (4 * j + 2))) mV_X5_asked qM_L_117 rfl hM757.1 rfl rfl hl9.1 (Nat.le_of_ble_eq_true rfl) ⟨⟨Nat.le_of_ble_eq_true rfl, Nat.le_of_ble_eq_true rfl⟩, (by first | omega | (dsimp only; omega) | (show (_ : Nat) ≤ _; simp only [room_1]; omega)), (by first | omega | (dsimp only; omega) | (show (_ : Nat) ≤ _; simp only [room_1]; omega))⟩ dL_law_508 (fun E ce q9 f758 H locs hPX hw hS hce hcv hcl => ?_) (fun v f758 H locs hP hw hS => ?_)
    · exact hPX.elim
    · obtain ⟨⟨r759, ev9⟩, ⟨t760, hM761⟩, he762⟩ := hP
      subst ev9
      have hC763 := CW.eq hC753 he762 hdis (MW.fr hM757 hM761)
      have ho764 := (he762 _ hno2).trans ho755
      refine W.eq (g2 := F0 m 511 ls [.int r759]) rfl ?_
      refine lv_istore (lv' := [(6, .int r759), (5, .int k752), (4, .int (nI (4 * j))), (0, .ref b), (1, .ref xo), (2, .ref mo), (3, .ref out)]) hx hb dL_law_511 hl9 (by decide) rfl (fun ls hl9 => ?_)
      refine lv_goto (tgt := 766) hx hb dL_law_513 (by decide) ?_
      refine lv_iinc (v := (nI (4 * (j + 1)))) (lv' := [(4, .int (nI (4 * (j + 1)))), (6, .int r759), (5, .int k752), (0, .ref b), (1, .ref xo), (2, .ref mo), (3, .ref out)]) hx hb dL_law_766 hl9 (k := 2) rfl (nI_add (4 * j) 4) (by decide) rfl (fun ls hl9 => ?_)
      refine lv_goto (tgt := 23) hx hb dL_law_769 (by decide) ?_
      exact W.widen (by omega) (by omega) (ih _ _ H locs ls ⟨_, _, _, _, _, _, _, _, _, _, _, _, _, _, _, _, hC763, ⟨_, (MW.mono hM761 (by omega))⟩, ⟨_, ho764⟩, rfl⟩ hw hS (lv_sub hl9 [0, 3, 4, 5, 6] rfl))

set_option maxHeartbeats 4000000 in
set_option maxRecDepth 100000 in
theorem law_c11 {p : Program} {l : Launch} {e : Env} {s : State} {m : MethodId} {below : List Frame} {meth : Method} {c : Code} {b L : Nat} {xs : Nat → Int32} (hL : L ≤ 2048) (hx : p.tables.exec = Jvm.exec) (hb : c.code = code) (hX : va_X b L xs s s.heap) (hbl : b < s.heap.size) (hl : l.stackTraces = false) {G : hG} (B0 : hB p l s m #[Value.ref b] meth c code 7 RL G) (hbA : ¬ hFr G b) {xo ez eo bu nw0 na0 nq0 nr0 nw1 na1 nq1 nr1 bs bp bh bf bl bg mo dW dA dQ dM dS dL dR dT dZ dI dH dN dK dJ dU dO dF dP dE dX dY dG out : Nat} (hdis : ∀ p, p ∈ [xo, ez, eo, bu, nw0, na0, nq0, nr0, nw1, na1, nq1, nr1, bs, bp, bh, bf, bl, bg] → p ∉ [mo, dW, dA, dQ, dM, dS, dL, dR, dT, dZ, dI, dH, dN, dK, dJ, dU, dO, dF, dP, dE, dX, dY, dG]) (hdos : ∀ p, p ∈ [mo, dW, dA, dQ, dM, dS, dL, dR, dT, dZ, dI, dH, dN, dK, dJ, dU, dO, dF, dP, dE, dX, dY, dG] → p ∉ [out, xo, ez, eo, bu, nw0, na0, nq0, nr0, nw1, na1, nq1, nr1, bs, bp, bh, bf, bl, bg]) (hno : out ∉ [xo, ez, eo, bu, nw0, na0, nq0, nr0, nw1, na1, nq1, nr1, bs, bp, bh, bf, bl, bg]) (hno2 : out ∉ [mo, dW, dA, dQ, dM, dS, dL, dR, dT, dZ, dI, dH, dN, dK, dJ, dU, dO, dF, dP, dE, dX, dY, dG]) {j T : Nat} (hj : j < T) (hT1 : 4 * T ≤ L) (ih : ∀ (f9 : hM) (lv9 : List (Nat × Value)) (H : Heap) (locs : List Loc) (ls : Array Slot), lwI G xo ez eo bu nw0 na0 nq0 nr0 nw1 na1 nq1 nr1 bs bp bh bf bl bg mo dW dA dQ dM dS dL dR dT dZ dI dH dN dK dJ dU dO dF dP dE dX dY dG out b (j + 1) f9 lv9 → hW G f9 H → va_S (hFr G) s.heap H locs → lv_has ls 7 lv9 → W p l e room_1 s m #[Value.ref b] below meth c H locs (42 + (j + 1) * 201) (9564 + (j + 1) * 1101) (lw_Z below #[Value.ref b] s) (F0 m 23 ls [])) {gw0 : Nat → Int32} {ga0 : Nat → Int32} {gw1 : Nat → Int32} {ga1 : Nat → Int32} {mg0 : Int32} {mg1 : Int32} {n : Nat} {a : Nat} {cg : Nat} {x : Nat} {sa : Nat → Nat} {pk : Nat → Nat} {fl : Nat → Nat} {gv : Nat → Nat} {gh : Nat → Int32} {gl : Nat → Int32} {f9 : hM} {th : Int32} {go : Nat → Int64} (hC : CW G f9 xo ez eo bu nw0 na0 nq0 nr0 nw1 na1 nq1 nr1 bs bp bh bf bl bg gw0 ga0 gw1 ga1 mg0 mg1 n a cg x sa pk fl gv gh gl) (hM : MW G f9 mo dW dA dQ dM dS dL dR dT dZ dI dH dN dK dJ dU dO dF dP dE dX dY dG th (100 * j) gw0 ga0 gw1 ga1 mg0 mg1 n a cg x sa pk fl gv gh gl) (ho : f9 out = some (.inl (cJ G, 1, .inr (.inl go)))) {H : Heap} {locs : List Loc} {ls : Array Slot} (hw : hW G f9 H) (hS : va_S (hFr G) s.heap H locs) (hl9 : lv_has ls 7 [(4, .int (nI (4 * j))), (0, .ref b), (1, .ref xo), (2, .ref mo), (3, .ref out)]) : W p l e room_1 s m #[Value.ref b] below meth c H locs (42 + j * 201) (9564 + j * 1101) (lw_Z below #[Value.ref b] s) (F0 m 516 ls []) := by
  refine lv_aload_n hx hb dL_law_516 rfl (lv_at hl9 2 rfl) ?_
  refine lv_aload_n hx hb dL_law_517 rfl (lv_at hl9 1 rfl) ?_
  refine lv_iload hx hb dL_law_518 (lv_at hl9 0 rfl) ?_
  refine lv_iconst (v := 1) hx hb dL_law_520 (by decide) ?_
  refine lv_iadd hx hb dL_law_521 ?_
  refine hp_c (v := (nI (4 * j + 1))) (nI_add (4 * j) 1) ?_
  refine va_sld hx hb hX hbl hbA hS (vp_in_nI (show 4 * j + 1 < L by omega) (by omega)) dL_law_522 ?_
  refine hp_c (v := xs (4 * j + 1)) (congrArg xs (nI_clamp (by omega))) ?_
  refine lv_aload_n hx hb dL_law_523 rfl (lv_at hl9 4 rfl) ?_
  refine hp_SH (As := [.ref xo, .int (xs (4 * j + 1)), .ref out]) (rest := []) B0 hw hS (c_L_requests hl G f9 xo ez eo bu nw0 na0 nq0 nr0 nw1 na1 nq1 nr1 bs bp bh bf bl bg gw0 ga0 gw1 ga1 mg0 mg1 n a cg x sa pk fl gv gh gl hC out go ho hno (xs (4 * j + 1))) mH_L_requests qM_L_118 rfl rfl hl9.1 (Nat.le_of_ble_eq_true rfl) ⟨⟨Nat.le_of_ble_eq_true rfl, Nat.le_of_ble_eq_true rfl⟩, (by first | omega | (dsimp only; omega) | (show (_ : Nat) ≤ _; simp only [room_1]; omega)), (by first | omega | (dsimp only; omega) | (show (_ : Nat) ≤ _; simp only [room_1]; omega))⟩ dL_law_524 (fun E ce q9 f765 H locs hPX hw hS hce hcv hcl => ?_) (fun v f765 H locs hP hw hS => ?_)
  · exact hPX.elim
  · obtain ⟨⟨k766, ev9⟩, hC767, ⟨g768, ho769⟩, hk770⟩ := hP
    subst ev9
    have hM771 := MW.kp hM hk770 hdos
    refine W.eq (g2 := F0 m 527 ls [.int k766]) rfl ?_
    refine lv_istore (lv' := [(5, .int k766), (4, .int (nI (4 * j))), (0, .ref b), (1, .ref xo), (2, .ref mo), (3, .ref out)]) hx hb dL_law_527 hl9 (by decide) rfl (fun ls hl9 => ?_)
    refine lv_aload_n hx hb dL_law_529 rfl (lv_at hl9 4 rfl) ?_
    refine lv_aload_n hx hb dL_law_530 rfl (lv_at hl9 2 rfl) ?_
    refine lv_iload hx hb dL_law_531 (lv_at hl9 1 rfl) ?_
    refine lv_iconst (v := 1) hx hb dL_law_533 (by decide) ?_
    refine lv_iadd hx hb dL_law_534 ?_
    refine hp_c (v := (nI (4 * j + 1))) (nI_add (4 * j) 1) ?_
    refine va_sld hx hb hX hbl hbA hS (vp_in_nI (show 4 * j + 1 < L by omega) (by omega)) dL_law_535 ?_
    refine hp_c (v := xs (4 * j + 1)) (congrArg xs (nI_clamp (by omega))) ?_
    refine hp_V (ci := 5) (As := [.int (xs (4 * j + 1))]) (rest := []) B0 hw hS (c_W5_requests hl G f765 mo dW dA dQ dM dS dL dR dT dZ dI dH dN dK dJ dU dO dF dP dE dX dY dG th (100 * j) gw0 ga0 gw1 ga1 mg0 mg1 n a cg x sa pk fl gv gh gl hM771 (by omega) (xs (4 * j + 1))) mV_X5_requests qM_L_120 rfl hM771.1 rfl rfl hl9.1 (Nat.le_of_ble_eq_true rfl) ⟨⟨Nat.le_of_ble_eq_true rfl, Nat.le_of_ble_eq_true rfl⟩, (by first | omega | (dsimp only; omega) | (show (_ : Nat) ≤ _; simp only [room_1]; omega)), (by first | omega | (dsimp only; omega) | (show (_ : Nat) ≤ _; simp only [room_1]; omega))⟩ dL_law_536 (fun E ce q9 f772 H locs hPX hw hS hce hcv hcl => ?_) (fun v f772 H locs hP hw hS => ?_)
    · exact hPX.elim
    · obtain ⟨⟨r773, ev9⟩, ⟨t774, hM775⟩, he776⟩ := hP
      subst ev9
      have hC777 := CW.eq hC767 he776 hdis (MW.fr hM771 hM775)
      have ho778 := (he776 _ hno2).trans ho769
      refine W.eq (g2 := F0 m 539 ls [.int r773]) rfl ?_
      refine lv_istore (lv' := [(6, .int r773), (5, .int k766), (4, .int (nI (4 * j))), (0, .ref b), (1, .ref xo), (2, .ref mo), (3, .ref out)]) hx hb dL_law_539 hl9 (by decide) rfl (fun ls hl9 => ?_)
      refine lv_goto (tgt := 766) hx hb dL_law_541 (by decide) ?_
      refine lv_iinc (v := (nI (4 * (j + 1)))) (lv' := [(4, .int (nI (4 * (j + 1)))), (6, .int r773), (5, .int k766), (0, .ref b), (1, .ref xo), (2, .ref mo), (3, .ref out)]) hx hb dL_law_766 hl9 (k := 2) rfl (nI_add (4 * j) 4) (by decide) rfl (fun ls hl9 => ?_)
      refine lv_goto (tgt := 23) hx hb dL_law_769 (by decide) ?_
      exact W.widen (by omega) (by omega) (ih _ _ H locs ls ⟨_, _, _, _, _, _, _, _, _, _, _, _, _, _, _, _, hC777, ⟨_, (MW.mono hM775 (by omega))⟩, ⟨_, ho778⟩, rfl⟩ hw hS (lv_sub hl9 [0, 3, 4, 5, 6] rfl))

set_option maxHeartbeats 4000000 in
set_option maxRecDepth 100000 in
theorem law_c12 {p : Program} {l : Launch} {e : Env} {s : State} {m : MethodId} {below : List Frame} {meth : Method} {c : Code} {b L : Nat} {xs : Nat → Int32} (hL : L ≤ 2048) (hx : p.tables.exec = Jvm.exec) (hb : c.code = code) (hX : va_X b L xs s s.heap) (hbl : b < s.heap.size) (hl : l.stackTraces = false) {G : hG} (B0 : hB p l s m #[Value.ref b] meth c code 7 RL G) (hbA : ¬ hFr G b) {xo ez eo bu nw0 na0 nq0 nr0 nw1 na1 nq1 nr1 bs bp bh bf bl bg mo dW dA dQ dM dS dL dR dT dZ dI dH dN dK dJ dU dO dF dP dE dX dY dG out : Nat} (hdis : ∀ p, p ∈ [xo, ez, eo, bu, nw0, na0, nq0, nr0, nw1, na1, nq1, nr1, bs, bp, bh, bf, bl, bg] → p ∉ [mo, dW, dA, dQ, dM, dS, dL, dR, dT, dZ, dI, dH, dN, dK, dJ, dU, dO, dF, dP, dE, dX, dY, dG]) (hdos : ∀ p, p ∈ [mo, dW, dA, dQ, dM, dS, dL, dR, dT, dZ, dI, dH, dN, dK, dJ, dU, dO, dF, dP, dE, dX, dY, dG] → p ∉ [out, xo, ez, eo, bu, nw0, na0, nq0, nr0, nw1, na1, nq1, nr1, bs, bp, bh, bf, bl, bg]) (hno : out ∉ [xo, ez, eo, bu, nw0, na0, nq0, nr0, nw1, na1, nq1, nr1, bs, bp, bh, bf, bl, bg]) (hno2 : out ∉ [mo, dW, dA, dQ, dM, dS, dL, dR, dT, dZ, dI, dH, dN, dK, dJ, dU, dO, dF, dP, dE, dX, dY, dG]) {j T : Nat} (hj : j < T) (hT1 : 4 * T ≤ L) (ih : ∀ (f9 : hM) (lv9 : List (Nat × Value)) (H : Heap) (locs : List Loc) (ls : Array Slot), lwI G xo ez eo bu nw0 na0 nq0 nr0 nw1 na1 nq1 nr1 bs bp bh bf bl bg mo dW dA dQ dM dS dL dR dT dZ dI dH dN dK dJ dU dO dF dP dE dX dY dG out b (j + 1) f9 lv9 → hW G f9 H → va_S (hFr G) s.heap H locs → lv_has ls 7 lv9 → W p l e room_1 s m #[Value.ref b] below meth c H locs (42 + (j + 1) * 201) (9564 + (j + 1) * 1101) (lw_Z below #[Value.ref b] s) (F0 m 23 ls [])) {gw0 : Nat → Int32} {ga0 : Nat → Int32} {gw1 : Nat → Int32} {ga1 : Nat → Int32} {mg0 : Int32} {mg1 : Int32} {n : Nat} {a : Nat} {cg : Nat} {x : Nat} {sa : Nat → Nat} {pk : Nat → Nat} {fl : Nat → Nat} {gv : Nat → Nat} {gh : Nat → Int32} {gl : Nat → Int32} {f9 : hM} {th : Int32} {go : Nat → Int64} (hC : CW G f9 xo ez eo bu nw0 na0 nq0 nr0 nw1 na1 nq1 nr1 bs bp bh bf bl bg gw0 ga0 gw1 ga1 mg0 mg1 n a cg x sa pk fl gv gh gl) (hM : MW G f9 mo dW dA dQ dM dS dL dR dT dZ dI dH dN dK dJ dU dO dF dP dE dX dY dG th (100 * j) gw0 ga0 gw1 ga1 mg0 mg1 n a cg x sa pk fl gv gh gl) (ho : f9 out = some (.inl (cJ G, 1, .inr (.inl go)))) {H : Heap} {locs : List Loc} {ls : Array Slot} (hw : hW G f9 H) (hS : va_S (hFr G) s.heap H locs) (hl9 : lv_has ls 7 [(4, .int (nI (4 * j))), (0, .ref b), (1, .ref xo), (2, .ref mo), (3, .ref out)]) : W p l e room_1 s m #[Value.ref b] below meth c H locs (42 + j * 201) (9564 + j * 1101) (lw_Z below #[Value.ref b] s) (F0 m 544 ls []) := by
  refine lv_aload_n hx hb dL_law_544 rfl (lv_at hl9 2 rfl) ?_
  refine lv_aload_n hx hb dL_law_545 rfl (lv_at hl9 1 rfl) ?_
  refine lv_iload hx hb dL_law_546 (lv_at hl9 0 rfl) ?_
  refine lv_iconst (v := 1) hx hb dL_law_548 (by decide) ?_
  refine lv_iadd hx hb dL_law_549 ?_
  refine hp_c (v := (nI (4 * j + 1))) (nI_add (4 * j) 1) ?_
  refine va_sld hx hb hX hbl hbA hS (vp_in_nI (show 4 * j + 1 < L by omega) (by omega)) dL_law_550 ?_
  refine hp_c (v := xs (4 * j + 1)) (congrArg xs (nI_clamp (by omega))) ?_
  refine lv_aload_n hx hb dL_law_551 rfl (lv_at hl9 4 rfl) ?_
  refine hp_SH (As := [.ref xo, .int (xs (4 * j + 1)), .ref out]) (rest := []) B0 hw hS (c_L_isLooped hl G f9 xo ez eo bu nw0 na0 nq0 nr0 nw1 na1 nq1 nr1 bs bp bh bf bl bg gw0 ga0 gw1 ga1 mg0 mg1 n a cg x sa pk fl gv gh gl hC out go ho hno (xs (4 * j + 1))) mH_L_isLooped qM_L_121 rfl rfl hl9.1 (Nat.le_of_ble_eq_true rfl) ⟨⟨Nat.le_of_ble_eq_true rfl, Nat.le_of_ble_eq_true rfl⟩, (by first | omega | (dsimp only; omega) | (show (_ : Nat) ≤ _; simp only [room_1]; omega)), (by first | omega | (dsimp only; omega) | (show (_ : Nat) ≤ _; simp only [room_1]; omega))⟩ dL_law_552 (fun E ce q9 f779 H locs hPX hw hS hce hcv hcl => ?_) (fun v f779 H locs hP hw hS => ?_)
  · exact hPX.elim
  · obtain ⟨⟨k780, ev9⟩, hC781, ⟨g782, ho783⟩, hk784⟩ := hP
    subst ev9
    have hM785 := MW.kp hM hk784 hdos
    refine W.eq (g2 := F0 m 555 ls [.int k780]) rfl ?_
    refine lv_istore (lv' := [(5, .int k780), (4, .int (nI (4 * j))), (0, .ref b), (1, .ref xo), (2, .ref mo), (3, .ref out)]) hx hb dL_law_555 hl9 (by decide) rfl (fun ls hl9 => ?_)
    refine lv_aload_n hx hb dL_law_557 rfl (lv_at hl9 4 rfl) ?_
    refine lv_aload_n hx hb dL_law_558 rfl (lv_at hl9 2 rfl) ?_
    refine lv_iload hx hb dL_law_559 (lv_at hl9 1 rfl) ?_
    refine lv_iconst (v := 1) hx hb dL_law_561 (by decide) ?_
    refine lv_iadd hx hb dL_law_562 ?_
    refine hp_c (v := (nI (4 * j + 1))) (nI_add (4 * j) 1) ?_
    refine va_sld hx hb hX hbl hbA hS (vp_in_nI (show 4 * j + 1 < L by omega) (by omega)) dL_law_563 ?_
    refine hp_c (v := xs (4 * j + 1)) (congrArg xs (nI_clamp (by omega))) ?_
    refine hp_V (ci := 5) (As := [.int (xs (4 * j + 1))]) (rest := []) B0 hw hS (c_W5_isLooped hl G f779 mo dW dA dQ dM dS dL dR dT dZ dI dH dN dK dJ dU dO dF dP dE dX dY dG th (100 * j) gw0 ga0 gw1 ga1 mg0 mg1 n a cg x sa pk fl gv gh gl hM785 (by omega) (xs (4 * j + 1))) mV_X5_isLooped qM_L_123 rfl hM785.1 rfl rfl hl9.1 (Nat.le_of_ble_eq_true rfl) ⟨⟨Nat.le_of_ble_eq_true rfl, Nat.le_of_ble_eq_true rfl⟩, (by first | omega | (dsimp only; omega) | (show (_ : Nat) ≤ _; simp only [room_1]; omega)), (by first | omega | (dsimp only; omega) | (show (_ : Nat) ≤ _; simp only [room_1]; omega))⟩ dL_law_564 (fun E ce q9 f786 H locs hPX hw hS hce hcv hcl => ?_) (fun v f786 H locs hP hw hS => ?_)
    · exact hPX.elim
    · obtain ⟨⟨r787, ev9⟩, ⟨t788, hM789⟩, he790⟩ := hP
      subst ev9
      have hC791 := CW.eq hC781 he790 hdis (MW.fr hM785 hM789)
      have ho792 := (he790 _ hno2).trans ho783
      refine W.eq (g2 := F0 m 567 ls [.int r787]) rfl ?_
      refine lv_istore (lv' := [(6, .int r787), (5, .int k780), (4, .int (nI (4 * j))), (0, .ref b), (1, .ref xo), (2, .ref mo), (3, .ref out)]) hx hb dL_law_567 hl9 (by decide) rfl (fun ls hl9 => ?_)
      refine lv_goto (tgt := 766) hx hb dL_law_569 (by decide) ?_
      refine lv_iinc (v := (nI (4 * (j + 1)))) (lv' := [(4, .int (nI (4 * (j + 1)))), (6, .int r787), (5, .int k780), (0, .ref b), (1, .ref xo), (2, .ref mo), (3, .ref out)]) hx hb dL_law_766 hl9 (k := 2) rfl (nI_add (4 * j) 4) (by decide) rfl (fun ls hl9 => ?_)
      refine lv_goto (tgt := 23) hx hb dL_law_769 (by decide) ?_
      exact W.widen (by omega) (by omega) (ih _ _ H locs ls ⟨_, _, _, _, _, _, _, _, _, _, _, _, _, _, _, _, hC791, ⟨_, (MW.mono hM789 (by omega))⟩, ⟨_, ho792⟩, rfl⟩ hw hS (lv_sub hl9 [0, 3, 4, 5, 6] rfl))

set_option maxHeartbeats 4000000 in
set_option maxRecDepth 100000 in
theorem law_c13 {p : Program} {l : Launch} {e : Env} {s : State} {m : MethodId} {below : List Frame} {meth : Method} {c : Code} {b L : Nat} {xs : Nat → Int32} (hL : L ≤ 2048) (hx : p.tables.exec = Jvm.exec) (hb : c.code = code) (hX : va_X b L xs s s.heap) (hbl : b < s.heap.size) (hl : l.stackTraces = false) {G : hG} (B0 : hB p l s m #[Value.ref b] meth c code 7 RL G) (hbA : ¬ hFr G b) {xo ez eo bu nw0 na0 nq0 nr0 nw1 na1 nq1 nr1 bs bp bh bf bl bg mo dW dA dQ dM dS dL dR dT dZ dI dH dN dK dJ dU dO dF dP dE dX dY dG out : Nat} (hdis : ∀ p, p ∈ [xo, ez, eo, bu, nw0, na0, nq0, nr0, nw1, na1, nq1, nr1, bs, bp, bh, bf, bl, bg] → p ∉ [mo, dW, dA, dQ, dM, dS, dL, dR, dT, dZ, dI, dH, dN, dK, dJ, dU, dO, dF, dP, dE, dX, dY, dG]) (hdos : ∀ p, p ∈ [mo, dW, dA, dQ, dM, dS, dL, dR, dT, dZ, dI, dH, dN, dK, dJ, dU, dO, dF, dP, dE, dX, dY, dG] → p ∉ [out, xo, ez, eo, bu, nw0, na0, nq0, nr0, nw1, na1, nq1, nr1, bs, bp, bh, bf, bl, bg]) (hno : out ∉ [xo, ez, eo, bu, nw0, na0, nq0, nr0, nw1, na1, nq1, nr1, bs, bp, bh, bf, bl, bg]) (hno2 : out ∉ [mo, dW, dA, dQ, dM, dS, dL, dR, dT, dZ, dI, dH, dN, dK, dJ, dU, dO, dF, dP, dE, dX, dY, dG]) {j T : Nat} (hj : j < T) (hT1 : 4 * T ≤ L) (ih : ∀ (f9 : hM) (lv9 : List (Nat × Value)) (H : Heap) (locs : List Loc) (ls : Array Slot), lwI G xo ez eo bu nw0 na0 nq0 nr0 nw1 na1 nq1 nr1 bs bp bh bf bl bg mo dW dA dQ dM dS dL dR dT dZ dI dH dN dK dJ dU dO dF dP dE dX dY dG out b (j + 1) f9 lv9 → hW G f9 H → va_S (hFr G) s.heap H locs → lv_has ls 7 lv9 → W p l e room_1 s m #[Value.ref b] below meth c H locs (42 + (j + 1) * 201) (9564 + (j + 1) * 1101) (lw_Z below #[Value.ref b] s) (F0 m 23 ls [])) {gw0 : Nat → Int32} {ga0 : Nat → Int32} {gw1 : Nat → Int32} {ga1 : Nat → Int32} {mg0 : Int32} {mg1 : Int32} {n : Nat} {a : Nat} {cg : Nat} {x : Nat} {sa : Nat → Nat} {pk : Nat → Nat} {fl : Nat → Nat} {gv : Nat → Nat} {gh : Nat → Int32} {gl : Nat → Int32} {f9 : hM} {th : Int32} {go : Nat → Int64} (hC : CW G f9 xo ez eo bu nw0 na0 nq0 nr0 nw1 na1 nq1 nr1 bs bp bh bf bl bg gw0 ga0 gw1 ga1 mg0 mg1 n a cg x sa pk fl gv gh gl) (hM : MW G f9 mo dW dA dQ dM dS dL dR dT dZ dI dH dN dK dJ dU dO dF dP dE dX dY dG th (100 * j) gw0 ga0 gw1 ga1 mg0 mg1 n a cg x sa pk fl gv gh gl) (ho : f9 out = some (.inl (cJ G, 1, .inr (.inl go)))) {H : Heap} {locs : List Loc} {ls : Array Slot} (hw : hW G f9 H) (hS : va_S (hFr G) s.heap H locs) (hl9 : lv_has ls 7 [(4, .int (nI (4 * j))), (0, .ref b), (1, .ref xo), (2, .ref mo), (3, .ref out)]) : W p l e room_1 s m #[Value.ref b] below meth c H locs (42 + j * 201) (9564 + j * 1101) (lw_Z below #[Value.ref b] s) (F0 m 572 ls []) := by
  refine lv_aload_n hx hb dL_law_572 rfl (lv_at hl9 2 rfl) ?_
  refine lv_aload_n hx hb dL_law_573 rfl (lv_at hl9 1 rfl) ?_
  refine lv_iload hx hb dL_law_574 (lv_at hl9 0 rfl) ?_
  refine lv_iconst (v := 1) hx hb dL_law_576 (by decide) ?_
  refine lv_iadd hx hb dL_law_577 ?_
  refine hp_c (v := (nI (4 * j + 1))) (nI_add (4 * j) 1) ?_
  refine va_sld hx hb hX hbl hbA hS (vp_in_nI (show 4 * j + 1 < L by omega) (by omega)) dL_law_578 ?_
  refine hp_c (v := xs (4 * j + 1)) (congrArg xs (nI_clamp (by omega))) ?_
  refine lv_aload_n hx hb dL_law_579 rfl (lv_at hl9 4 rfl) ?_
  refine hp_SH (As := [.ref xo, .int (xs (4 * j + 1)), .ref out]) (rest := []) B0 hw hS (c_L_underWay hl G f9 xo ez eo bu nw0 na0 nq0 nr0 nw1 na1 nq1 nr1 bs bp bh bf bl bg gw0 ga0 gw1 ga1 mg0 mg1 n a cg x sa pk fl gv gh gl hC out go ho hno (xs (4 * j + 1))) mH_L_underWay qM_L_124 rfl rfl hl9.1 (Nat.le_of_ble_eq_true rfl) ⟨⟨Nat.le_of_ble_eq_true rfl, Nat.le_of_ble_eq_true rfl⟩, (by first | omega | (dsimp only; omega) | (show (_ : Nat) ≤ _; simp only [room_1]; omega)), (by first | omega | (dsimp only; omega) | (show (_ : Nat) ≤ _; simp only [room_1]; omega))⟩ dL_law_580 (fun E ce q9 f793 H locs hPX hw hS hce hcv hcl => ?_) (fun v f793 H locs hP hw hS => ?_)
  · exact hPX.elim
  · obtain ⟨⟨k794, ev9⟩, hC795, ⟨g796, ho797⟩, hk798⟩ := hP
    subst ev9
    have hM799 := MW.kp hM hk798 hdos
    refine W.eq (g2 := F0 m 583 ls [.int k794]) rfl ?_
    refine lv_istore (lv' := [(5, .int k794), (4, .int (nI (4 * j))), (0, .ref b), (1, .ref xo), (2, .ref mo), (3, .ref out)]) hx hb dL_law_583 hl9 (by decide) rfl (fun ls hl9 => ?_)
    refine lv_aload_n hx hb dL_law_585 rfl (lv_at hl9 4 rfl) ?_
    refine lv_aload_n hx hb dL_law_586 rfl (lv_at hl9 2 rfl) ?_
    refine lv_iload hx hb dL_law_587 (lv_at hl9 1 rfl) ?_
    refine lv_iconst (v := 1) hx hb dL_law_589 (by decide) ?_
    refine lv_iadd hx hb dL_law_590 ?_
    refine hp_c (v := (nI (4 * j + 1))) (nI_add (4 * j) 1) ?_
    refine va_sld hx hb hX hbl hbA hS (vp_in_nI (show 4 * j + 1 < L by omega) (by omega)) dL_law_591 ?_
    refine hp_c (v := xs (4 * j + 1)) (congrArg xs (nI_clamp (by omega))) ?_
    refine hp_V (ci := 5) (As := [.int (xs (4 * j + 1))]) (rest := []) B0 hw hS (c_W5_underWay hl G f793 mo dW dA dQ dM dS dL dR dT dZ dI dH dN dK dJ dU dO dF dP dE dX dY dG th (100 * j) gw0 ga0 gw1 ga1 mg0 mg1 n a cg x sa pk fl gv gh gl hM799 (by omega) (xs (4 * j + 1))) mV_X5_underWay qM_L_126 rfl hM799.1 rfl rfl hl9.1 (Nat.le_of_ble_eq_true rfl) ⟨⟨Nat.le_of_ble_eq_true rfl, Nat.le_of_ble_eq_true rfl⟩, (by first | omega | (dsimp only; omega) | (show (_ : Nat) ≤ _; simp only [room_1]; omega)), (by first | omega | (dsimp only; omega) | (show (_ : Nat) ≤ _; simp only [room_1]; omega))⟩ dL_law_592 (fun E ce q9 f800 H locs hPX hw hS hce hcv hcl => ?_) (fun v f800 H locs hP hw hS => ?_)
    · exact hPX.elim
    · obtain ⟨⟨r801, ev9⟩, ⟨t802, hM803⟩, he804⟩ := hP
      subst ev9
      have hC805 := CW.eq hC795 he804 hdis (MW.fr hM799 hM803)
      have ho806 := (he804 _ hno2).trans ho797
      refine W.eq (g2 := F0 m 595 ls [.int r801]) rfl ?_
      refine lv_istore (lv' := [(6, .int r801), (5, .int k794), (4, .int (nI (4 * j))), (0, .ref b), (1, .ref xo), (2, .ref mo), (3, .ref out)]) hx hb dL_law_595 hl9 (by decide) rfl (fun ls hl9 => ?_)
      refine lv_goto (tgt := 766) hx hb dL_law_597 (by decide) ?_
      refine lv_iinc (v := (nI (4 * (j + 1)))) (lv' := [(4, .int (nI (4 * (j + 1)))), (6, .int r801), (5, .int k794), (0, .ref b), (1, .ref xo), (2, .ref mo), (3, .ref out)]) hx hb dL_law_766 hl9 (k := 2) rfl (nI_add (4 * j) 4) (by decide) rfl (fun ls hl9 => ?_)
      refine lv_goto (tgt := 23) hx hb dL_law_769 (by decide) ?_
      exact W.widen (by omega) (by omega) (ih _ _ H locs ls ⟨_, _, _, _, _, _, _, _, _, _, _, _, _, _, _, _, hC805, ⟨_, (MW.mono hM803 (by omega))⟩, ⟨_, ho806⟩, rfl⟩ hw hS (lv_sub hl9 [0, 3, 4, 5, 6] rfl))

set_option maxHeartbeats 4000000 in
set_option maxRecDepth 100000 in
theorem law_c14 {p : Program} {l : Launch} {e : Env} {s : State} {m : MethodId} {below : List Frame} {meth : Method} {c : Code} {b L : Nat} {xs : Nat → Int32} (hL : L ≤ 2048) (hx : p.tables.exec = Jvm.exec) (hb : c.code = code) (hX : va_X b L xs s s.heap) (hbl : b < s.heap.size) (hl : l.stackTraces = false) {G : hG} (B0 : hB p l s m #[Value.ref b] meth c code 7 RL G) (hbA : ¬ hFr G b) {xo ez eo bu nw0 na0 nq0 nr0 nw1 na1 nq1 nr1 bs bp bh bf bl bg mo dW dA dQ dM dS dL dR dT dZ dI dH dN dK dJ dU dO dF dP dE dX dY dG out : Nat} (hdis : ∀ p, p ∈ [xo, ez, eo, bu, nw0, na0, nq0, nr0, nw1, na1, nq1, nr1, bs, bp, bh, bf, bl, bg] → p ∉ [mo, dW, dA, dQ, dM, dS, dL, dR, dT, dZ, dI, dH, dN, dK, dJ, dU, dO, dF, dP, dE, dX, dY, dG]) (hdos : ∀ p, p ∈ [mo, dW, dA, dQ, dM, dS, dL, dR, dT, dZ, dI, dH, dN, dK, dJ, dU, dO, dF, dP, dE, dX, dY, dG] → p ∉ [out, xo, ez, eo, bu, nw0, na0, nq0, nr0, nw1, na1, nq1, nr1, bs, bp, bh, bf, bl, bg]) (hno : out ∉ [xo, ez, eo, bu, nw0, na0, nq0, nr0, nw1, na1, nq1, nr1, bs, bp, bh, bf, bl, bg]) (hno2 : out ∉ [mo, dW, dA, dQ, dM, dS, dL, dR, dT, dZ, dI, dH, dN, dK, dJ, dU, dO, dF, dP, dE, dX, dY, dG]) {j T : Nat} (hj : j < T) (hT1 : 4 * T ≤ L) (ih : ∀ (f9 : hM) (lv9 : List (Nat × Value)) (H : Heap) (locs : List Loc) (ls : Array Slot), lwI G xo ez eo bu nw0 na0 nq0 nr0 nw1 na1 nq1 nr1 bs bp bh bf bl bg mo dW dA dQ dM dS dL dR dT dZ dI dH dN dK dJ dU dO dF dP dE dX dY dG out b (j + 1) f9 lv9 → hW G f9 H → va_S (hFr G) s.heap H locs → lv_has ls 7 lv9 → W p l e room_1 s m #[Value.ref b] below meth c H locs (42 + (j + 1) * 201) (9564 + (j + 1) * 1101) (lw_Z below #[Value.ref b] s) (F0 m 23 ls [])) {gw0 : Nat → Int32} {ga0 : Nat → Int32} {gw1 : Nat → Int32} {ga1 : Nat → Int32} {mg0 : Int32} {mg1 : Int32} {n : Nat} {a : Nat} {cg : Nat} {x : Nat} {sa : Nat → Nat} {pk : Nat → Nat} {fl : Nat → Nat} {gv : Nat → Nat} {gh : Nat → Int32} {gl : Nat → Int32} {f9 : hM} {th : Int32} {go : Nat → Int64} (hC : CW G f9 xo ez eo bu nw0 na0 nq0 nr0 nw1 na1 nq1 nr1 bs bp bh bf bl bg gw0 ga0 gw1 ga1 mg0 mg1 n a cg x sa pk fl gv gh gl) (hM : MW G f9 mo dW dA dQ dM dS dL dR dT dZ dI dH dN dK dJ dU dO dF dP dE dX dY dG th (100 * j) gw0 ga0 gw1 ga1 mg0 mg1 n a cg x sa pk fl gv gh gl) (ho : f9 out = some (.inl (cJ G, 1, .inr (.inl go)))) {H : Heap} {locs : List Loc} {ls : Array Slot} (hw : hW G f9 H) (hS : va_S (hFr G) s.heap H locs) (hl9 : lv_has ls 7 [(4, .int (nI (4 * j))), (0, .ref b), (1, .ref xo), (2, .ref mo), (3, .ref out)]) : W p l e room_1 s m #[Value.ref b] below meth c H locs (42 + j * 201) (9564 + j * 1101) (lw_Z below #[Value.ref b] s) (F0 m 600 ls []) := by
  refine lv_aload_n hx hb dL_law_600 rfl (lv_at hl9 2 rfl) ?_
  refine lv_aload_n hx hb dL_law_601 rfl (lv_at hl9 1 rfl) ?_
  refine lv_iload hx hb dL_law_602 (lv_at hl9 0 rfl) ?_
  refine lv_iconst (v := 1) hx hb dL_law_604 (by decide) ?_
  refine lv_iadd hx hb dL_law_605 ?_
  refine hp_c (v := (nI (4 * j + 1))) (nI_add (4 * j) 1) ?_
  refine va_sld hx hb hX hbl hbA hS (vp_in_nI (show 4 * j + 1 < L by omega) (by omega)) dL_law_606 ?_
  refine hp_c (v := xs (4 * j + 1)) (congrArg xs (nI_clamp (by omega))) ?_
  refine lv_aload_n hx hb dL_law_607 rfl (lv_at hl9 4 rfl) ?_
  refine hp_SH (As := [.ref xo, .int (xs (4 * j + 1)), .ref out]) (rest := []) B0 hw hS (c_L_missed hl G f9 xo ez eo bu nw0 na0 nq0 nr0 nw1 na1 nq1 nr1 bs bp bh bf bl bg gw0 ga0 gw1 ga1 mg0 mg1 n a cg x sa pk fl gv gh gl hC out go ho hno (xs (4 * j + 1))) mH_L_missed qM_L_127 rfl rfl hl9.1 (Nat.le_of_ble_eq_true rfl) ⟨⟨Nat.le_of_ble_eq_true rfl, Nat.le_of_ble_eq_true rfl⟩, (by first | omega | (dsimp only; omega) | (show (_ : Nat) ≤ _; simp only [room_1]; omega)), (by first | omega | (dsimp only; omega) | (show (_ : Nat) ≤ _; simp only [room_1]; omega))⟩ dL_law_608 (fun E ce q9 f807 H locs hPX hw hS hce hcv hcl => ?_) (fun v f807 H locs hP hw hS => ?_)
  · exact hPX.elim
  · obtain ⟨⟨k808, ev9⟩, hC809, ⟨g810, ho811⟩, hk812⟩ := hP
    subst ev9
    have hM813 := MW.kp hM hk812 hdos
    refine W.eq (g2 := F0 m 611 ls [.int k808]) rfl ?_
    refine lv_istore (lv' := [(5, .int k808), (4, .int (nI (4 * j))), (0, .ref b), (1, .ref xo), (2, .ref mo), (3, .ref out)]) hx hb dL_law_611 hl9 (by decide) rfl (fun ls hl9 => ?_)
    refine lv_aload_n hx hb dL_law_613 rfl (lv_at hl9 4 rfl) ?_
    refine lv_aload_n hx hb dL_law_614 rfl (lv_at hl9 2 rfl) ?_
    refine lv_iload hx hb dL_law_615 (lv_at hl9 1 rfl) ?_
    refine lv_iconst (v := 1) hx hb dL_law_617 (by decide) ?_
    refine lv_iadd hx hb dL_law_618 ?_
    refine hp_c (v := (nI (4 * j + 1))) (nI_add (4 * j) 1) ?_
    refine va_sld hx hb hX hbl hbA hS (vp_in_nI (show 4 * j + 1 < L by omega) (by omega)) dL_law_619 ?_
    refine hp_c (v := xs (4 * j + 1)) (congrArg xs (nI_clamp (by omega))) ?_
    refine hp_V (ci := 5) (As := [.int (xs (4 * j + 1))]) (rest := []) B0 hw hS (c_W5_missed hl G f807 mo dW dA dQ dM dS dL dR dT dZ dI dH dN dK dJ dU dO dF dP dE dX dY dG th (100 * j) gw0 ga0 gw1 ga1 mg0 mg1 n a cg x sa pk fl gv gh gl hM813 (by omega) (xs (4 * j + 1))) mV_X5_missed qM_L_129 rfl hM813.1 rfl rfl hl9.1 (Nat.le_of_ble_eq_true rfl) ⟨⟨Nat.le_of_ble_eq_true rfl, Nat.le_of_ble_eq_true rfl⟩, (by first | omega | (dsimp only; omega) | (show (_ : Nat) ≤ _; simp only [room_1]; omega)), (by first | omega | (dsimp only; omega) | (show (_ : Nat) ≤ _; simp only [room_1]; omega))⟩ dL_law_620 (fun E ce q9 f814 H locs hPX hw hS hce hcv hcl => ?_) (fun v f814 H locs hP hw hS => ?_)
    · exact hPX.elim
    · obtain ⟨⟨r815, ev9⟩, ⟨t816, hM817⟩, he818⟩ := hP
      subst ev9
      have hC819 := CW.eq hC809 he818 hdis (MW.fr hM813 hM817)
      have ho820 := (he818 _ hno2).trans ho811
      refine W.eq (g2 := F0 m 623 ls [.int r815]) rfl ?_
      refine lv_istore (lv' := [(6, .int r815), (5, .int k808), (4, .int (nI (4 * j))), (0, .ref b), (1, .ref xo), (2, .ref mo), (3, .ref out)]) hx hb dL_law_623 hl9 (by decide) rfl (fun ls hl9 => ?_)
      refine lv_goto (tgt := 766) hx hb dL_law_625 (by decide) ?_
      refine lv_iinc (v := (nI (4 * (j + 1)))) (lv' := [(4, .int (nI (4 * (j + 1)))), (6, .int r815), (5, .int k808), (0, .ref b), (1, .ref xo), (2, .ref mo), (3, .ref out)]) hx hb dL_law_766 hl9 (k := 2) rfl (nI_add (4 * j) 4) (by decide) rfl (fun ls hl9 => ?_)
      refine lv_goto (tgt := 23) hx hb dL_law_769 (by decide) ?_
      exact W.widen (by omega) (by omega) (ih _ _ H locs ls ⟨_, _, _, _, _, _, _, _, _, _, _, _, _, _, _, _, hC819, ⟨_, (MW.mono hM817 (by omega))⟩, ⟨_, ho820⟩, rfl⟩ hw hS (lv_sub hl9 [0, 3, 4, 5, 6] rfl))

set_option maxHeartbeats 4000000 in
set_option maxRecDepth 100000 in
theorem law_c15 {p : Program} {l : Launch} {e : Env} {s : State} {m : MethodId} {below : List Frame} {meth : Method} {c : Code} {b L : Nat} {xs : Nat → Int32} (hL : L ≤ 2048) (hx : p.tables.exec = Jvm.exec) (hb : c.code = code) (hX : va_X b L xs s s.heap) (hbl : b < s.heap.size) (hl : l.stackTraces = false) {G : hG} (B0 : hB p l s m #[Value.ref b] meth c code 7 RL G) (hbA : ¬ hFr G b) {xo ez eo bu nw0 na0 nq0 nr0 nw1 na1 nq1 nr1 bs bp bh bf bl bg mo dW dA dQ dM dS dL dR dT dZ dI dH dN dK dJ dU dO dF dP dE dX dY dG out : Nat} (hdis : ∀ p, p ∈ [xo, ez, eo, bu, nw0, na0, nq0, nr0, nw1, na1, nq1, nr1, bs, bp, bh, bf, bl, bg] → p ∉ [mo, dW, dA, dQ, dM, dS, dL, dR, dT, dZ, dI, dH, dN, dK, dJ, dU, dO, dF, dP, dE, dX, dY, dG]) (hdos : ∀ p, p ∈ [mo, dW, dA, dQ, dM, dS, dL, dR, dT, dZ, dI, dH, dN, dK, dJ, dU, dO, dF, dP, dE, dX, dY, dG] → p ∉ [out, xo, ez, eo, bu, nw0, na0, nq0, nr0, nw1, na1, nq1, nr1, bs, bp, bh, bf, bl, bg]) (hno : out ∉ [xo, ez, eo, bu, nw0, na0, nq0, nr0, nw1, na1, nq1, nr1, bs, bp, bh, bf, bl, bg]) (hno2 : out ∉ [mo, dW, dA, dQ, dM, dS, dL, dR, dT, dZ, dI, dH, dN, dK, dJ, dU, dO, dF, dP, dE, dX, dY, dG]) {j T : Nat} (hj : j < T) (hT1 : 4 * T ≤ L) (ih : ∀ (f9 : hM) (lv9 : List (Nat × Value)) (H : Heap) (locs : List Loc) (ls : Array Slot), lwI G xo ez eo bu nw0 na0 nq0 nr0 nw1 na1 nq1 nr1 bs bp bh bf bl bg mo dW dA dQ dM dS dL dR dT dZ dI dH dN dK dJ dU dO dF dP dE dX dY dG out b (j + 1) f9 lv9 → hW G f9 H → va_S (hFr G) s.heap H locs → lv_has ls 7 lv9 → W p l e room_1 s m #[Value.ref b] below meth c H locs (42 + (j + 1) * 201) (9564 + (j + 1) * 1101) (lw_Z below #[Value.ref b] s) (F0 m 23 ls [])) {gw0 : Nat → Int32} {ga0 : Nat → Int32} {gw1 : Nat → Int32} {ga1 : Nat → Int32} {mg0 : Int32} {mg1 : Int32} {n : Nat} {a : Nat} {cg : Nat} {x : Nat} {sa : Nat → Nat} {pk : Nat → Nat} {fl : Nat → Nat} {gv : Nat → Nat} {gh : Nat → Int32} {gl : Nat → Int32} {f9 : hM} {th : Int32} {go : Nat → Int64} (hC : CW G f9 xo ez eo bu nw0 na0 nq0 nr0 nw1 na1 nq1 nr1 bs bp bh bf bl bg gw0 ga0 gw1 ga1 mg0 mg1 n a cg x sa pk fl gv gh gl) (hM : MW G f9 mo dW dA dQ dM dS dL dR dT dZ dI dH dN dK dJ dU dO dF dP dE dX dY dG th (100 * j) gw0 ga0 gw1 ga1 mg0 mg1 n a cg x sa pk fl gv gh gl) (ho : f9 out = some (.inl (cJ G, 1, .inr (.inl go)))) {H : Heap} {locs : List Loc} {ls : Array Slot} (hw : hW G f9 H) (hS : va_S (hFr G) s.heap H locs) (hl9 : lv_has ls 7 [(4, .int (nI (4 * j))), (0, .ref b), (1, .ref xo), (2, .ref mo), (3, .ref out)]) : W p l e room_1 s m #[Value.ref b] below meth c H locs (42 + j * 201) (9564 + j * 1101) (lw_Z below #[Value.ref b] s) (F0 m 628 ls []) := by
  refine lv_aload_n hx hb dL_law_628 rfl (lv_at hl9 2 rfl) ?_
  refine lv_aload_n hx hb dL_law_629 rfl (lv_at hl9 1 rfl) ?_
  refine lv_iload hx hb dL_law_630 (lv_at hl9 0 rfl) ?_
  refine lv_iconst (v := 1) hx hb dL_law_632 (by decide) ?_
  refine lv_iadd hx hb dL_law_633 ?_
  refine hp_c (v := (nI (4 * j + 1))) (nI_add (4 * j) 1) ?_
  refine va_sld hx hb hX hbl hbA hS (vp_in_nI (show 4 * j + 1 < L by omega) (by omega)) dL_law_634 ?_
  refine hp_c (v := xs (4 * j + 1)) (congrArg xs (nI_clamp (by omega))) ?_
  refine lv_aload_n hx hb dL_law_635 rfl (lv_at hl9 4 rfl) ?_
  refine hp_SH (As := [.ref xo, .int (xs (4 * j + 1)), .ref out]) (rest := []) B0 hw hS (c_L_send hl G f9 xo ez eo bu nw0 na0 nq0 nr0 nw1 na1 nq1 nr1 bs bp bh bf bl bg gw0 ga0 gw1 ga1 mg0 mg1 n a cg x sa pk fl gv gh gl hC out go ho hno (xs (4 * j + 1))) mH_L_send qM_L_130 rfl rfl hl9.1 (Nat.le_of_ble_eq_true rfl) ⟨⟨Nat.le_of_ble_eq_true rfl, Nat.le_of_ble_eq_true rfl⟩, (by first | omega | (dsimp only; omega) | (show (_ : Nat) ≤ _; simp only [room_1]; omega)), (by first | omega | (dsimp only; omega) | (show (_ : Nat) ≤ _; simp only [room_1]; omega))⟩ dL_law_636 (fun E ce q9 f821 H locs hPX hw hS hce hcv hcl => ?_) (fun v f821 H locs hP hw hS => ?_)
  · exact hPX.elim
  · obtain ⟨hP, hk826⟩ := hP
    rcases hP with ⟨hz822, ev9, hC823, ho825⟩ | ⟨hz822, ev9, hC823, g824, ho825⟩
    · subst ev9
      have hM827 := MW.kp hM hk826 hdos
      refine W.eq (g2 := F0 m 639 ls [.int 0]) rfl ?_
      refine lv_istore (lv' := [(5, .int 0), (4, .int (nI (4 * j))), (0, .ref b), (1, .ref xo), (2, .ref mo), (3, .ref out)]) hx hb dL_law_639 hl9 (by decide) rfl (fun ls hl9 => ?_)
      refine lv_aload_n hx hb dL_law_641 rfl (lv_at hl9 4 rfl) ?_
      refine lv_aload_n hx hb dL_law_642 rfl (lv_at hl9 2 rfl) ?_
      refine lv_iload hx hb dL_law_643 (lv_at hl9 1 rfl) ?_
      refine lv_iconst (v := 1) hx hb dL_law_645 (by decide) ?_
      refine lv_iadd hx hb dL_law_646 ?_
      refine hp_c (v := (nI (4 * j + 1))) (nI_add (4 * j) 1) ?_
      refine va_sld hx hb hX hbl hbA hS (vp_in_nI (show 4 * j + 1 < L by omega) (by omega)) dL_law_647 ?_
      refine hp_c (v := xs (4 * j + 1)) (congrArg xs (nI_clamp (by omega))) ?_
      refine hp_V (ci := 5) (As := [.int (xs (4 * j + 1))]) (rest := []) B0 hw hS (c_W5_send hl G f821 mo dW dA dQ dM dS dL dR dT dZ dI dH dN dK dJ dU dO dF dP dE dX dY dG th (100 * j) gw0 ga0 gw1 ga1 mg0 mg1 n a cg x sa pk fl gv gh gl hM827 (by omega) (xs (4 * j + 1))) mV_X5_send qM_L_132 rfl hM827.1 rfl rfl hl9.1 (Nat.le_of_ble_eq_true rfl) ⟨⟨Nat.le_of_ble_eq_true rfl, Nat.le_of_ble_eq_true rfl⟩, (by first | omega | (dsimp only; omega) | (show (_ : Nat) ≤ _; simp only [room_1]; omega)), (by first | omega | (dsimp only; omega) | (show (_ : Nat) ≤ _; simp only [room_1]; omega))⟩ dL_law_648 (fun E ce q9 f828 H locs hPX hw hS hce hcv hcl => ?_) (fun v f828 H locs hP hw hS => ?_)
      · exact hPX.elim
      · obtain ⟨hP, he831⟩ := hP
        rcases hP with ⟨hy829, ev9, hM830⟩ | ⟨hy829, ⟨r832, ev9⟩, hM830⟩
        · subst ev9
          have hC833 := CW.eq hC823 he831 hdis (MW.fr hM827 hM830)
          have ho834 := (he831 _ hno2).trans ho825
          refine W.eq (g2 := F0 m 651 ls [.int ((nI a))]) rfl ?_
          refine lv_istore (lv' := [(6, .int ((nI a))), (5, .int 0), (4, .int (nI (4 * j))), (0, .ref b), (1, .ref xo), (2, .ref mo), (3, .ref out)]) hx hb dL_law_651 hl9 (by decide) rfl (fun ls hl9 => ?_)
          refine lv_goto (tgt := 766) hx hb dL_law_653 (by decide) ?_
          refine lv_iinc (v := (nI (4 * (j + 1)))) (lv' := [(4, .int (nI (4 * (j + 1)))), (6, .int ((nI a))), (5, .int 0), (0, .ref b), (1, .ref xo), (2, .ref mo), (3, .ref out)]) hx hb dL_law_766 hl9 (k := 2) rfl (nI_add (4 * j) 4) (by decide) rfl (fun ls hl9 => ?_)
          refine lv_goto (tgt := 23) hx hb dL_law_769 (by decide) ?_
          exact W.widen (by omega) (by omega) (ih _ _ H locs ls ⟨_, _, _, _, _, _, _, _, _, _, _, _, _, _, _, _, hC833, ⟨_, (MW.mono hM830 (by omega))⟩, ⟨_, ho834⟩, rfl⟩ hw hS (lv_sub hl9 [0, 3, 4, 5, 6] rfl))
        · exact absurd hz822 hy829
    · subst ev9
      have hM835 := MW.kp hM hk826 hdos
      refine W.eq (g2 := F0 m 639 ls [.int (spc (sP (xs (4 * j + 1))) (n < 60))]) rfl ?_
      refine lv_istore (lv' := [(5, .int (spc (sP (xs (4 * j + 1))) (n < 60))), (4, .int (nI (4 * j))), (0, .ref b), (1, .ref xo), (2, .ref mo), (3, .ref out)]) hx hb dL_law_639 hl9 (by decide) rfl (fun ls hl9 => ?_)
      refine lv_aload_n hx hb dL_law_641 rfl (lv_at hl9 4 rfl) ?_
      refine lv_aload_n hx hb dL_law_642 rfl (lv_at hl9 2 rfl) ?_
      refine lv_iload hx hb dL_law_643 (lv_at hl9 1 rfl) ?_
      refine lv_iconst (v := 1) hx hb dL_law_645 (by decide) ?_
      refine lv_iadd hx hb dL_law_646 ?_
      refine hp_c (v := (nI (4 * j + 1))) (nI_add (4 * j) 1) ?_
      refine va_sld hx hb hX hbl hbA hS (vp_in_nI (show 4 * j + 1 < L by omega) (by omega)) dL_law_647 ?_
      refine hp_c (v := xs (4 * j + 1)) (congrArg xs (nI_clamp (by omega))) ?_
      refine hp_V (ci := 5) (As := [.int (xs (4 * j + 1))]) (rest := []) B0 hw hS (c_W5_send hl G f821 mo dW dA dQ dM dS dL dR dT dZ dI dH dN dK dJ dU dO dF dP dE dX dY dG th (100 * j) gw0 ga0 gw1 ga1 mg0 mg1 n a cg x sa pk fl gv gh gl hM835 (by omega) (xs (4 * j + 1))) mV_X5_send qM_L_132 rfl hM835.1 rfl rfl hl9.1 (Nat.le_of_ble_eq_true rfl) ⟨⟨Nat.le_of_ble_eq_true rfl, Nat.le_of_ble_eq_true rfl⟩, (by first | omega | (dsimp only; omega) | (show (_ : Nat) ≤ _; simp only [room_1]; omega)), (by first | omega | (dsimp only; omega) | (show (_ : Nat) ≤ _; simp only [room_1]; omega))⟩ dL_law_648 (fun E ce q9 f836 H locs hPX hw hS hce hcv hcl => ?_) (fun v f836 H locs hP hw hS => ?_)
      · exact hPX.elim
      · obtain ⟨hP, he839⟩ := hP
        rcases hP with ⟨hy837, ev9, hM838⟩ | ⟨hy837, ⟨r840, ev9⟩, hM838⟩
        · exact absurd hy837 hz822
        · subst ev9
          have hC841 := CW.eq hC823 he839 hdis (MW.fr hM835 hM838)
          have ho842 := (he839 _ hno2).trans ho825
          refine W.eq (g2 := F0 m 651 ls [.int r840]) rfl ?_
          refine lv_istore (lv' := [(6, .int r840), (5, .int (spc (sP (xs (4 * j + 1))) (n < 60))), (4, .int (nI (4 * j))), (0, .ref b), (1, .ref xo), (2, .ref mo), (3, .ref out)]) hx hb dL_law_651 hl9 (by decide) rfl (fun ls hl9 => ?_)
          refine lv_goto (tgt := 766) hx hb dL_law_653 (by decide) ?_
          refine lv_iinc (v := (nI (4 * (j + 1)))) (lv' := [(4, .int (nI (4 * (j + 1)))), (6, .int r840), (5, .int (spc (sP (xs (4 * j + 1))) (n < 60))), (0, .ref b), (1, .ref xo), (2, .ref mo), (3, .ref out)]) hx hb dL_law_766 hl9 (k := 2) rfl (nI_add (4 * j) 4) (by decide) rfl (fun ls hl9 => ?_)
          refine lv_goto (tgt := 23) hx hb dL_law_769 (by decide) ?_
          exact W.widen (by omega) (by omega) (ih _ _ H locs ls ⟨_, _, _, _, _, _, _, _, _, _, _, _, _, _, _, _, hC841, ⟨_, (MW.mono hM838 (by omega))⟩, ⟨_, ho842⟩, rfl⟩ hw hS (lv_sub hl9 [0, 3, 4, 5, 6] rfl))

set_option maxHeartbeats 4000000 in
set_option maxRecDepth 100000 in
theorem law_c16 {p : Program} {l : Launch} {e : Env} {s : State} {m : MethodId} {below : List Frame} {meth : Method} {c : Code} {b L : Nat} {xs : Nat → Int32} (hL : L ≤ 2048) (hx : p.tables.exec = Jvm.exec) (hb : c.code = code) (hX : va_X b L xs s s.heap) (hbl : b < s.heap.size) (hl : l.stackTraces = false) {G : hG} (B0 : hB p l s m #[Value.ref b] meth c code 7 RL G) (hbA : ¬ hFr G b) {xo ez eo bu nw0 na0 nq0 nr0 nw1 na1 nq1 nr1 bs bp bh bf bl bg mo dW dA dQ dM dS dL dR dT dZ dI dH dN dK dJ dU dO dF dP dE dX dY dG out : Nat} (hdis : ∀ p, p ∈ [xo, ez, eo, bu, nw0, na0, nq0, nr0, nw1, na1, nq1, nr1, bs, bp, bh, bf, bl, bg] → p ∉ [mo, dW, dA, dQ, dM, dS, dL, dR, dT, dZ, dI, dH, dN, dK, dJ, dU, dO, dF, dP, dE, dX, dY, dG]) (hdos : ∀ p, p ∈ [mo, dW, dA, dQ, dM, dS, dL, dR, dT, dZ, dI, dH, dN, dK, dJ, dU, dO, dF, dP, dE, dX, dY, dG] → p ∉ [out, xo, ez, eo, bu, nw0, na0, nq0, nr0, nw1, na1, nq1, nr1, bs, bp, bh, bf, bl, bg]) (hno : out ∉ [xo, ez, eo, bu, nw0, na0, nq0, nr0, nw1, na1, nq1, nr1, bs, bp, bh, bf, bl, bg]) (hno2 : out ∉ [mo, dW, dA, dQ, dM, dS, dL, dR, dT, dZ, dI, dH, dN, dK, dJ, dU, dO, dF, dP, dE, dX, dY, dG]) {j T : Nat} (hj : j < T) (hT1 : 4 * T ≤ L) (ih : ∀ (f9 : hM) (lv9 : List (Nat × Value)) (H : Heap) (locs : List Loc) (ls : Array Slot), lwI G xo ez eo bu nw0 na0 nq0 nr0 nw1 na1 nq1 nr1 bs bp bh bf bl bg mo dW dA dQ dM dS dL dR dT dZ dI dH dN dK dJ dU dO dF dP dE dX dY dG out b (j + 1) f9 lv9 → hW G f9 H → va_S (hFr G) s.heap H locs → lv_has ls 7 lv9 → W p l e room_1 s m #[Value.ref b] below meth c H locs (42 + (j + 1) * 201) (9564 + (j + 1) * 1101) (lw_Z below #[Value.ref b] s) (F0 m 23 ls [])) {gw0 : Nat → Int32} {ga0 : Nat → Int32} {gw1 : Nat → Int32} {ga1 : Nat → Int32} {mg0 : Int32} {mg1 : Int32} {n : Nat} {a : Nat} {cg : Nat} {x : Nat} {sa : Nat → Nat} {pk : Nat → Nat} {fl : Nat → Nat} {gv : Nat → Nat} {gh : Nat → Int32} {gl : Nat → Int32} {f9 : hM} {th : Int32} {go : Nat → Int64} (hC : CW G f9 xo ez eo bu nw0 na0 nq0 nr0 nw1 na1 nq1 nr1 bs bp bh bf bl bg gw0 ga0 gw1 ga1 mg0 mg1 n a cg x sa pk fl gv gh gl) (hM : MW G f9 mo dW dA dQ dM dS dL dR dT dZ dI dH dN dK dJ dU dO dF dP dE dX dY dG th (100 * j) gw0 ga0 gw1 ga1 mg0 mg1 n a cg x sa pk fl gv gh gl) (ho : f9 out = some (.inl (cJ G, 1, .inr (.inl go)))) {H : Heap} {locs : List Loc} {ls : Array Slot} (hw : hW G f9 H) (hS : va_S (hFr G) s.heap H locs) (hl9 : lv_has ls 7 [(4, .int (nI (4 * j))), (0, .ref b), (1, .ref xo), (2, .ref mo), (3, .ref out)]) : W p l e room_1 s m #[Value.ref b] below meth c H locs (42 + j * 201) (9564 + j * 1101) (lw_Z below #[Value.ref b] s) (F0 m 656 ls []) := by
  refine lv_aload_n hx hb dL_law_656 rfl (lv_at hl9 2 rfl) ?_
  refine lv_aload_n hx hb dL_law_657 rfl (lv_at hl9 1 rfl) ?_
  refine lv_iload hx hb dL_law_658 (lv_at hl9 0 rfl) ?_
  refine lv_iconst (v := 1) hx hb dL_law_660 (by decide) ?_
  refine lv_iadd hx hb dL_law_661 ?_
  refine hp_c (v := (nI (4 * j + 1))) (nI_add (4 * j) 1) ?_
  refine va_sld hx hb hX hbl hbA hS (vp_in_nI (show 4 * j + 1 < L by omega) (by omega)) dL_law_662 ?_
  refine hp_c (v := xs (4 * j + 1)) (congrArg xs (nI_clamp (by omega))) ?_
  refine lv_aload_n hx hb dL_law_663 rfl (lv_at hl9 4 rfl) ?_
  refine hp_SH (As := [.ref xo, .int (xs (4 * j + 1)), .ref out]) (rest := []) B0 hw hS (c_L_come hl G f9 xo ez eo bu nw0 na0 nq0 nr0 nw1 na1 nq1 nr1 bs bp bh bf bl bg gw0 ga0 gw1 ga1 mg0 mg1 n a cg x sa pk fl gv gh gl hC out go ho hno (xs (4 * j + 1))) mH_L_come qM_L_133 rfl rfl hl9.1 (Nat.le_of_ble_eq_true rfl) ⟨⟨Nat.le_of_ble_eq_true rfl, Nat.le_of_ble_eq_true rfl⟩, (by first | omega | (dsimp only; omega) | (show (_ : Nat) ≤ _; simp only [room_1]; omega)), (by first | omega | (dsimp only; omega) | (show (_ : Nat) ≤ _; simp only [room_1]; omega))⟩ dL_law_664 (fun E ce q9 f843 H locs hPX hw hS hce hcv hcl => ?_) (fun v f843 H locs hP hw hS => ?_)
  · exact hPX.elim
  · obtain ⟨hP, hk848⟩ := hP
    rcases hP with ⟨hz844, ev9, hC845, ho847⟩ | ⟨hz844, ev9, hC845, g846, ho847⟩
    · subst ev9
      have hM849 := MW.kp hM hk848 hdos
      refine W.eq (g2 := F0 m 667 ls [.int 0]) rfl ?_
      refine lv_istore (lv' := [(5, .int 0), (4, .int (nI (4 * j))), (0, .ref b), (1, .ref xo), (2, .ref mo), (3, .ref out)]) hx hb dL_law_667 hl9 (by decide) rfl (fun ls hl9 => ?_)
      refine lv_aload_n hx hb dL_law_669 rfl (lv_at hl9 4 rfl) ?_
      refine lv_aload_n hx hb dL_law_670 rfl (lv_at hl9 2 rfl) ?_
      refine lv_iload hx hb dL_law_671 (lv_at hl9 1 rfl) ?_
      refine lv_iconst (v := 1) hx hb dL_law_673 (by decide) ?_
      refine lv_iadd hx hb dL_law_674 ?_
      refine hp_c (v := (nI (4 * j + 1))) (nI_add (4 * j) 1) ?_
      refine va_sld hx hb hX hbl hbA hS (vp_in_nI (show 4 * j + 1 < L by omega) (by omega)) dL_law_675 ?_
      refine hp_c (v := xs (4 * j + 1)) (congrArg xs (nI_clamp (by omega))) ?_
      refine hp_V (ci := 5) (As := [.int (xs (4 * j + 1))]) (rest := []) B0 hw hS (c_W5_come hl G f843 mo dW dA dQ dM dS dL dR dT dZ dI dH dN dK dJ dU dO dF dP dE dX dY dG th (100 * j) gw0 ga0 gw1 ga1 mg0 mg1 n a cg x sa pk fl gv gh gl hM849 (by omega) (xs (4 * j + 1))) mV_X5_come qM_L_135 rfl hM849.1 rfl rfl hl9.1 (Nat.le_of_ble_eq_true rfl) ⟨⟨Nat.le_of_ble_eq_true rfl, Nat.le_of_ble_eq_true rfl⟩, (by first | omega | (dsimp only; omega) | (show (_ : Nat) ≤ _; simp only [room_1]; omega)), (by first | omega | (dsimp only; omega) | (show (_ : Nat) ≤ _; simp only [room_1]; omega))⟩ dL_law_676 (fun E ce q9 f850 H locs hPX hw hS hce hcv hcl => ?_) (fun v f850 H locs hP hw hS => ?_)
      · exact hPX.elim
      · obtain ⟨hP, he853⟩ := hP
        rcases hP with ⟨hy851, ev9, hM852⟩ | ⟨hy851, ⟨r854, ev9⟩, hM852⟩
        · subst ev9
          have hC855 := CW.eq hC845 he853 hdis (MW.fr hM849 hM852)
          have ho856 := (he853 _ hno2).trans ho847
          refine W.eq (g2 := F0 m 679 ls [.int ((nI (bRun a sa pk (upd gh (fl (xs (4 * j + 1)).toNatClampNeg) 1) (bnd (upd gl (xs (4 * j + 1)).toNatClampNeg (nI (fl (xs (4 * j + 1)).toNatClampNeg)))) 240 cg x gv).1 - nI cg))]) rfl ?_
          refine lv_istore (lv' := [(6, .int ((nI (bRun a sa pk (upd gh (fl (xs (4 * j + 1)).toNatClampNeg) 1) (bnd (upd gl (xs (4 * j + 1)).toNatClampNeg (nI (fl (xs (4 * j + 1)).toNatClampNeg)))) 240 cg x gv).1 - nI cg))), (5, .int 0), (4, .int (nI (4 * j))), (0, .ref b), (1, .ref xo), (2, .ref mo), (3, .ref out)]) hx hb dL_law_679 hl9 (by decide) rfl (fun ls hl9 => ?_)
          refine lv_goto (tgt := 766) hx hb dL_law_681 (by decide) ?_
          refine lv_iinc (v := (nI (4 * (j + 1)))) (lv' := [(4, .int (nI (4 * (j + 1)))), (6, .int ((nI (bRun a sa pk (upd gh (fl (xs (4 * j + 1)).toNatClampNeg) 1) (bnd (upd gl (xs (4 * j + 1)).toNatClampNeg (nI (fl (xs (4 * j + 1)).toNatClampNeg)))) 240 cg x gv).1 - nI cg))), (5, .int 0), (0, .ref b), (1, .ref xo), (2, .ref mo), (3, .ref out)]) hx hb dL_law_766 hl9 (k := 2) rfl (nI_add (4 * j) 4) (by decide) rfl (fun ls hl9 => ?_)
          refine lv_goto (tgt := 23) hx hb dL_law_769 (by decide) ?_
          exact W.widen (by omega) (by omega) (ih _ _ H locs ls ⟨_, _, _, _, _, _, _, _, _, _, _, _, _, _, _, _, hC855, ⟨_, (MW.mono hM852 (by omega))⟩, ⟨_, ho856⟩, rfl⟩ hw hS (lv_sub hl9 [0, 3, 4, 5, 6] rfl))
        · exact absurd hz844 hy851
    · subst ev9
      have hM857 := MW.kp hM hk848 hdos
      refine W.eq (g2 := F0 m 667 ls [.int (spc (sL (xs (4 * j + 1))) (fl (xs (4 * j + 1)).toNatClampNeg < a))]) rfl ?_
      refine lv_istore (lv' := [(5, .int (spc (sL (xs (4 * j + 1))) (fl (xs (4 * j + 1)).toNatClampNeg < a))), (4, .int (nI (4 * j))), (0, .ref b), (1, .ref xo), (2, .ref mo), (3, .ref out)]) hx hb dL_law_667 hl9 (by decide) rfl (fun ls hl9 => ?_)
      refine lv_aload_n hx hb dL_law_669 rfl (lv_at hl9 4 rfl) ?_
      refine lv_aload_n hx hb dL_law_670 rfl (lv_at hl9 2 rfl) ?_
      refine lv_iload hx hb dL_law_671 (lv_at hl9 1 rfl) ?_
      refine lv_iconst (v := 1) hx hb dL_law_673 (by decide) ?_
      refine lv_iadd hx hb dL_law_674 ?_
      refine hp_c (v := (nI (4 * j + 1))) (nI_add (4 * j) 1) ?_
      refine va_sld hx hb hX hbl hbA hS (vp_in_nI (show 4 * j + 1 < L by omega) (by omega)) dL_law_675 ?_
      refine hp_c (v := xs (4 * j + 1)) (congrArg xs (nI_clamp (by omega))) ?_
      refine hp_V (ci := 5) (As := [.int (xs (4 * j + 1))]) (rest := []) B0 hw hS (c_W5_come hl G f843 mo dW dA dQ dM dS dL dR dT dZ dI dH dN dK dJ dU dO dF dP dE dX dY dG th (100 * j) gw0 ga0 gw1 ga1 mg0 mg1 n a cg x sa pk fl gv gh gl hM857 (by omega) (xs (4 * j + 1))) mV_X5_come qM_L_135 rfl hM857.1 rfl rfl hl9.1 (Nat.le_of_ble_eq_true rfl) ⟨⟨Nat.le_of_ble_eq_true rfl, Nat.le_of_ble_eq_true rfl⟩, (by first | omega | (dsimp only; omega) | (show (_ : Nat) ≤ _; simp only [room_1]; omega)), (by first | omega | (dsimp only; omega) | (show (_ : Nat) ≤ _; simp only [room_1]; omega))⟩ dL_law_676 (fun E ce q9 f858 H locs hPX hw hS hce hcv hcl => ?_) (fun v f858 H locs hP hw hS => ?_)
      · exact hPX.elim
      · obtain ⟨hP, he861⟩ := hP
        rcases hP with ⟨hy859, ev9, hM860⟩ | ⟨hy859, ⟨r862, ev9⟩, hM860⟩
        · exact absurd hy859 hz844
        · subst ev9
          have hC863 := CW.eq hC845 he861 hdis (MW.fr hM857 hM860)
          have ho864 := (he861 _ hno2).trans ho847
          refine W.eq (g2 := F0 m 679 ls [.int r862]) rfl ?_
          refine lv_istore (lv' := [(6, .int r862), (5, .int (spc (sL (xs (4 * j + 1))) (fl (xs (4 * j + 1)).toNatClampNeg < a))), (4, .int (nI (4 * j))), (0, .ref b), (1, .ref xo), (2, .ref mo), (3, .ref out)]) hx hb dL_law_679 hl9 (by decide) rfl (fun ls hl9 => ?_)
          refine lv_goto (tgt := 766) hx hb dL_law_681 (by decide) ?_
          refine lv_iinc (v := (nI (4 * (j + 1)))) (lv' := [(4, .int (nI (4 * (j + 1)))), (6, .int r862), (5, .int (spc (sL (xs (4 * j + 1))) (fl (xs (4 * j + 1)).toNatClampNeg < a))), (0, .ref b), (1, .ref xo), (2, .ref mo), (3, .ref out)]) hx hb dL_law_766 hl9 (k := 2) rfl (nI_add (4 * j) 4) (by decide) rfl (fun ls hl9 => ?_)
          refine lv_goto (tgt := 23) hx hb dL_law_769 (by decide) ?_
          exact W.widen (by omega) (by omega) (ih _ _ H locs ls ⟨_, _, _, _, _, _, _, _, _, _, _, _, _, _, _, _, hC863, ⟨_, (MW.mono hM860 (by omega))⟩, ⟨_, ho864⟩, rfl⟩ hw hS (lv_sub hl9 [0, 3, 4, 5, 6] rfl))

set_option maxHeartbeats 4000000 in
set_option maxRecDepth 100000 in
theorem law_c17 {p : Program} {l : Launch} {e : Env} {s : State} {m : MethodId} {below : List Frame} {meth : Method} {c : Code} {b L : Nat} {xs : Nat → Int32} (hL : L ≤ 2048) (hx : p.tables.exec = Jvm.exec) (hb : c.code = code) (hX : va_X b L xs s s.heap) (hbl : b < s.heap.size) (hl : l.stackTraces = false) {G : hG} (B0 : hB p l s m #[Value.ref b] meth c code 7 RL G) (hbA : ¬ hFr G b) {xo ez eo bu nw0 na0 nq0 nr0 nw1 na1 nq1 nr1 bs bp bh bf bl bg mo dW dA dQ dM dS dL dR dT dZ dI dH dN dK dJ dU dO dF dP dE dX dY dG out : Nat} (hdis : ∀ p, p ∈ [xo, ez, eo, bu, nw0, na0, nq0, nr0, nw1, na1, nq1, nr1, bs, bp, bh, bf, bl, bg] → p ∉ [mo, dW, dA, dQ, dM, dS, dL, dR, dT, dZ, dI, dH, dN, dK, dJ, dU, dO, dF, dP, dE, dX, dY, dG]) (hdos : ∀ p, p ∈ [mo, dW, dA, dQ, dM, dS, dL, dR, dT, dZ, dI, dH, dN, dK, dJ, dU, dO, dF, dP, dE, dX, dY, dG] → p ∉ [out, xo, ez, eo, bu, nw0, na0, nq0, nr0, nw1, na1, nq1, nr1, bs, bp, bh, bf, bl, bg]) (hno : out ∉ [xo, ez, eo, bu, nw0, na0, nq0, nr0, nw1, na1, nq1, nr1, bs, bp, bh, bf, bl, bg]) (hno2 : out ∉ [mo, dW, dA, dQ, dM, dS, dL, dR, dT, dZ, dI, dH, dN, dK, dJ, dU, dO, dF, dP, dE, dX, dY, dG]) {j T : Nat} (hj : j < T) (hT1 : 4 * T ≤ L) (ih : ∀ (f9 : hM) (lv9 : List (Nat × Value)) (H : Heap) (locs : List Loc) (ls : Array Slot), lwI G xo ez eo bu nw0 na0 nq0 nr0 nw1 na1 nq1 nr1 bs bp bh bf bl bg mo dW dA dQ dM dS dL dR dT dZ dI dH dN dK dJ dU dO dF dP dE dX dY dG out b (j + 1) f9 lv9 → hW G f9 H → va_S (hFr G) s.heap H locs → lv_has ls 7 lv9 → W p l e room_1 s m #[Value.ref b] below meth c H locs (42 + (j + 1) * 201) (9564 + (j + 1) * 1101) (lw_Z below #[Value.ref b] s) (F0 m 23 ls [])) {gw0 : Nat → Int32} {ga0 : Nat → Int32} {gw1 : Nat → Int32} {ga1 : Nat → Int32} {mg0 : Int32} {mg1 : Int32} {n : Nat} {a : Nat} {cg : Nat} {x : Nat} {sa : Nat → Nat} {pk : Nat → Nat} {fl : Nat → Nat} {gv : Nat → Nat} {gh : Nat → Int32} {gl : Nat → Int32} {f9 : hM} {th : Int32} {go : Nat → Int64} (hC : CW G f9 xo ez eo bu nw0 na0 nq0 nr0 nw1 na1 nq1 nr1 bs bp bh bf bl bg gw0 ga0 gw1 ga1 mg0 mg1 n a cg x sa pk fl gv gh gl) (hM : MW G f9 mo dW dA dQ dM dS dL dR dT dZ dI dH dN dK dJ dU dO dF dP dE dX dY dG th (100 * j) gw0 ga0 gw1 ga1 mg0 mg1 n a cg x sa pk fl gv gh gl) (ho : f9 out = some (.inl (cJ G, 1, .inr (.inl go)))) {H : Heap} {locs : List Loc} {ls : Array Slot} (hw : hW G f9 H) (hS : va_S (hFr G) s.heap H locs) (hl9 : lv_has ls 7 [(4, .int (nI (4 * j))), (0, .ref b), (1, .ref xo), (2, .ref mo), (3, .ref out)]) : W p l e room_1 s m #[Value.ref b] below meth c H locs (42 + j * 201) (9564 + j * 1101) (lw_Z below #[Value.ref b] s) (F0 m 684 ls []) := by
  refine lv_aload_n hx hb dL_law_684 rfl (lv_at hl9 2 rfl) ?_
  refine lv_aload_n hx hb dL_law_685 rfl (lv_at hl9 1 rfl) ?_
  refine lv_iload hx hb dL_law_686 (lv_at hl9 0 rfl) ?_
  refine lv_iconst (v := 1) hx hb dL_law_688 (by decide) ?_
  refine lv_iadd hx hb dL_law_689 ?_
  refine hp_c (v := (nI (4 * j + 1))) (nI_add (4 * j) 1) ?_
  refine va_sld hx hb hX hbl hbA hS (vp_in_nI (show 4 * j + 1 < L by omega) (by omega)) dL_law_690 ?_
  refine hp_c (v := xs (4 * j + 1)) (congrArg xs (nI_clamp (by omega))) ?_
  refine lv_aload_n hx hb dL_law_691 rfl (lv_at hl9 4 rfl) ?_
  refine hp_SH (As := [.ref xo, .int (xs (4 * j + 1)), .ref out]) (rest := []) B0 hw hS (c_L_drop hl G f9 xo ez eo bu nw0 na0 nq0 nr0 nw1 na1 nq1 nr1 bs bp bh bf bl bg gw0 ga0 gw1 ga1 mg0 mg1 n a cg x sa pk fl gv gh gl hC out go ho hno (xs (4 * j + 1))) mH_L_drop qM_L_136 rfl rfl hl9.1 (Nat.le_of_ble_eq_true rfl) ⟨⟨Nat.le_of_ble_eq_true rfl, Nat.le_of_ble_eq_true rfl⟩, (by first | omega | (dsimp only; omega) | (show (_ : Nat) ≤ _; simp only [room_1]; omega)), (by first | omega | (dsimp only; omega) | (show (_ : Nat) ≤ _; simp only [room_1]; omega))⟩ dL_law_692 (fun E ce q9 f865 H locs hPX hw hS hce hcv hcl => ?_) (fun v f865 H locs hP hw hS => ?_)
  · exact hPX.elim
  · obtain ⟨hP, hk870⟩ := hP
    rcases hP with ⟨hz866, ev9, hC867, ho869⟩ | ⟨hz866, ev9, hC867, g868, ho869⟩
    · subst ev9
      have hM871 := MW.kp hM hk870 hdos
      refine W.eq (g2 := F0 m 695 ls [.int 0]) rfl ?_
      refine lv_istore (lv' := [(5, .int 0), (4, .int (nI (4 * j))), (0, .ref b), (1, .ref xo), (2, .ref mo), (3, .ref out)]) hx hb dL_law_695 hl9 (by decide) rfl (fun ls hl9 => ?_)
      refine lv_aload_n hx hb dL_law_697 rfl (lv_at hl9 4 rfl) ?_
      refine lv_aload_n hx hb dL_law_698 rfl (lv_at hl9 2 rfl) ?_
      refine lv_iload hx hb dL_law_699 (lv_at hl9 1 rfl) ?_
      refine lv_iconst (v := 1) hx hb dL_law_701 (by decide) ?_
      refine lv_iadd hx hb dL_law_702 ?_
      refine hp_c (v := (nI (4 * j + 1))) (nI_add (4 * j) 1) ?_
      refine va_sld hx hb hX hbl hbA hS (vp_in_nI (show 4 * j + 1 < L by omega) (by omega)) dL_law_703 ?_
      refine hp_c (v := xs (4 * j + 1)) (congrArg xs (nI_clamp (by omega))) ?_
      refine hp_V (ci := 5) (As := [.int (xs (4 * j + 1))]) (rest := []) B0 hw hS (c_W5_drop hl G f865 mo dW dA dQ dM dS dL dR dT dZ dI dH dN dK dJ dU dO dF dP dE dX dY dG th (100 * j) gw0 ga0 gw1 ga1 mg0 mg1 n a cg x sa pk fl gv gh gl hM871 (by omega) (xs (4 * j + 1))) mV_X5_drop qM_L_138 rfl hM871.1 rfl rfl hl9.1 (Nat.le_of_ble_eq_true rfl) ⟨⟨Nat.le_of_ble_eq_true rfl, Nat.le_of_ble_eq_true rfl⟩, (by first | omega | (dsimp only; omega) | (show (_ : Nat) ≤ _; simp only [room_1]; omega)), (by first | omega | (dsimp only; omega) | (show (_ : Nat) ≤ _; simp only [room_1]; omega))⟩ dL_law_704 (fun E ce q9 f872 H locs hPX hw hS hce hcv hcl => ?_) (fun v f872 H locs hP hw hS => ?_)
      · exact hPX.elim
      · obtain ⟨hP, he875⟩ := hP
        rcases hP with ⟨hy873, ev9, hM874⟩ | ⟨hy873, ⟨r876, ev9⟩, hM874⟩
        · subst ev9
          have hC877 := CW.eq hC867 he875 hdis (MW.fr hM871 hM874)
          have ho878 := (he875 _ hno2).trans ho869
          refine W.eq (g2 := F0 m 707 ls [.int ((nI (fl (xs (4 * j + 1)).toNatClampNeg)))]) rfl ?_
          refine lv_istore (lv' := [(6, .int ((nI (fl (xs (4 * j + 1)).toNatClampNeg)))), (5, .int 0), (4, .int (nI (4 * j))), (0, .ref b), (1, .ref xo), (2, .ref mo), (3, .ref out)]) hx hb dL_law_707 hl9 (by decide) rfl (fun ls hl9 => ?_)
          refine lv_goto (tgt := 766) hx hb dL_law_709 (by decide) ?_
          refine lv_iinc (v := (nI (4 * (j + 1)))) (lv' := [(4, .int (nI (4 * (j + 1)))), (6, .int ((nI (fl (xs (4 * j + 1)).toNatClampNeg)))), (5, .int 0), (0, .ref b), (1, .ref xo), (2, .ref mo), (3, .ref out)]) hx hb dL_law_766 hl9 (k := 2) rfl (nI_add (4 * j) 4) (by decide) rfl (fun ls hl9 => ?_)
          refine lv_goto (tgt := 23) hx hb dL_law_769 (by decide) ?_
          exact W.widen (by omega) (by omega) (ih _ _ H locs ls ⟨_, _, _, _, _, _, _, _, _, _, _, _, _, _, _, _, hC877, ⟨_, (MW.mono hM874 (by omega))⟩, ⟨_, ho878⟩, rfl⟩ hw hS (lv_sub hl9 [0, 3, 4, 5, 6] rfl))
        · exact absurd hz866 hy873
    · subst ev9
      have hM879 := MW.kp hM hk870 hdos
      refine W.eq (g2 := F0 m 695 ls [.int (spc (sL (xs (4 * j + 1))) (fl (xs (4 * j + 1)).toNatClampNeg < a))]) rfl ?_
      refine lv_istore (lv' := [(5, .int (spc (sL (xs (4 * j + 1))) (fl (xs (4 * j + 1)).toNatClampNeg < a))), (4, .int (nI (4 * j))), (0, .ref b), (1, .ref xo), (2, .ref mo), (3, .ref out)]) hx hb dL_law_695 hl9 (by decide) rfl (fun ls hl9 => ?_)
      refine lv_aload_n hx hb dL_law_697 rfl (lv_at hl9 4 rfl) ?_
      refine lv_aload_n hx hb dL_law_698 rfl (lv_at hl9 2 rfl) ?_
      refine lv_iload hx hb dL_law_699 (lv_at hl9 1 rfl) ?_
      refine lv_iconst (v := 1) hx hb dL_law_701 (by decide) ?_
      refine lv_iadd hx hb dL_law_702 ?_
      refine hp_c (v := (nI (4 * j + 1))) (nI_add (4 * j) 1) ?_
      refine va_sld hx hb hX hbl hbA hS (vp_in_nI (show 4 * j + 1 < L by omega) (by omega)) dL_law_703 ?_
      refine hp_c (v := xs (4 * j + 1)) (congrArg xs (nI_clamp (by omega))) ?_
      refine hp_V (ci := 5) (As := [.int (xs (4 * j + 1))]) (rest := []) B0 hw hS (c_W5_drop hl G f865 mo dW dA dQ dM dS dL dR dT dZ dI dH dN dK dJ dU dO dF dP dE dX dY dG th (100 * j) gw0 ga0 gw1 ga1 mg0 mg1 n a cg x sa pk fl gv gh gl hM879 (by omega) (xs (4 * j + 1))) mV_X5_drop qM_L_138 rfl hM879.1 rfl rfl hl9.1 (Nat.le_of_ble_eq_true rfl) ⟨⟨Nat.le_of_ble_eq_true rfl, Nat.le_of_ble_eq_true rfl⟩, (by first | omega | (dsimp only; omega) | (show (_ : Nat) ≤ _; simp only [room_1]; omega)), (by first | omega | (dsimp only; omega) | (show (_ : Nat) ≤ _; simp only [room_1]; omega))⟩ dL_law_704 (fun E ce q9 f880 H locs hPX hw hS hce hcv hcl => ?_) (fun v f880 H locs hP hw hS => ?_)
      · exact hPX.elim
      · obtain ⟨hP, he883⟩ := hP
        rcases hP with ⟨hy881, ev9, hM882⟩ | ⟨hy881, ⟨r884, ev9⟩, hM882⟩
        · exact absurd hy881 hz866
        · subst ev9
          have hC885 := CW.eq hC867 he883 hdis (MW.fr hM879 hM882)
          have ho886 := (he883 _ hno2).trans ho869
          refine W.eq (g2 := F0 m 707 ls [.int r884]) rfl ?_
          refine lv_istore (lv' := [(6, .int r884), (5, .int (spc (sL (xs (4 * j + 1))) (fl (xs (4 * j + 1)).toNatClampNeg < a))), (4, .int (nI (4 * j))), (0, .ref b), (1, .ref xo), (2, .ref mo), (3, .ref out)]) hx hb dL_law_707 hl9 (by decide) rfl (fun ls hl9 => ?_)
          refine lv_goto (tgt := 766) hx hb dL_law_709 (by decide) ?_
          refine lv_iinc (v := (nI (4 * (j + 1)))) (lv' := [(4, .int (nI (4 * (j + 1)))), (6, .int r884), (5, .int (spc (sL (xs (4 * j + 1))) (fl (xs (4 * j + 1)).toNatClampNeg < a))), (0, .ref b), (1, .ref xo), (2, .ref mo), (3, .ref out)]) hx hb dL_law_766 hl9 (k := 2) rfl (nI_add (4 * j) 4) (by decide) rfl (fun ls hl9 => ?_)
          refine lv_goto (tgt := 23) hx hb dL_law_769 (by decide) ?_
          exact W.widen (by omega) (by omega) (ih _ _ H locs ls ⟨_, _, _, _, _, _, _, _, _, _, _, _, _, _, _, _, hC885, ⟨_, (MW.mono hM882 (by omega))⟩, ⟨_, ho886⟩, rfl⟩ hw hS (lv_sub hl9 [0, 3, 4, 5, 6] rfl))

set_option maxHeartbeats 4000000 in
set_option maxRecDepth 100000 in
theorem law_c18 {p : Program} {l : Launch} {e : Env} {s : State} {m : MethodId} {below : List Frame} {meth : Method} {c : Code} {b L : Nat} {xs : Nat → Int32} (hL : L ≤ 2048) (hx : p.tables.exec = Jvm.exec) (hb : c.code = code) (hX : va_X b L xs s s.heap) (hbl : b < s.heap.size) (hl : l.stackTraces = false) {G : hG} (B0 : hB p l s m #[Value.ref b] meth c code 7 RL G) (hbA : ¬ hFr G b) {xo ez eo bu nw0 na0 nq0 nr0 nw1 na1 nq1 nr1 bs bp bh bf bl bg mo dW dA dQ dM dS dL dR dT dZ dI dH dN dK dJ dU dO dF dP dE dX dY dG out : Nat} (hdis : ∀ p, p ∈ [xo, ez, eo, bu, nw0, na0, nq0, nr0, nw1, na1, nq1, nr1, bs, bp, bh, bf, bl, bg] → p ∉ [mo, dW, dA, dQ, dM, dS, dL, dR, dT, dZ, dI, dH, dN, dK, dJ, dU, dO, dF, dP, dE, dX, dY, dG]) (hdos : ∀ p, p ∈ [mo, dW, dA, dQ, dM, dS, dL, dR, dT, dZ, dI, dH, dN, dK, dJ, dU, dO, dF, dP, dE, dX, dY, dG] → p ∉ [out, xo, ez, eo, bu, nw0, na0, nq0, nr0, nw1, na1, nq1, nr1, bs, bp, bh, bf, bl, bg]) (hno : out ∉ [xo, ez, eo, bu, nw0, na0, nq0, nr0, nw1, na1, nq1, nr1, bs, bp, bh, bf, bl, bg]) (hno2 : out ∉ [mo, dW, dA, dQ, dM, dS, dL, dR, dT, dZ, dI, dH, dN, dK, dJ, dU, dO, dF, dP, dE, dX, dY, dG]) {j T : Nat} (hj : j < T) (hT1 : 4 * T ≤ L) (ih : ∀ (f9 : hM) (lv9 : List (Nat × Value)) (H : Heap) (locs : List Loc) (ls : Array Slot), lwI G xo ez eo bu nw0 na0 nq0 nr0 nw1 na1 nq1 nr1 bs bp bh bf bl bg mo dW dA dQ dM dS dL dR dT dZ dI dH dN dK dJ dU dO dF dP dE dX dY dG out b (j + 1) f9 lv9 → hW G f9 H → va_S (hFr G) s.heap H locs → lv_has ls 7 lv9 → W p l e room_1 s m #[Value.ref b] below meth c H locs (42 + (j + 1) * 201) (9564 + (j + 1) * 1101) (lw_Z below #[Value.ref b] s) (F0 m 23 ls [])) {gw0 : Nat → Int32} {ga0 : Nat → Int32} {gw1 : Nat → Int32} {ga1 : Nat → Int32} {mg0 : Int32} {mg1 : Int32} {n : Nat} {a : Nat} {cg : Nat} {x : Nat} {sa : Nat → Nat} {pk : Nat → Nat} {fl : Nat → Nat} {gv : Nat → Nat} {gh : Nat → Int32} {gl : Nat → Int32} {f9 : hM} {th : Int32} {go : Nat → Int64} (hC : CW G f9 xo ez eo bu nw0 na0 nq0 nr0 nw1 na1 nq1 nr1 bs bp bh bf bl bg gw0 ga0 gw1 ga1 mg0 mg1 n a cg x sa pk fl gv gh gl) (hM : MW G f9 mo dW dA dQ dM dS dL dR dT dZ dI dH dN dK dJ dU dO dF dP dE dX dY dG th (100 * j) gw0 ga0 gw1 ga1 mg0 mg1 n a cg x sa pk fl gv gh gl) (ho : f9 out = some (.inl (cJ G, 1, .inr (.inl go)))) {H : Heap} {locs : List Loc} {ls : Array Slot} (hw : hW G f9 H) (hS : va_S (hFr G) s.heap H locs) (hl9 : lv_has ls 7 [(4, .int (nI (4 * j))), (0, .ref b), (1, .ref xo), (2, .ref mo), (3, .ref out)]) : W p l e room_1 s m #[Value.ref b] below meth c H locs (42 + j * 201) (9564 + j * 1101) (lw_Z below #[Value.ref b] s) (F0 m 712 ls []) := by
  refine lv_aload_n hx hb dL_law_712 rfl (lv_at hl9 2 rfl) ?_
  refine hp_V (ci := 4) (As := []) (rest := []) B0 hw hS (c_W4_given hl G f9 xo ez eo bu nw0 na0 nq0 nr0 nw1 na1 nq1 nr1 bs bp bh bf bl bg gw0 ga0 gw1 ga1 mg0 mg1 n a cg x sa pk fl gv gh gl hC) mV_X4_given qM_L_139 rfl hC.1 rfl rfl hl9.1 (Nat.le_of_ble_eq_true rfl) ⟨⟨Nat.le_of_ble_eq_true rfl, Nat.le_of_ble_eq_true rfl⟩, (by first | omega | (dsimp only; omega) | (show (_ : Nat) ≤ _; simp only [room_1]; omega)), (by first | omega | (dsimp only; omega) | (show (_ : Nat) ≤ _; simp only [room_1]; omega))⟩ dL_law_713 (fun E ce q9 f887 H locs hPX hw hS hce hcv hcl => ?_) (fun v f887 H locs hP hw hS => ?_)
  · exact hPX.elim
  · obtain ⟨ev9, ef9⟩ := hP
    rw [ef9] at hw
    subst ev9
    refine W.eq (g2 := F0 m 716 ls [.int (nI cg)]) rfl ?_
    refine lv_pop hx hb dL_law_716 rfl ?_
    refine lv_aload_n hx hb dL_law_717 rfl (lv_at hl9 3 rfl) ?_
    refine hp_V (ci := 5) (As := []) (rest := []) B0 hw hS (c_W5_given hl G f9 mo dW dA dQ dM dS dL dR dT dZ dI dH dN dK dJ dU dO dF dP dE dX dY dG th (100 * j) gw0 ga0 gw1 ga1 mg0 mg1 n a cg x sa pk fl gv gh gl hM (by omega)) mV_X5_given qM_L_143 rfl hM.1 rfl rfl hl9.1 (Nat.le_of_ble_eq_true rfl) ⟨⟨Nat.le_of_ble_eq_true rfl, Nat.le_of_ble_eq_true rfl⟩, (by first | omega | (dsimp only; omega) | (show (_ : Nat) ≤ _; simp only [room_1]; omega)), (by first | omega | (dsimp only; omega) | (show (_ : Nat) ≤ _; simp only [room_1]; omega))⟩ dL_law_718 (fun E ce q9 f888 H locs hPX hw hS hce hcv hcl => ?_) (fun v f888 H locs hP hw hS => ?_)
    · exact hPX.elim
    · obtain ⟨ev9, hM889, he890⟩ := hP
      subst ev9
      have hC891 := CW.eq hC he890 hdis (MW.fr hM hM889)
      have ho892 := (he890 _ hno2).trans ho
      refine W.eq (g2 := F0 m 721 ls [.int (nI cg)]) rfl ?_
      refine lv_pop hx hb dL_law_721 rfl ?_
      refine lv_goto (tgt := 766) hx hb dL_law_722 (by decide) ?_
      refine lv_iinc (v := (nI (4 * (j + 1)))) (lv' := [(4, .int (nI (4 * (j + 1)))), (0, .ref b), (1, .ref xo), (2, .ref mo), (3, .ref out)]) hx hb dL_law_766 hl9 (k := 0) rfl (nI_add (4 * j) 4) (by decide) rfl (fun ls hl9 => ?_)
      refine lv_goto (tgt := 23) hx hb dL_law_769 (by decide) ?_
      exact W.widen (by omega) (by omega) (ih _ _ H locs ls ⟨_, _, _, _, _, _, _, _, _, _, _, _, _, _, _, _, hC891, ⟨_, (MW.mono hM889 (by omega))⟩, ⟨_, ho892⟩, rfl⟩ hw hS (lv_sub hl9 [0, 1, 2, 3, 4] rfl))

set_option maxHeartbeats 4000000 in
set_option maxRecDepth 100000 in
theorem law_c19 {p : Program} {l : Launch} {e : Env} {s : State} {m : MethodId} {below : List Frame} {meth : Method} {c : Code} {b L : Nat} {xs : Nat → Int32} (hL : L ≤ 2048) (hx : p.tables.exec = Jvm.exec) (hb : c.code = code) (hX : va_X b L xs s s.heap) (hbl : b < s.heap.size) (hl : l.stackTraces = false) {G : hG} (B0 : hB p l s m #[Value.ref b] meth c code 7 RL G) (hbA : ¬ hFr G b) {xo ez eo bu nw0 na0 nq0 nr0 nw1 na1 nq1 nr1 bs bp bh bf bl bg mo dW dA dQ dM dS dL dR dT dZ dI dH dN dK dJ dU dO dF dP dE dX dY dG out : Nat} (hdis : ∀ p, p ∈ [xo, ez, eo, bu, nw0, na0, nq0, nr0, nw1, na1, nq1, nr1, bs, bp, bh, bf, bl, bg] → p ∉ [mo, dW, dA, dQ, dM, dS, dL, dR, dT, dZ, dI, dH, dN, dK, dJ, dU, dO, dF, dP, dE, dX, dY, dG]) (hdos : ∀ p, p ∈ [mo, dW, dA, dQ, dM, dS, dL, dR, dT, dZ, dI, dH, dN, dK, dJ, dU, dO, dF, dP, dE, dX, dY, dG] → p ∉ [out, xo, ez, eo, bu, nw0, na0, nq0, nr0, nw1, na1, nq1, nr1, bs, bp, bh, bf, bl, bg]) (hno : out ∉ [xo, ez, eo, bu, nw0, na0, nq0, nr0, nw1, na1, nq1, nr1, bs, bp, bh, bf, bl, bg]) (hno2 : out ∉ [mo, dW, dA, dQ, dM, dS, dL, dR, dT, dZ, dI, dH, dN, dK, dJ, dU, dO, dF, dP, dE, dX, dY, dG]) {j T : Nat} (hj : j < T) (hT1 : 4 * T ≤ L) (ih : ∀ (f9 : hM) (lv9 : List (Nat × Value)) (H : Heap) (locs : List Loc) (ls : Array Slot), lwI G xo ez eo bu nw0 na0 nq0 nr0 nw1 na1 nq1 nr1 bs bp bh bf bl bg mo dW dA dQ dM dS dL dR dT dZ dI dH dN dK dJ dU dO dF dP dE dX dY dG out b (j + 1) f9 lv9 → hW G f9 H → va_S (hFr G) s.heap H locs → lv_has ls 7 lv9 → W p l e room_1 s m #[Value.ref b] below meth c H locs (42 + (j + 1) * 201) (9564 + (j + 1) * 1101) (lw_Z below #[Value.ref b] s) (F0 m 23 ls [])) {gw0 : Nat → Int32} {ga0 : Nat → Int32} {gw1 : Nat → Int32} {ga1 : Nat → Int32} {mg0 : Int32} {mg1 : Int32} {n : Nat} {a : Nat} {cg : Nat} {x : Nat} {sa : Nat → Nat} {pk : Nat → Nat} {fl : Nat → Nat} {gv : Nat → Nat} {gh : Nat → Int32} {gl : Nat → Int32} {f9 : hM} {th : Int32} {go : Nat → Int64} (hC : CW G f9 xo ez eo bu nw0 na0 nq0 nr0 nw1 na1 nq1 nr1 bs bp bh bf bl bg gw0 ga0 gw1 ga1 mg0 mg1 n a cg x sa pk fl gv gh gl) (hM : MW G f9 mo dW dA dQ dM dS dL dR dT dZ dI dH dN dK dJ dU dO dF dP dE dX dY dG th (100 * j) gw0 ga0 gw1 ga1 mg0 mg1 n a cg x sa pk fl gv gh gl) (ho : f9 out = some (.inl (cJ G, 1, .inr (.inl go)))) {H : Heap} {locs : List Loc} {ls : Array Slot} (hw : hW G f9 H) (hS : va_S (hFr G) s.heap H locs) (hl9 : lv_has ls 7 [(4, .int (nI (4 * j))), (0, .ref b), (1, .ref xo), (2, .ref mo), (3, .ref out)]) : W p l e room_1 s m #[Value.ref b] below meth c H locs (42 + j * 201) (9564 + j * 1101) (lw_Z below #[Value.ref b] s) (F0 m 725 ls []) := by
  refine lv_aload_n hx hb dL_law_725 rfl (lv_at hl9 2 rfl) ?_
  refine lv_aload_n hx hb dL_law_726 rfl (lv_at hl9 1 rfl) ?_
  refine lv_iload hx hb dL_law_727 (lv_at hl9 0 rfl) ?_
  refine lv_iconst (v := 1) hx hb dL_law_729 (by decide) ?_
  refine lv_iadd hx hb dL_law_730 ?_
  refine hp_c (v := (nI (4 * j + 1))) (nI_add (4 * j) 1) ?_
  refine va_sld hx hb hX hbl hbA hS (vp_in_nI (show 4 * j + 1 < L by omega) (by omega)) dL_law_731 ?_
  refine hp_c (v := xs (4 * j + 1)) (congrArg xs (nI_clamp (by omega))) ?_
  refine lv_aload_n hx hb dL_law_732 rfl (lv_at hl9 4 rfl) ?_
  refine hp_SH (As := [.ref xo, .int (xs (4 * j + 1)), .ref out]) (rest := []) B0 hw hS (c_L_givenAt hl G f9 xo ez eo bu nw0 na0 nq0 nr0 nw1 na1 nq1 nr1 bs bp bh bf bl bg gw0 ga0 gw1 ga1 mg0 mg1 n a cg x sa pk fl gv gh gl hC out go ho hno (xs (4 * j + 1))) mH_L_givenAt qM_L_144 rfl rfl hl9.1 (Nat.le_of_ble_eq_true rfl) ⟨⟨Nat.le_of_ble_eq_true rfl, Nat.le_of_ble_eq_true rfl⟩, (by first | omega | (dsimp only; omega) | (show (_ : Nat) ≤ _; simp only [room_1]; omega)), (by first | omega | (dsimp only; omega) | (show (_ : Nat) ≤ _; simp only [room_1]; omega))⟩ dL_law_733 (fun E ce q9 f893 H locs hPX hw hS hce hcv hcl => ?_) (fun v f893 H locs hP hw hS => ?_)
  · exact hPX.elim
  · obtain ⟨hP, hk898⟩ := hP
    rcases hP with ⟨hz894, ev9, hC895, ho897⟩ | ⟨hz894, ev9, hC895, g896, ho897⟩
    · subst ev9
      have hM899 := MW.kp hM hk898 hdos
      refine W.eq (g2 := F0 m 736 ls [.int 0]) rfl ?_
      refine lv_istore (lv' := [(5, .int 0), (4, .int (nI (4 * j))), (0, .ref b), (1, .ref xo), (2, .ref mo), (3, .ref out)]) hx hb dL_law_736 hl9 (by decide) rfl (fun ls hl9 => ?_)
      refine lv_aload_n hx hb dL_law_738 rfl (lv_at hl9 4 rfl) ?_
      refine lv_aload_n hx hb dL_law_739 rfl (lv_at hl9 2 rfl) ?_
      refine lv_iload hx hb dL_law_740 (lv_at hl9 1 rfl) ?_
      refine lv_iconst (v := 1) hx hb dL_law_742 (by decide) ?_
      refine lv_iadd hx hb dL_law_743 ?_
      refine hp_c (v := (nI (4 * j + 1))) (nI_add (4 * j) 1) ?_
      refine va_sld hx hb hX hbl hbA hS (vp_in_nI (show 4 * j + 1 < L by omega) (by omega)) dL_law_744 ?_
      refine hp_c (v := xs (4 * j + 1)) (congrArg xs (nI_clamp (by omega))) ?_
      refine hp_V (ci := 5) (As := [.int (xs (4 * j + 1))]) (rest := []) B0 hw hS (c_W5_givenAt hl G f893 mo dW dA dQ dM dS dL dR dT dZ dI dH dN dK dJ dU dO dF dP dE dX dY dG th (100 * j) gw0 ga0 gw1 ga1 mg0 mg1 n a cg x sa pk fl gv gh gl hM899 (by omega) (xs (4 * j + 1))) mV_X5_givenAt qM_L_146 rfl hM899.1 rfl rfl hl9.1 (Nat.le_of_ble_eq_true rfl) ⟨⟨Nat.le_of_ble_eq_true rfl, Nat.le_of_ble_eq_true rfl⟩, (by first | omega | (dsimp only; omega) | (show (_ : Nat) ≤ _; simp only [room_1]; omega)), (by first | omega | (dsimp only; omega) | (show (_ : Nat) ≤ _; simp only [room_1]; omega))⟩ dL_law_745 (fun E ce q9 f900 H locs hPX hw hS hce hcv hcl => ?_) (fun v f900 H locs hP hw hS => ?_)
      · exact hPX.elim
      · obtain ⟨hP, he903⟩ := hP
        rcases hP with ⟨hy901, ev9, hM902⟩ | ⟨hy901, ⟨r904, ev9⟩, hM902⟩
        · subst ev9
          have hC905 := CW.eq hC895 he903 hdis (MW.fr hM899 hM902)
          have ho906 := (he903 _ hno2).trans ho897
          refine W.eq (g2 := F0 m 748 ls [.int ((nI (gv (xs (4 * j + 1)).toNatClampNeg)))]) rfl ?_
          refine lv_istore (lv' := [(6, .int ((nI (gv (xs (4 * j + 1)).toNatClampNeg)))), (5, .int 0), (4, .int (nI (4 * j))), (0, .ref b), (1, .ref xo), (2, .ref mo), (3, .ref out)]) hx hb dL_law_748 hl9 (by decide) rfl (fun ls hl9 => ?_)
          refine lv_goto (tgt := 766) hx hb dL_law_750 (by decide) ?_
          refine lv_iinc (v := (nI (4 * (j + 1)))) (lv' := [(4, .int (nI (4 * (j + 1)))), (6, .int ((nI (gv (xs (4 * j + 1)).toNatClampNeg)))), (5, .int 0), (0, .ref b), (1, .ref xo), (2, .ref mo), (3, .ref out)]) hx hb dL_law_766 hl9 (k := 2) rfl (nI_add (4 * j) 4) (by decide) rfl (fun ls hl9 => ?_)
          refine lv_goto (tgt := 23) hx hb dL_law_769 (by decide) ?_
          exact W.widen (by omega) (by omega) (ih _ _ H locs ls ⟨_, _, _, _, _, _, _, _, _, _, _, _, _, _, _, _, hC905, ⟨_, (MW.mono hM902 (by omega))⟩, ⟨_, ho906⟩, rfl⟩ hw hS (lv_sub hl9 [0, 3, 4, 5, 6] rfl))
        · exact absurd hz894 hy901
    · subst ev9
      have hM907 := MW.kp hM hk898 hdos
      refine W.eq (g2 := F0 m 736 ls [.int (spc (0 ≤ (xs (4 * j + 1)).toInt ∧ (xs (4 * j + 1)).toInt < (cg : Int)) True)]) rfl ?_
      refine lv_istore (lv' := [(5, .int (spc (0 ≤ (xs (4 * j + 1)).toInt ∧ (xs (4 * j + 1)).toInt < (cg : Int)) True)), (4, .int (nI (4 * j))), (0, .ref b), (1, .ref xo), (2, .ref mo), (3, .ref out)]) hx hb dL_law_736 hl9 (by decide) rfl (fun ls hl9 => ?_)
      refine lv_aload_n hx hb dL_law_738 rfl (lv_at hl9 4 rfl) ?_
      refine lv_aload_n hx hb dL_law_739 rfl (lv_at hl9 2 rfl) ?_
      refine lv_iload hx hb dL_law_740 (lv_at hl9 1 rfl) ?_
      refine lv_iconst (v := 1) hx hb dL_law_742 (by decide) ?_
      refine lv_iadd hx hb dL_law_743 ?_
      refine hp_c (v := (nI (4 * j + 1))) (nI_add (4 * j) 1) ?_
      refine va_sld hx hb hX hbl hbA hS (vp_in_nI (show 4 * j + 1 < L by omega) (by omega)) dL_law_744 ?_
      refine hp_c (v := xs (4 * j + 1)) (congrArg xs (nI_clamp (by omega))) ?_
      refine hp_V (ci := 5) (As := [.int (xs (4 * j + 1))]) (rest := []) B0 hw hS (c_W5_givenAt hl G f893 mo dW dA dQ dM dS dL dR dT dZ dI dH dN dK dJ dU dO dF dP dE dX dY dG th (100 * j) gw0 ga0 gw1 ga1 mg0 mg1 n a cg x sa pk fl gv gh gl hM907 (by omega) (xs (4 * j + 1))) mV_X5_givenAt qM_L_146 rfl hM907.1 rfl rfl hl9.1 (Nat.le_of_ble_eq_true rfl) ⟨⟨Nat.le_of_ble_eq_true rfl, Nat.le_of_ble_eq_true rfl⟩, (by first | omega | (dsimp only; omega) | (show (_ : Nat) ≤ _; simp only [room_1]; omega)), (by first | omega | (dsimp only; omega) | (show (_ : Nat) ≤ _; simp only [room_1]; omega))⟩ dL_law_745 (fun E ce q9 f908 H locs hPX hw hS hce hcv hcl => ?_) (fun v f908 H locs hP hw hS => ?_)
      · exact hPX.elim
      · obtain ⟨hP, he911⟩ := hP
        rcases hP with ⟨hy909, ev9, hM910⟩ | ⟨hy909, ⟨r912, ev9⟩, hM910⟩
        · exact absurd hy909 hz894
        · subst ev9
          have hC913 := CW.eq hC895 he911 hdis (MW.fr hM907 hM910)
          have ho914 := (he911 _ hno2).trans ho897
          refine W.eq (g2 := F0 m 748 ls [.int r912]) rfl ?_
          refine lv_istore (lv' := [(6, .int r912), (5, .int (spc (0 ≤ (xs (4 * j + 1)).toInt ∧ (xs (4 * j + 1)).toInt < (cg : Int)) True)), (4, .int (nI (4 * j))), (0, .ref b), (1, .ref xo), (2, .ref mo), (3, .ref out)]) hx hb dL_law_748 hl9 (by decide) rfl (fun ls hl9 => ?_)
          refine lv_goto (tgt := 766) hx hb dL_law_750 (by decide) ?_
          refine lv_iinc (v := (nI (4 * (j + 1)))) (lv' := [(4, .int (nI (4 * (j + 1)))), (6, .int r912), (5, .int (spc (0 ≤ (xs (4 * j + 1)).toInt ∧ (xs (4 * j + 1)).toInt < (cg : Int)) True)), (0, .ref b), (1, .ref xo), (2, .ref mo), (3, .ref out)]) hx hb dL_law_766 hl9 (k := 2) rfl (nI_add (4 * j) 4) (by decide) rfl (fun ls hl9 => ?_)
          refine lv_goto (tgt := 23) hx hb dL_law_769 (by decide) ?_
          exact W.widen (by omega) (by omega) (ih _ _ H locs ls ⟨_, _, _, _, _, _, _, _, _, _, _, _, _, _, _, _, hC913, ⟨_, (MW.mono hM910 (by omega))⟩, ⟨_, ho914⟩, rfl⟩ hw hS (lv_sub hl9 [0, 3, 4, 5, 6] rfl))

set_option maxHeartbeats 4000000 in
set_option maxRecDepth 100000 in
theorem law_c20 {p : Program} {l : Launch} {e : Env} {s : State} {m : MethodId} {below : List Frame} {meth : Method} {c : Code} {b L : Nat} {xs : Nat → Int32} (hL : L ≤ 2048) (hx : p.tables.exec = Jvm.exec) (hb : c.code = code) (hX : va_X b L xs s s.heap) (hbl : b < s.heap.size) (hl : l.stackTraces = false) {G : hG} (B0 : hB p l s m #[Value.ref b] meth c code 7 RL G) (hbA : ¬ hFr G b) {xo ez eo bu nw0 na0 nq0 nr0 nw1 na1 nq1 nr1 bs bp bh bf bl bg mo dW dA dQ dM dS dL dR dT dZ dI dH dN dK dJ dU dO dF dP dE dX dY dG out : Nat} (hdis : ∀ p, p ∈ [xo, ez, eo, bu, nw0, na0, nq0, nr0, nw1, na1, nq1, nr1, bs, bp, bh, bf, bl, bg] → p ∉ [mo, dW, dA, dQ, dM, dS, dL, dR, dT, dZ, dI, dH, dN, dK, dJ, dU, dO, dF, dP, dE, dX, dY, dG]) (hdos : ∀ p, p ∈ [mo, dW, dA, dQ, dM, dS, dL, dR, dT, dZ, dI, dH, dN, dK, dJ, dU, dO, dF, dP, dE, dX, dY, dG] → p ∉ [out, xo, ez, eo, bu, nw0, na0, nq0, nr0, nw1, na1, nq1, nr1, bs, bp, bh, bf, bl, bg]) (hno : out ∉ [xo, ez, eo, bu, nw0, na0, nq0, nr0, nw1, na1, nq1, nr1, bs, bp, bh, bf, bl, bg]) (hno2 : out ∉ [mo, dW, dA, dQ, dM, dS, dL, dR, dT, dZ, dI, dH, dN, dK, dJ, dU, dO, dF, dP, dE, dX, dY, dG]) {j T : Nat} (hj : j < T) (hT1 : 4 * T ≤ L) (ih : ∀ (f9 : hM) (lv9 : List (Nat × Value)) (H : Heap) (locs : List Loc) (ls : Array Slot), lwI G xo ez eo bu nw0 na0 nq0 nr0 nw1 na1 nq1 nr1 bs bp bh bf bl bg mo dW dA dQ dM dS dL dR dT dZ dI dH dN dK dJ dU dO dF dP dE dX dY dG out b (j + 1) f9 lv9 → hW G f9 H → va_S (hFr G) s.heap H locs → lv_has ls 7 lv9 → W p l e room_1 s m #[Value.ref b] below meth c H locs (42 + (j + 1) * 201) (9564 + (j + 1) * 1101) (lw_Z below #[Value.ref b] s) (F0 m 23 ls [])) {gw0 : Nat → Int32} {ga0 : Nat → Int32} {gw1 : Nat → Int32} {ga1 : Nat → Int32} {mg0 : Int32} {mg1 : Int32} {n : Nat} {a : Nat} {cg : Nat} {x : Nat} {sa : Nat → Nat} {pk : Nat → Nat} {fl : Nat → Nat} {gv : Nat → Nat} {gh : Nat → Int32} {gl : Nat → Int32} {f9 : hM} {th : Int32} {go : Nat → Int64} (hC : CW G f9 xo ez eo bu nw0 na0 nq0 nr0 nw1 na1 nq1 nr1 bs bp bh bf bl bg gw0 ga0 gw1 ga1 mg0 mg1 n a cg x sa pk fl gv gh gl) (hM : MW G f9 mo dW dA dQ dM dS dL dR dT dZ dI dH dN dK dJ dU dO dF dP dE dX dY dG th (100 * j) gw0 ga0 gw1 ga1 mg0 mg1 n a cg x sa pk fl gv gh gl) (ho : f9 out = some (.inl (cJ G, 1, .inr (.inl go)))) {H : Heap} {locs : List Loc} {ls : Array Slot} (hw : hW G f9 H) (hS : va_S (hFr G) s.heap H locs) (hl9 : lv_has ls 7 [(4, .int (nI (4 * j))), (0, .ref b), (1, .ref xo), (2, .ref mo), (3, .ref out)]) : W p l e room_1 s m #[Value.ref b] below meth c H locs (42 + j * 201) (9564 + j * 1101) (lw_Z below #[Value.ref b] s) (F0 m 753 ls []) := by
  refine lv_aload_n hx hb dL_law_753 rfl (lv_at hl9 2 rfl) ?_
  refine hp_V (ci := 4) (As := []) (rest := []) B0 hw hS (c_W4_next hl G f9 xo ez eo bu nw0 na0 nq0 nr0 nw1 na1 nq1 nr1 bs bp bh bf bl bg gw0 ga0 gw1 ga1 mg0 mg1 n a cg x sa pk fl gv gh gl hC) mV_X4_next qM_L_147 rfl hC.1 rfl rfl hl9.1 (Nat.le_of_ble_eq_true rfl) ⟨⟨Nat.le_of_ble_eq_true rfl, Nat.le_of_ble_eq_true rfl⟩, (by first | omega | (dsimp only; omega) | (show (_ : Nat) ≤ _; simp only [room_1]; omega)), (by first | omega | (dsimp only; omega) | (show (_ : Nat) ≤ _; simp only [room_1]; omega))⟩ dL_law_754 (fun E ce q9 f915 H locs hPX hw hS hce hcv hcl => ?_) (fun v f915 H locs hP hw hS => ?_)
  · exact hPX.elim
  · obtain ⟨ev9, ef9⟩ := hP
    rw [ef9] at hw
    subst ev9
    refine W.eq (g2 := F0 m 757 ls [.int (nI x)]) rfl ?_
    refine lv_aload_n hx hb dL_law_757 rfl (lv_at hl9 3 rfl) ?_
    refine hp_V (ci := 5) (As := []) (rest := [.int (nI x)]) B0 hw hS (c_W5_next hl G f9 mo dW dA dQ dM dS dL dR dT dZ dI dH dN dK dJ dU dO dF dP dE dX dY dG th (100 * j) gw0 ga0 gw1 ga1 mg0 mg1 n a cg x sa pk fl gv gh gl hM (by omega)) mV_X5_next qM_L_150 rfl hM.1 rfl rfl hl9.1 (Nat.le_of_ble_eq_true rfl) ⟨⟨Nat.le_of_ble_eq_true rfl, Nat.le_of_ble_eq_true rfl⟩, (by first | omega | (dsimp only; omega) | (show (_ : Nat) ≤ _; simp only [room_1]; omega)), (by first | omega | (dsimp only; omega) | (show (_ : Nat) ≤ _; simp only [room_1]; omega))⟩ dL_law_758 (fun E ce q9 f916 H locs hPX hw hS hce hcv hcl => ?_) (fun v f916 H locs hP hw hS => ?_)
    · exact hPX.elim
    · obtain ⟨ev9, hM917, he918⟩ := hP
      subst ev9
      have hC919 := CW.eq hC he918 hdis (MW.fr hM hM917)
      have ho920 := (he918 _ hno2).trans ho
      refine W.eq (g2 := F0 m 761 ls [.int (nI x), .int (nI x)]) rfl ?_
      refine lv_icmp_eq (tgt := 766) hx hb dL_law_761 (by decide) (fun _ => ?_) (fun c9 => absurd rfl c9)
      refine lv_iinc (v := (nI (4 * (j + 1)))) (lv' := [(4, .int (nI (4 * (j + 1)))), (0, .ref b), (1, .ref xo), (2, .ref mo), (3, .ref out)]) hx hb dL_law_766 hl9 (k := 0) rfl (nI_add (4 * j) 4) (by decide) rfl (fun ls hl9 => ?_)
      refine lv_goto (tgt := 23) hx hb dL_law_769 (by decide) ?_
      exact W.widen (by omega) (by omega) (ih _ _ H locs ls ⟨_, _, _, _, _, _, _, _, _, _, _, _, _, _, _, _, hC919, ⟨_, (MW.mono hM917 (by omega))⟩, ⟨_, ho920⟩, rfl⟩ hw hS (lv_sub hl9 [0, 1, 2, 3, 4] rfl))

set_option maxHeartbeats 4000000 in
set_option maxRecDepth 100000 in
theorem law_c21 {p : Program} {l : Launch} {e : Env} {s : State} {m : MethodId} {below : List Frame} {meth : Method} {c : Code} {b L : Nat} {xs : Nat → Int32} (hL : L ≤ 2048) (hx : p.tables.exec = Jvm.exec) (hb : c.code = code) (hX : va_X b L xs s s.heap) (hbl : b < s.heap.size) (hl : l.stackTraces = false) {G : hG} (B0 : hB p l s m #[Value.ref b] meth c code 7 RL G) (hbA : ¬ hFr G b) {xo ez eo bu nw0 na0 nq0 nr0 nw1 na1 nq1 nr1 bs bp bh bf bl bg mo dW dA dQ dM dS dL dR dT dZ dI dH dN dK dJ dU dO dF dP dE dX dY dG out : Nat} (hdis : ∀ p, p ∈ [xo, ez, eo, bu, nw0, na0, nq0, nr0, nw1, na1, nq1, nr1, bs, bp, bh, bf, bl, bg] → p ∉ [mo, dW, dA, dQ, dM, dS, dL, dR, dT, dZ, dI, dH, dN, dK, dJ, dU, dO, dF, dP, dE, dX, dY, dG]) (hdos : ∀ p, p ∈ [mo, dW, dA, dQ, dM, dS, dL, dR, dT, dZ, dI, dH, dN, dK, dJ, dU, dO, dF, dP, dE, dX, dY, dG] → p ∉ [out, xo, ez, eo, bu, nw0, na0, nq0, nr0, nw1, na1, nq1, nr1, bs, bp, bh, bf, bl, bg]) (hno : out ∉ [xo, ez, eo, bu, nw0, na0, nq0, nr0, nw1, na1, nq1, nr1, bs, bp, bh, bf, bl, bg]) (hno2 : out ∉ [mo, dW, dA, dQ, dM, dS, dL, dR, dT, dZ, dI, dH, dN, dK, dJ, dU, dO, dF, dP, dE, dX, dY, dG]) {j T : Nat} (hj : j < T) (hT1 : 4 * T ≤ L) (ih : ∀ (f9 : hM) (lv9 : List (Nat × Value)) (H : Heap) (locs : List Loc) (ls : Array Slot), lwI G xo ez eo bu nw0 na0 nq0 nr0 nw1 na1 nq1 nr1 bs bp bh bf bl bg mo dW dA dQ dM dS dL dR dT dZ dI dH dN dK dJ dU dO dF dP dE dX dY dG out b (j + 1) f9 lv9 → hW G f9 H → va_S (hFr G) s.heap H locs → lv_has ls 7 lv9 → W p l e room_1 s m #[Value.ref b] below meth c H locs (42 + (j + 1) * 201) (9564 + (j + 1) * 1101) (lw_Z below #[Value.ref b] s) (F0 m 23 ls [])) {gw0 : Nat → Int32} {ga0 : Nat → Int32} {gw1 : Nat → Int32} {ga1 : Nat → Int32} {mg0 : Int32} {mg1 : Int32} {n : Nat} {a : Nat} {cg : Nat} {x : Nat} {sa : Nat → Nat} {pk : Nat → Nat} {fl : Nat → Nat} {gv : Nat → Nat} {gh : Nat → Int32} {gl : Nat → Int32} {f9 : hM} {th : Int32} {go : Nat → Int64} (hC : CW G f9 xo ez eo bu nw0 na0 nq0 nr0 nw1 na1 nq1 nr1 bs bp bh bf bl bg gw0 ga0 gw1 ga1 mg0 mg1 n a cg x sa pk fl gv gh gl) (hM : MW G f9 mo dW dA dQ dM dS dL dR dT dZ dI dH dN dK dJ dU dO dF dP dE dX dY dG th (100 * j) gw0 ga0 gw1 ga1 mg0 mg1 n a cg x sa pk fl gv gh gl) (ho : f9 out = some (.inl (cJ G, 1, .inr (.inl go)))) {H : Heap} {locs : List Loc} {ls : Array Slot} (hw : hW G f9 H) (hS : va_S (hFr G) s.heap H locs) (hl9 : lv_has ls 7 [(4, .int (nI (4 * j))), (0, .ref b), (1, .ref xo), (2, .ref mo), (3, .ref out)]) : W p l e room_1 s m #[Value.ref b] below meth c H locs (42 + j * 201) (9564 + j * 1101) (lw_Z below #[Value.ref b] s) (F0 m 766 ls []) := by
  refine lv_iinc (v := (nI (4 * (j + 1)))) (lv' := [(4, .int (nI (4 * (j + 1)))), (0, .ref b), (1, .ref xo), (2, .ref mo), (3, .ref out)]) hx hb dL_law_766 hl9 (k := 0) rfl (nI_add (4 * j) 4) (by decide) rfl (fun ls hl9 => ?_)
  refine lv_goto (tgt := 23) hx hb dL_law_769 (by decide) ?_
  exact W.widen (by omega) (by omega) (ih _ _ H locs ls ⟨_, _, _, _, _, _, _, _, _, _, _, _, _, _, _, _, hC, ⟨_, (MW.mono hM (by omega))⟩, ⟨_, ho⟩, rfl⟩ hw hS (lv_sub hl9 [0, 1, 2, 3, 4] rfl))

