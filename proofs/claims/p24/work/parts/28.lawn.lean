theorem hW_0 {G : hG} {H : Heap} : hW G (fun _ => none) H := ⟨[], fun _ => .inr (0, []), (fun a e h => nomatch h), (fun k q h => by simp [va_pl] at h), ⟨fun i j p q h => by simp [va_pl] at h, fun k q h => by simp [va_pl] at h⟩⟩
theorem arr_of {ty : FieldType} {args : Array Value} {s : State} (h : (Cond.arrayClass ty).before args s = true) (hp : ∀ C, ty ≠ .object C) : ∃ cA, ArrOfT s cA ty ∧ va_RA s cA ty := by
  obtain ⟨c, k, comp, h1, h2, h3⟩ := Cond.arrayClass_spec h
  refine ⟨c, fun n z => ⟨fun k h => (by cases h), k, h2, comp, h3⟩, ?_⟩
  cases ty <;> first | exact absurd rfl (hp _) | exact h1
theorem hstr_all : hStr.all (fun q => decide (Cond.exactly (.string q.1 q.2.1) "java/lang/String" ∈ flatC (Jvm.Cond.and given_1 narrow_1))) = true := by decide +kernel
theorem hnc_all : hNcs.all (fun q => decide (Cond.not (.castable q.1 q.2) ∈ flatC (Jvm.Cond.and given_1 narrow_1))) = true := by decide +kernel
theorem hisU : Cond.isRef (.static Bundle.tN "UNASSIGNED_STACK" Bundle.steD) ∈ flatC (Jvm.Cond.and given_1 narrow_1) := by decide +kernel
theorem hisN : Cond.isRef (.static Bundle.tN "SUPPRESSED_SENTINEL" Bundle.listD) ∈ flatC (Jvm.Cond.and given_1 narrow_1) := by decide +kernel
theorem hlyU : Cond.laysStatic Bundle.tN "UNASSIGNED_STACK" Bundle.steD ∈ lw_tbl := List.mem_of_getElem? (i := 210) (by decide +kernel)
theorem hlyN : Cond.laysStatic Bundle.tN "SUPPRESSED_SENTINEL" Bundle.listD ∈ lw_tbl := List.mem_of_getElem? (i := 212) (by decide +kernel)
set_option maxHeartbeats 4000000 in
theorem hK_0 {b : Nat} {s : State} (hts : ∀ w ∈ lw_tbl, w.before #[Value.ref b] s = true) (hgv : (Jvm.Cond.and given_1 narrow_1).before #[Value.ref b] s = true) : ∃ (dC : Nat → ClassId) (dI : Nat → Nat → Nat) (c1 c2 c3 : ClassId), hK ((dC, dI), (c1, c2, c3), s.heap.size) s := by
  have hs := flat_of_before _ hgv
  have htg : ∀ w ∈ gW, w.before #[Value.ref b] s = true := fun w h => hts w (List.mem_filter.mp h).1
  obtain ⟨c0, i0, hn0⟩ := u_known (C := RX0) (T := TX0) (N := 9) (n := 9) htg in_X0 (htg _ qI_X0)
  obtain ⟨c1, i1, hn1⟩ := u_known (C := RX1) (T := TX1) (N := 11) (n := 11) htg in_X1 (htg _ qI_X1)
  obtain ⟨c2, i2, hn2⟩ := u_known (C := RX2) (T := TX2) (N := 5) (n := 5) htg in_X2 (htg _ qI_X2)
  obtain ⟨c3, i3, hn3⟩ := u_known (C := RX3) (T := TX3) (N := 3) (n := 3) htg in_X3 (htg _ qI_X3)
  obtain ⟨c4, i4, hn4⟩ := u_known (C := RX4) (T := TX4) (N := 3) (n := 3) htg in_X4 (htg _ qI_X4)
  obtain ⟨cI1, hI1, hI2⟩ := arr_of (htg _ qA_int) (fun C h => by cases h)
  obtain ⟨cZ1, hZ1, hZ2⟩ := arr_of (htg _ qA_boolean) (fun C h => by cases h)
  obtain ⟨cJ1, hJ1, hJ2⟩ := arr_of (htg _ qA_long) (fun C h => by cases h)
  have hA : ∀ a : Nat, a < s.heap.size → ¬ s.heap.size ≤ a := fun a h => Nat.not_le.mpr h
  refine ⟨fun k => if k = 0 then c0 else if k = 1 then c1 else if k = 2 then c2 else if k = 3 then c3 else c4, fun k => if k = 0 then i0 else if k = 1 then i1 else if k = 2 then i2 else if k = 3 then i3 else i4, cI1, cZ1, cJ1, ⟨?_, ?_⟩, ?_, ?_, ?_, ?_, ?_, Nat.le_refl _⟩
  · intro k q hq
    match k, hq with
    | 0, hq => cases hq; exact hn0
    | 1, hq => cases hq; exact hn1
    | 2, hq => cases hq; exact hn2
    | 3, hq => cases hq; exact hn3
    | 4, hq => cases hq; exact hn4
    | k + 5, hq => simp at hq
  · intro k q hq
    match k, hq with
    | 0, hq => cases hq; exact ⟨hI1, hI2⟩
    | 1, hq => cases hq; exact ⟨hZ1, hZ2⟩
    | 2, hq => cases hq; exact ⟨hJ1, hJ2⟩
    | k + 3, hq => simp at hq
  · exact vx_Zqof (hts _ hlyU) (htg _ qN_java_lang_Throwable) (hs _ hisU) hA
  · exact vx_Zqof (hts _ hlyN) (htg _ qN_java_lang_Throwable) (hs _ hisN) hA
  · exact fun w hw => va_Nw.of (hOw_tabs (List.mem_filter.mp hw).2) (hts w (List.mem_filter.mp hw).1)
  · intro q hq
    have h2 := hs _ (of_decide_eq_true (List.all_eq_true.mp hstr_all q hq))
    obtain ⟨a, c, cell, k, h3, -⟩ := Cond.exactly_spec h2
    refine ⟨a, ?_⟩
    unfold hStr at hq
    obtain ⟨w, hw1, hw2⟩ := List.mem_filterMap.mp hq
    cases w <;> first | (cases hw2; exact vk_R.of (hts _ hw1) h3) | (cases hw2)
  · exact fun q hq => va_Nc.of (hs _ (of_decide_eq_true (List.all_eq_true.mp hnc_all q hq)))
def hPreS (G : hG) (av : List Value) (f : hM) (b L : Nat) (xs : Nat → Int32) : Array Value → State → Prop := va_Pc av (fun U => (hK G U ∧ hW G f U.heap) ∧ va_X b L xs U U.heap ∧ b < U.heap.size ∧ ¬ hFr G b)
theorem hPreS.blind {G : hG} {av : List Value} {f : hM} {b L : Nat} {xs : Nat → Int32} : FrameBlind (hPreS G av f b L xs) := fun _ U g mk h => ⟨h.1, ⟨hK.warm (U := U.calling g mk _) h.2.1.1 (State.WarmedH.refl U) (Nat.le_refl _) (fun _ _ _ => rfl), h.2.1.2⟩, va_X.moved (State.WarmedH.refl U).alike h.2.2.1, h.2.2.2⟩
theorem c_L_cell {l : Launch} (hl : l.stackTraces = false) (G : hG) (f : hM) (b L : Nat) (xs : Nat → Int32) (k : Nat) (hk : k < 2 ^ 30) (hL : L < 2 ^ 30) : vx_Met l yL_cell (.code yL_cell cL_cell 2 (some .int) :: gW) { frames := 0, cells := 0, slots := 0, locals := 0 } (hPreS G [.ref b, .int (nI k)] f b L xs) (hQ G (fun v f1 => (∃ w : Int32, v = some (.int w)) ∧ f1 = f)) (hX G (fun _ _ => False)) 0 0 (hFr G) := by
  refine vx_ofW (cc := cL_cell) (maxL := 2) (ret := some .int) (by decide) rfl ?_
  intro p e s m args below meth c s₁ B hml hout hv
  obtain ⟨rfl, ⟨hk0, hw⟩, hX, hbl, hbA⟩ := hv
  have hts := atoms_spec (ws := (Cond.code yL_cell cL_cell 2 (some .int)) :: gW) B.pre
  have hown : s.vm.findClass RL = some m.cls := findClass_of_methodNamed B.named
  have hl2 := lv_entry [.ref b, .int (nI k)] (n := 2) (Nat.le_of_ble_eq_true rfl)
  rw [lg_entry_eq]
  have B0 : hB p l s m [Value.ref b, Value.int (nI k)].toArray meth c cL_cell 2 RL G := ⟨B.exec, B.bytes, hml, hown, fun w h => hts w (List.mem_cons_of_mem _ h), B.notSynchronized, hk0, hl⟩
  have hr := B.returns
  have hS : va_S (hFr G) s.heap s.heap [] := va_S.rf
  have hx := B0.1
  have hb := B0.2.1
  generalize (lg_sl [.ref b, .int (nI k)] ++ List.replicate (2 - (lg_sl [.ref b, .int (nI k)]).length) Slot.unset).toArray = ls at hl2 ⊢
  have hl9 : lv_has ls 2 [(0, .ref b), (1, .int (nI k))] := hl2
  refine lv_iload_n hx hb dL_cell_0 rfl (lv_at hl9 1 rfl) ?_
  refine lv_aload_n hx hb dL_cell_1 rfl (lv_at hl9 0 rfl) ?_
  refine va_slen hx hb hX hbl hbA hS dL_cell_2 ?_
  refine hp_c (v := nI L) rfl ?_
  refine lv_icmp_ge (tgt := 12) hx hb dL_cell_3 (by decide) (fun c1 => ?_) (fun c1 => ?_)
  · refine lv_ldc (v := 1171900389) hx hb B0.2.2.2.1 (B0.2.2.2.2.1 _ qK_L_7) dL_cell_12 ?_
    refine lv_iload_n hx hb dL_cell_14 rfl (lv_at hl9 1 rfl) ?_
    refine lv_bipush (v := 8) hx hb dL_cell_15 (by decide) ?_
    refine lv_iadd hx hb dL_cell_17 ?_
    refine lv_imul hx hb dL_cell_18 ?_
    exact hp_iret B0 hw hS hr ⟨Nat.le_refl _, Nat.le_refl _⟩ dL_cell_19 ⟨⟨_, rfl⟩, rfl⟩
  · refine lv_aload_n hx hb dL_cell_6 rfl (lv_at hl9 0 rfl) ?_
    refine lv_iload_n hx hb dL_cell_7 rfl (lv_at hl9 1 rfl) ?_
    refine va_sld hx hb hX hbl hbA hS (vp_in_nI (Nat.lt_of_not_le (fun h9 => c1 (nI_le h9 (by omega)))) (by omega)) dL_cell_8 ?_
    refine lv_goto (tgt := 19) hx hb dL_cell_9 (by decide) ?_
    exact hp_iret B0 hw hS hr ⟨Nat.le_refl _, Nat.le_refl _⟩ dL_cell_19 ⟨⟨_, rfl⟩, rfl⟩
section HSS
variable {p : Program} {l : Launch} {e : Env} {R : Room} {s : State} {m : MethodId} {args : Array Value} {below : List Frame} {meth : Method} {c : Code} {H : Heap} {locs : List Loc} {cells slots : Nat} {Q : State → Prop}
theorem hp_cell {cc : ByteArray} {nL pc : Nat} {G : hG} {f : hM} {ls : Array Slot} {rest : List Value} {b L k index : Nat} {xs : Nat → Int32} (B0 : hB p l s m args meth c cc nL RL G) (hl : l.stackTraces = false) (hw : hW G f H) (hS : va_S (hFr G) s.heap H locs) (hX : va_X b L xs s s.heap) (hbl : b < s.heap.size) (hbA : ¬ hFr G b) (hk : k < 2 ^ 30) (hL : L < 2 ^ 30) (hlm : Cond.methodLink RL index yL_cell ∈ gW) (hsz : ls.size = nL) (hroom : (rest.map fun v => v.category).sum ≤ 8)
    (hR : (1 ≤ R.frames ∧ 21 ≤ R.locals) ∧ cells + 0 ≤ R.cells ∧ slots + 0 ≤ R.slots) (hdg : decode cc pc = .ok (.invokestatic index, 3))
    (kk : ∀ (w : Int32) (H1 : Heap) (locs1 : List Loc), hW G f H1 → va_S (hFr G) s.heap H1 locs1 → W p l e R s m args below meth c H1 locs1 (cells + 0) (slots + 0) Q (F0 m (pc + 3) ls (.int w :: rest))) : W p l e R s m args below meth c H locs cells slots Q (F0 m pc ls (.int (nI k) :: .ref b :: rest)) := by
  have B1 := B0
  obtain ⟨hx, hb9, hml, hown, hts, hlk, hk0, hl0⟩ := B0
  obtain ⟨m1, m2, m4, m5, m6⟩ := mS_L_cell
  refine hp_go B1 hS (vx_runS (ws := Cond.code yL_cell cL_cell 2 (some .int) :: gW) (rm := { frames := 0, cells := 0, slots := 0, locals := 0 }) (Ts := gW) (bytes := cL_cell) (maxL := 2) (ret := some .int) (n := 2) (As := [.ref b, .int (nI k)]) (rest := rest) ⟨hx, hb9, hml, hown, hts⟩ (c_L_cell hl G f b L xs k hk hL)
    ⟨⟨rfl, rfl, hR.1.1, hR.1.2, gW_pay hts m1, List.mem_cons_self, hts _ m1, hts _ m4, m5, hlen_of m6, hts _ hlm⟩, hts _ m2⟩
    ⟨hPreS.blind, fun U hU hW9 => ⟨rfl, ⟨hK.warm hk0 hW9 (by rw [hU]; exact hS.1) (fun q h1 h2 => by rw [hU]; exact hS.2.1 q h1 h2), by rw [hU]; exact hw⟩, (va_X.moved hW9.alike hX).kept (by rw [hU]; exact hS.2.1 b hbl hbA), by rw [hU]; exact Nat.lt_of_lt_of_le hbl hS.1, hbA⟩⟩ rfl rfl hsz rfl (lv_room hroom) hdg hR.2) (fun E ce q9 f1 H1 locs1 hPX => hPX.elim) (fun v f1 H1 locs1 hP hw1 hS1 => ?_)
  obtain ⟨⟨w, ev⟩, ef⟩ := hP
  rw [ef] at hw1
  subst ev
  exact kk w H1 locs1 hw1 hS1
end HSS
theorem LX.kp {G : hG} {f f1 : hM} {lx ly lw la lq le : Nat} {S0 S1 : ES} {gw0 ga0 gw1 ga1 : Nat → Int32} {S : List Nat} (h : LX G f lx ly lw la lq le S0 S1 gw0 ga0 gw1 ga1) (hk : hKn S f f1) (hd : ∀ p, p ∈ [lx, ly, lw, la, lq, le] → p ∉ S) : LX G f1 lx ly lw la lq le S0 S1 gw0 ga0 gw1 ga1 := by
  obtain ⟨⟨xs, h1, x1⟩, ⟨ys, h2, y1⟩, h3, h4, h5, h6⟩ := h
  exact ⟨⟨xs, hk _ _ h1 (Nat.ne_of_beq_eq_false rfl) (hd _ (by simp)), x1⟩, ⟨ys, hk _ _ h2 (Nat.ne_of_beq_eq_false rfl) (hd _ (by simp)), y1⟩, hk _ _ h3 (Nat.ne_of_beq_eq_false rfl) (hd _ (by simp)), hk _ _ h4 (Nat.ne_of_beq_eq_false rfl) (hd _ (by simp)), hk _ _ h5 (Nat.ne_of_beq_eq_false rfl) (hd _ (by simp)), hk _ _ h6 (Nat.ne_of_beq_eq_false rfl) (hd _ (by simp))⟩
theorem LBX.kp {G : hG} {f f1 : hM} {lb lh lr lg : Nat} {n a cg x : Nat} {sa fl gv : Nat → Nat} {gh gl : Nat → Int32} {S : List Nat} (h : LBX G f lb lh lr lg n a cg x sa fl gv gh gl) (hk : hKn S f f1) (hd : ∀ p, p ∈ [lb, lh, lr, lg] → p ∉ S) : LBX G f1 lb lh lr lg n a cg x sa fl gv gh gl := by
  obtain ⟨h1, ⟨hh, hn, h2, h3, h4⟩, h5, ⟨tk, h6, h7⟩⟩ := h
  exact ⟨hk _ _ h1 (Nat.ne_of_beq_eq_false rfl) (hd _ (by simp)), ⟨hh, hn, hk _ _ h2 (Nat.ne_of_beq_eq_false rfl) (hd _ (by simp)), h3, h4⟩, hk _ _ h5 (Nat.ne_of_beq_eq_false rfl) (hd _ (by simp)), ⟨tk, hk _ _ h6 (Nat.ne_of_beq_eq_false rfl) (hd _ (by simp)), h7⟩⟩
/-- what holds at the head of the loop, behind j turns -/
abbrev lawI (G : hG) (xo ez eo bu nw0 na0 nq0 nr0 nw1 na1 nq1 nr1 bs bp bh bf bl bg lx ly lw la lq le lb lh lr lg : Nat) (b : Nat) (j : Nat) (f9 : hM) (lv9 : List (Nat × Value)) : Prop := ∃ (S0 : ES) (S1 : ES) (gw0 : Nat → Int32) (ga0 : Nat → Int32) (gw1 : Nat → Int32) (ga1 : Nat → Int32) (n : Nat) (a : Nat) (cg : Nat) (x : Nat) (sa : Nat → Nat) (pk : Nat → Nat) (fl : Nat → Nat) (gv : Nat → Nat) (gh : Nat → Int32) (gl : Nat → Int32), CXW G f9 xo ez eo bu nw0 na0 nq0 nr0 nw1 na1 nq1 nr1 bs bp bh bf bl bg S0 S1 gw0 ga0 gw1 ga1 n a cg x sa pk fl gv gh gl ∧ LX G f9 lx ly lw la lq le S0 S1 gw0 ga0 gw1 ga1 ∧ LBX G f9 lb lh lr lg n a cg x sa fl gv gh gl ∧ INV (100 * j) S0 S1 gw0 ga0 gw1 ga1 ∧ S0.2.2.2.2.2.2.2.2.length ≤ 52 ∧ S1.2.2.2.2.2.2.2.2.length ≤ 52 ∧ a ≤ 60 ∧ lv9 = [(12, .int (nI j)), (0, .ref b), (1, .ref xo), (2, .ref lx), (3, .ref ly), (4, .ref lw), (5, .ref la), (6, .ref lq), (7, .ref le), (8, .ref lb), (9, .ref lh), (10, .ref lr), (11, .ref lg)]
set_option maxHeartbeats 4000000 in
set_option maxRecDepth 100000 in
theorem lt_335 {p : Program} {l : Launch} {e : Env} {s : State} {m : MethodId} {below : List Frame} {meth : Method} {c : Code} {b L : Nat} {xs : Nat → Int32} (hL : L ≤ 260) (hx : p.tables.exec = Jvm.exec) (hb : c.code = code) (hX : va_X b L xs s s.heap) (hbl : b < s.heap.size) (hl : l.stackTraces = false) {G : hG} (B0 : hB p l s m #[Value.ref b] meth c code 17 RL G) (hbA : ¬ hFr G b) {xo ez eo bu nw0 na0 nq0 nr0 nw1 na1 nq1 nr1 bs bp bh bf bl bg lx ly lw la lq le lb lh lr lg : Nat} (hdis : ∀ p, p ∈ [xo, ez, eo, bu, nw0, na0, nq0, nr0, nw1, na1, nq1, nr1, bs, bp, bh, bf, bl, bg] → p ∉ [lx, ly, lw, la, lq, le, lb, lh, lr, lg]) (hdos : ∀ p, p ∈ [lx, ly, lw, la, lq, le, lb, lh, lr, lg] → p ∉ [xo, ez, eo, bu, nw0, na0, nq0, nr0, nw1, na1, nq1, nr1, bs, bp, bh, bf, bl, bg]) (hlb : ∀ p, p ∈ [lx, ly, lw, la, lq, le] → p ∉ [lb, lh, lr, lg]) (hbl9 : ∀ p, p ∈ [lb, lh, lr, lg] → p ∉ [lx, ly, lw, la, lq, le]) (n_lx_ly : lx ≠ ly) (n_lw_la : lw ≠ la) (n_lw_lq : lw ≠ lq) (n_la_lq : la ≠ lq) {j : Nat} (hj : j < 150) (ih : ∀ (f9 : hM) (lv9 : List (Nat × Value)) (H : Heap) (locs : List Loc) (ls : Array Slot), lawI G xo ez eo bu nw0 na0 nq0 nr0 nw1 na1 nq1 nr1 bs bp bh bf bl bg lx ly lw la lq le lb lh lr lg b (j + 1) f9 lv9 → hW G f9 H → va_S (hFr G) s.heap H locs → lv_has ls 17 lv9 → W p l e room_1 s m #[Value.ref b] below meth c H locs (100 + (j + 1) * 248) (2000 + (j + 1) * 1388) (lw_Z below #[Value.ref b] s) (F0 m 152 ls [])) {S0 : ES} {S1 : ES} {gw0 : Nat → Int32} {ga0 : Nat → Int32} {gw1 : Nat → Int32} {ga1 : Nat → Int32} {n : Nat} {a : Nat} {cg : Nat} {x : Nat} {sa : Nat → Nat} {pk : Nat → Nat} {fl : Nat → Nat} {gv : Nat → Nat} {gh : Nat → Int32} {gl : Nat → Int32} {f9 : hM} (hC : CXW G f9 xo ez eo bu nw0 na0 nq0 nr0 nw1 na1 nq1 nr1 bs bp bh bf bl bg S0 S1 gw0 ga0 gw1 ga1 n a cg x sa pk fl gv gh gl) (hLX : LX G f9 lx ly lw la lq le S0 S1 gw0 ga0 gw1 ga1) (hLB : LBX G f9 lb lh lr lg n a cg x sa fl gv gh gl) (hInv : INV (100 * (j + 1)) S0 S1 gw0 ga0 gw1 ga1) (hl0 : S0.2.2.2.2.2.2.2.2.length ≤ 52) (hl1 : S1.2.2.2.2.2.2.2.2.length ≤ 52) (ha60 : a ≤ 60) {H : Heap} {locs : List Loc} {ls : Array Slot} (hw : hW G f9 H) (hS : va_S (hFr G) s.heap H locs) (hl9 : lv_has ls 17 [(12, .int (nI j)), (0, .ref b), (1, .ref xo), (2, .ref lx), (3, .ref ly), (4, .ref lw), (5, .ref la), (6, .ref lq), (7, .ref le), (8, .ref lb), (9, .ref lh), (10, .ref lr), (11, .ref lg)]) : W p l e room_1 s m #[Value.ref b] below meth c H locs (100 + j * 248 + 203) (2000 + j * 1388 + 1118) (lw_Z below #[Value.ref b] s) (F0 m 335 ls []) := by
  have hLX0 := hLX
  have hLB0 := hLB
  obtain ⟨-, -, -, -, k_lq, k_le⟩ := hLX
  obtain ⟨-, -, k_lr, ⟨tk, k_lg, -⟩⟩ := hLB
  refine lv_aload_n hx hb dL_law_335 rfl (lv_at hl9 2 rfl) ?_
  refine lv_aload hx hb dL_law_336 (lv_at hl9 7 rfl) ?_
  refine lv_aload hx hb dL_law_338 (lv_at hl9 8 rfl) ?_
  refine lv_aload hx hb dL_law_340 (lv_at hl9 11 rfl) ?_
  refine lv_aload hx hb dL_law_342 (lv_at hl9 12 rfl) ?_
  refine hp_S (As := [.ref xo, .ref lq, .ref le, .ref lr, .ref lg]) (rest := []) B0 hw hS (c_L_isTold hl G f9 xo ez eo bu nw0 na0 nq0 nr0 nw1 na1 nq1 nr1 bs bp bh bf bl bg S0 S1 gw0 ga0 gw1 ga1 n a cg x sa pk fl gv gh gl hC lq le lr lg (fun p9 hp9 h9 => hdis p9 hp9 ((sub_cons (List.mem_cons_of_mem _ (List.mem_cons_of_mem _ (List.mem_cons_of_mem _ (List.mem_cons_of_mem _ List.mem_cons_self)))) (sub_cons (List.mem_cons_of_mem _ (List.mem_cons_of_mem _ (List.mem_cons_of_mem _ (List.mem_cons_of_mem _ (List.mem_cons_of_mem _ List.mem_cons_self))))) (sub_cons (List.mem_cons_of_mem _ (List.mem_cons_of_mem _ (List.mem_cons_of_mem _ (List.mem_cons_of_mem _ (List.mem_cons_of_mem _ (List.mem_cons_of_mem _ (List.mem_cons_of_mem _ (List.mem_cons_of_mem _ List.mem_cons_self)))))))) (sub_cons (List.mem_cons_of_mem _ (List.mem_cons_of_mem _ (List.mem_cons_of_mem _ (List.mem_cons_of_mem _ (List.mem_cons_of_mem _ (List.mem_cons_of_mem _ (List.mem_cons_of_mem _ (List.mem_cons_of_mem _ (List.mem_cons_of_mem _ List.mem_cons_self))))))))) sub_nil)))) p9 h9)) (fun p9 hp9 => hdos p9 ((sub_cons (List.mem_cons_of_mem _ (List.mem_cons_of_mem _ (List.mem_cons_of_mem _ (List.mem_cons_of_mem _ List.mem_cons_self)))) (sub_cons (List.mem_cons_of_mem _ (List.mem_cons_of_mem _ (List.mem_cons_of_mem _ (List.mem_cons_of_mem _ (List.mem_cons_of_mem _ List.mem_cons_self))))) (sub_cons (List.mem_cons_of_mem _ (List.mem_cons_of_mem _ (List.mem_cons_of_mem _ (List.mem_cons_of_mem _ (List.mem_cons_of_mem _ (List.mem_cons_of_mem _ (List.mem_cons_of_mem _ (List.mem_cons_of_mem _ List.mem_cons_self)))))))) (sub_cons (List.mem_cons_of_mem _ (List.mem_cons_of_mem _ (List.mem_cons_of_mem _ (List.mem_cons_of_mem _ (List.mem_cons_of_mem _ (List.mem_cons_of_mem _ (List.mem_cons_of_mem _ (List.mem_cons_of_mem _ (List.mem_cons_of_mem _ List.mem_cons_self))))))))) sub_nil)))) p9 hp9)) _ _ _ _ _ hInv hl0 hl1 tk k_lq k_le k_lr k_lg) mS_L_isTold qM_L_168 rfl rfl hl9.1 (Nat.le_of_ble_eq_true rfl) ⟨⟨Nat.le_of_ble_eq_true rfl, Nat.le_of_ble_eq_true rfl⟩, (by first | omega | (dsimp only; omega) | (show (_ : Nat) ≤ _; simp only [room_1]; omega)), (by first | omega | (dsimp only; omega) | (show (_ : Nat) ≤ _; simp only [room_1]; omega))⟩ dL_law_344 (fun E ce q9 f1 H locs hPX hw hS hce hcv hcl => ?_) (fun v f1 H locs hP hw hS => ?_)
  · exact hPX.elim
  · obtain ⟨ev9, hC2, hk2⟩ := hP
    subst ev9
    refine W.eq (g2 := F0 m 347 ls [.int 1]) rfl ?_
    refine lv_if_ne (tgt := 352) hx hb dL_law_347 (by decide) (fun _ => ?_) (fun c9 => absurd c9 (by decide))
    refine lv_iinc (v := (nI (j + 1))) (lv' := [(12, .int (nI (j + 1))), (0, .ref b), (1, .ref xo), (2, .ref lx), (3, .ref ly), (4, .ref lw), (5, .ref la), (6, .ref lq), (7, .ref le), (8, .ref lb), (9, .ref lh), (10, .ref lr), (11, .ref lg)]) hx hb dL_law_352 hl9 (k := 0) rfl (nI_1 j) (by decide) rfl (fun ls hl9 => ?_)
    refine lv_goto (tgt := 152) hx hb dL_law_355 (by decide) ?_
    exact hp_cs (by omega) (by omega) (ih _ _ H locs ls ⟨_, _, _, _, _, _, _, _, _, _, _, _, _, _, _, _, hC2, hLX0.kp hk2 (fun p9 hp9 => hdos p9 ((sub_cons List.mem_cons_self (sub_cons (List.mem_cons_of_mem _ List.mem_cons_self) (sub_cons (List.mem_cons_of_mem _ (List.mem_cons_of_mem _ List.mem_cons_self)) (sub_cons (List.mem_cons_of_mem _ (List.mem_cons_of_mem _ (List.mem_cons_of_mem _ List.mem_cons_self))) (sub_cons (List.mem_cons_of_mem _ (List.mem_cons_of_mem _ (List.mem_cons_of_mem _ (List.mem_cons_of_mem _ List.mem_cons_self)))) (sub_cons (List.mem_cons_of_mem _ (List.mem_cons_of_mem _ (List.mem_cons_of_mem _ (List.mem_cons_of_mem _ (List.mem_cons_of_mem _ List.mem_cons_self))))) sub_nil)))))) p9 hp9)), hLB0.kp hk2 (fun p9 hp9 => hdos p9 ((sub_cons (List.mem_cons_of_mem _ (List.mem_cons_of_mem _ (List.mem_cons_of_mem _ (List.mem_cons_of_mem _ (List.mem_cons_of_mem _ (List.mem_cons_of_mem _ List.mem_cons_self)))))) (sub_cons (List.mem_cons_of_mem _ (List.mem_cons_of_mem _ (List.mem_cons_of_mem _ (List.mem_cons_of_mem _ (List.mem_cons_of_mem _ (List.mem_cons_of_mem _ (List.mem_cons_of_mem _ List.mem_cons_self))))))) (sub_cons (List.mem_cons_of_mem _ (List.mem_cons_of_mem _ (List.mem_cons_of_mem _ (List.mem_cons_of_mem _ (List.mem_cons_of_mem _ (List.mem_cons_of_mem _ (List.mem_cons_of_mem _ (List.mem_cons_of_mem _ List.mem_cons_self)))))))) (sub_cons (List.mem_cons_of_mem _ (List.mem_cons_of_mem _ (List.mem_cons_of_mem _ (List.mem_cons_of_mem _ (List.mem_cons_of_mem _ (List.mem_cons_of_mem _ (List.mem_cons_of_mem _ (List.mem_cons_of_mem _ (List.mem_cons_of_mem _ List.mem_cons_self))))))))) sub_nil)))) p9 hp9)), hInv, hl0, hl1, ha60, rfl⟩ hw hS (lv_sub hl9 [0, 1, 2, 3, 4, 5, 6, 7, 8, 9, 10, 11, 12] rfl))

set_option maxHeartbeats 4000000 in
set_option maxRecDepth 100000 in
theorem lt_260 {p : Program} {l : Launch} {e : Env} {s : State} {m : MethodId} {below : List Frame} {meth : Method} {c : Code} {b L : Nat} {xs : Nat → Int32} (hL : L ≤ 260) (hx : p.tables.exec = Jvm.exec) (hb : c.code = code) (hX : va_X b L xs s s.heap) (hbl : b < s.heap.size) (hl : l.stackTraces = false) {G : hG} (B0 : hB p l s m #[Value.ref b] meth c code 17 RL G) (hbA : ¬ hFr G b) {xo ez eo bu nw0 na0 nq0 nr0 nw1 na1 nq1 nr1 bs bp bh bf bl bg lx ly lw la lq le lb lh lr lg : Nat} (hdis : ∀ p, p ∈ [xo, ez, eo, bu, nw0, na0, nq0, nr0, nw1, na1, nq1, nr1, bs, bp, bh, bf, bl, bg] → p ∉ [lx, ly, lw, la, lq, le, lb, lh, lr, lg]) (hdos : ∀ p, p ∈ [lx, ly, lw, la, lq, le, lb, lh, lr, lg] → p ∉ [xo, ez, eo, bu, nw0, na0, nq0, nr0, nw1, na1, nq1, nr1, bs, bp, bh, bf, bl, bg]) (hlb : ∀ p, p ∈ [lx, ly, lw, la, lq, le] → p ∉ [lb, lh, lr, lg]) (hbl9 : ∀ p, p ∈ [lb, lh, lr, lg] → p ∉ [lx, ly, lw, la, lq, le]) (n_lx_ly : lx ≠ ly) (n_lw_la : lw ≠ la) (n_lw_lq : lw ≠ lq) (n_la_lq : la ≠ lq) {j : Nat} (hj : j < 150) (ih : ∀ (f9 : hM) (lv9 : List (Nat × Value)) (H : Heap) (locs : List Loc) (ls : Array Slot), lawI G xo ez eo bu nw0 na0 nq0 nr0 nw1 na1 nq1 nr1 bs bp bh bf bl bg lx ly lw la lq le lb lh lr lg b (j + 1) f9 lv9 → hW G f9 H → va_S (hFr G) s.heap H locs → lv_has ls 17 lv9 → W p l e room_1 s m #[Value.ref b] below meth c H locs (100 + (j + 1) * 248) (2000 + (j + 1) * 1388) (lw_Z below #[Value.ref b] s) (F0 m 152 ls [])) (ac : Nat) (hac32 : ac < 32) (u z v0 : Int32) {S0 : ES} {S1 : ES} {gw0 : Nat → Int32} {ga0 : Nat → Int32} {gw1 : Nat → Int32} {ga1 : Nat → Int32} {n : Nat} {a : Nat} {cg : Nat} {x : Nat} {sa : Nat → Nat} {pk : Nat → Nat} {fl : Nat → Nat} {gv : Nat → Nat} {gh : Nat → Int32} {gl : Nat → Int32} {f9 : hM} (hC : CXW G f9 xo ez eo bu nw0 na0 nq0 nr0 nw1 na1 nq1 nr1 bs bp bh bf bl bg S0 S1 gw0 ga0 gw1 ga1 n a cg x sa pk fl gv gh gl) (hLX : LX G f9 lx ly lw la lq le S0 S1 gw0 ga0 gw1 ga1) (hLB : LBX G f9 lb lh lr lg n a cg x sa fl gv gh gl) (hInv : INV (100 * j) S0 S1 gw0 ga0 gw1 ga1) (hl0 : S0.2.2.2.2.2.2.2.2.length ≤ 52) (hl1 : S1.2.2.2.2.2.2.2.2.length ≤ 52) (ha60 : a ≤ 60) {H : Heap} {locs : List Loc} {ls : Array Slot} (hw : hW G f9 H) (hS : va_S (hFr G) s.heap H locs) (hl9 : lv_has ls 17 [(16, .int (nI ac)), (14, .int u), (15, .int z), (13, .int v0), (12, .int (nI j)), (0, .ref b), (1, .ref xo), (2, .ref lx), (3, .ref ly), (4, .ref lw), (5, .ref la), (6, .ref lq), (7, .ref le), (8, .ref lb), (9, .ref lh), (10, .ref lr), (11, .ref lg)]) (hact : ac ≠ 22 → S0.2.2.2.2.2.2.2.2.length ≤ 40 ∧ S1.2.2.2.2.2.2.2.2.length ≤ 40) : W p l e room_1 s m #[Value.ref b] below meth c H locs (100 + j * 248) (2000 + j * 1388) (lw_Z below #[Value.ref b] s) (F0 m 260 ls []) := by
  refine lv_iload hx hb dL_law_260 (lv_at hl9 0 rfl) ?_
  refine lv_bipush (v := 24) hx hb dL_law_262 (by decide) ?_
  refine lv_icmp_ge (tgt := 293) hx hb dL_law_264 (by decide) (fun c1 => ?_) (fun c1 => ?_)
  · refine lv_aload_n hx hb dL_law_293 rfl (lv_at hl9 6 rfl) ?_
    refine lv_iload hx hb dL_law_294 (lv_at hl9 0 rfl) ?_
    refine lv_bipush (v := 26) hx hb dL_law_296 (by decide) ?_
    refine lv_icmp_ge (tgt := 305) hx hb dL_law_298 (by decide) (fun c2 => ?_) (fun c2 => ?_)
    · refine lv_iload hx hb dL_law_305 (lv_at hl9 0 rfl) ?_
      refine lv_bipush (v := 26) hx hb dL_law_307 (by decide) ?_
      refine lv_icmp_ne (tgt := 316) hx hb dL_law_309 (by decide) (fun c3 => ?_) (fun c3 => ?_)
      · refine lv_iconst (v := 3) hx hb dL_law_316 (by decide) ?_
        refine lv_iload hx hb dL_law_317 (lv_at hl9 1 rfl) ?_
        refine lv_iload hx hb dL_law_319 (lv_at hl9 2 rfl) ?_
        refine lv_aload hx hb dL_law_321 (lv_at hl9 13 rfl) ?_
        refine lv_aload hx hb dL_law_323 (lv_at hl9 14 rfl) ?_
        refine lv_aload hx hb dL_law_325 (lv_at hl9 15 rfl) ?_
        refine lv_aload hx hb dL_law_327 (lv_at hl9 16 rfl) ?_
        refine hp_S (As := [.ref xo, .int 3, .int u, .int z, .ref lb, .ref lh, .ref lr, .ref lg]) (rest := []) B0 hw hS (c_L_bundles_3 hl G f9 xo ez eo bu nw0 na0 nq0 nr0 nw1 na1 nq1 nr1 bs bp bh bf bl bg S0 S1 gw0 ga0 gw1 ga1 n a cg x sa pk fl gv gh gl hC lb lh lr lg (fun p9 hp9 h9 => hdis p9 hp9 ((sub_cons (List.mem_cons_of_mem _ (List.mem_cons_of_mem _ (List.mem_cons_of_mem _ (List.mem_cons_of_mem _ (List.mem_cons_of_mem _ (List.mem_cons_of_mem _ List.mem_cons_self)))))) (sub_cons (List.mem_cons_of_mem _ (List.mem_cons_of_mem _ (List.mem_cons_of_mem _ (List.mem_cons_of_mem _ (List.mem_cons_of_mem _ (List.mem_cons_of_mem _ (List.mem_cons_of_mem _ List.mem_cons_self))))))) (sub_cons (List.mem_cons_of_mem _ (List.mem_cons_of_mem _ (List.mem_cons_of_mem _ (List.mem_cons_of_mem _ (List.mem_cons_of_mem _ (List.mem_cons_of_mem _ (List.mem_cons_of_mem _ (List.mem_cons_of_mem _ List.mem_cons_self)))))))) (sub_cons (List.mem_cons_of_mem _ (List.mem_cons_of_mem _ (List.mem_cons_of_mem _ (List.mem_cons_of_mem _ (List.mem_cons_of_mem _ (List.mem_cons_of_mem _ (List.mem_cons_of_mem _ (List.mem_cons_of_mem _ (List.mem_cons_of_mem _ List.mem_cons_self))))))))) sub_nil)))) p9 h9)) (fun p9 hp9 => hdos p9 ((sub_cons (List.mem_cons_of_mem _ (List.mem_cons_of_mem _ (List.mem_cons_of_mem _ (List.mem_cons_of_mem _ (List.mem_cons_of_mem _ (List.mem_cons_of_mem _ List.mem_cons_self)))))) (sub_cons (List.mem_cons_of_mem _ (List.mem_cons_of_mem _ (List.mem_cons_of_mem _ (List.mem_cons_of_mem _ (List.mem_cons_of_mem _ (List.mem_cons_of_mem _ (List.mem_cons_of_mem _ List.mem_cons_self))))))) (sub_cons (List.mem_cons_of_mem _ (List.mem_cons_of_mem _ (List.mem_cons_of_mem _ (List.mem_cons_of_mem _ (List.mem_cons_of_mem _ (List.mem_cons_of_mem _ (List.mem_cons_of_mem _ (List.mem_cons_of_mem _ List.mem_cons_self)))))))) (sub_cons (List.mem_cons_of_mem _ (List.mem_cons_of_mem _ (List.mem_cons_of_mem _ (List.mem_cons_of_mem _ (List.mem_cons_of_mem _ (List.mem_cons_of_mem _ (List.mem_cons_of_mem _ (List.mem_cons_of_mem _ (List.mem_cons_of_mem _ List.mem_cons_self))))))))) sub_nil)))) p9 hp9)) hLB ha60 hl0 hl1 u z) mS_L_bundles qM_L_180 rfl rfl hl9.1 (Nat.le_of_ble_eq_true rfl) ⟨⟨Nat.le_of_ble_eq_true rfl, Nat.le_of_ble_eq_true rfl⟩, (by first | omega | (dsimp only; omega) | (show (_ : Nat) ≤ _; simp only [room_1]; omega)), (by first | omega | (dsimp only; omega) | (show (_ : Nat) ≤ _; simp only [room_1]; omega))⟩ dL_law_329 (fun E ce q9 f4 H locs hPX hw hS hce hcv hcl => ?_) (fun v f4 H locs hP hw hS => ?_)
        · exact hPX.elim
        · obtain ⟨ev9, n2, a2, c2, x2, sa2, pk2, fl2, gv2, gh2, gl2, hC2, hLB2, ha2, hk2⟩ := hP
          subst ev9
          refine W.eq (g2 := F0 m 332 ls [.int 1]) rfl ?_
          refine lv_if_eq (tgt := 350) hx hb dL_law_332 (by decide) (fun c9 => absurd c9 (by decide)) (fun _ => ?_)
          refine W.widen (k := 100 + j * 248 + 203) (n := 2000 + j * 1388 + 1118) (by omega) (by omega) ?_
          obtain ⟨i1, i2, i3⟩ := hInv
          exact lt_335 hL hx hb hX hbl hl B0 hbA hdis hdos hlb hbl9 n_lx_ly n_lw_la n_lw_lq n_la_lq hj ih hC2 (hLX.kp hk2 (fun p9 hp9 h9 => (List.mem_append.mp h9).elim (hlb p9 hp9) (hdos p9 ((sub_cons List.mem_cons_self (sub_cons (List.mem_cons_of_mem _ List.mem_cons_self) (sub_cons (List.mem_cons_of_mem _ (List.mem_cons_of_mem _ List.mem_cons_self)) (sub_cons (List.mem_cons_of_mem _ (List.mem_cons_of_mem _ (List.mem_cons_of_mem _ List.mem_cons_self))) (sub_cons (List.mem_cons_of_mem _ (List.mem_cons_of_mem _ (List.mem_cons_of_mem _ (List.mem_cons_of_mem _ List.mem_cons_self)))) (sub_cons (List.mem_cons_of_mem _ (List.mem_cons_of_mem _ (List.mem_cons_of_mem _ (List.mem_cons_of_mem _ (List.mem_cons_of_mem _ List.mem_cons_self))))) sub_nil)))))) p9 hp9)))) hLB2 ⟨i1.mono (by omega), i2.mono (by omega), i3⟩ hl0 hl1 ha2 hw hS (lv_sub hl9 [4, 5, 6, 7, 8, 9, 10, 11, 12, 13, 14, 15, 16] rfl)
      · refine lv_iconst (v := 2) hx hb dL_law_312 (by decide) ?_
        refine lv_goto (tgt := 317) hx hb dL_law_313 (by decide) ?_
        refine lv_iload hx hb dL_law_317 (lv_at hl9 1 rfl) ?_
        refine lv_iload hx hb dL_law_319 (lv_at hl9 2 rfl) ?_
        refine lv_aload hx hb dL_law_321 (lv_at hl9 13 rfl) ?_
        refine lv_aload hx hb dL_law_323 (lv_at hl9 14 rfl) ?_
        refine lv_aload hx hb dL_law_325 (lv_at hl9 15 rfl) ?_
        refine lv_aload hx hb dL_law_327 (lv_at hl9 16 rfl) ?_
        refine hp_S (As := [.ref xo, .int 2, .int u, .int z, .ref lb, .ref lh, .ref lr, .ref lg]) (rest := []) B0 hw hS (c_L_bundles_2 hl G f9 xo ez eo bu nw0 na0 nq0 nr0 nw1 na1 nq1 nr1 bs bp bh bf bl bg S0 S1 gw0 ga0 gw1 ga1 n a cg x sa pk fl gv gh gl hC lb lh lr lg (fun p9 hp9 h9 => hdis p9 hp9 ((sub_cons (List.mem_cons_of_mem _ (List.mem_cons_of_mem _ (List.mem_cons_of_mem _ (List.mem_cons_of_mem _ (List.mem_cons_of_mem _ (List.mem_cons_of_mem _ List.mem_cons_self)))))) (sub_cons (List.mem_cons_of_mem _ (List.mem_cons_of_mem _ (List.mem_cons_of_mem _ (List.mem_cons_of_mem _ (List.mem_cons_of_mem _ (List.mem_cons_of_mem _ (List.mem_cons_of_mem _ List.mem_cons_self))))))) (sub_cons (List.mem_cons_of_mem _ (List.mem_cons_of_mem _ (List.mem_cons_of_mem _ (List.mem_cons_of_mem _ (List.mem_cons_of_mem _ (List.mem_cons_of_mem _ (List.mem_cons_of_mem _ (List.mem_cons_of_mem _ List.mem_cons_self)))))))) (sub_cons (List.mem_cons_of_mem _ (List.mem_cons_of_mem _ (List.mem_cons_of_mem _ (List.mem_cons_of_mem _ (List.mem_cons_of_mem _ (List.mem_cons_of_mem _ (List.mem_cons_of_mem _ (List.mem_cons_of_mem _ (List.mem_cons_of_mem _ List.mem_cons_self))))))))) sub_nil)))) p9 h9)) (fun p9 hp9 => hdos p9 ((sub_cons (List.mem_cons_of_mem _ (List.mem_cons_of_mem _ (List.mem_cons_of_mem _ (List.mem_cons_of_mem _ (List.mem_cons_of_mem _ (List.mem_cons_of_mem _ List.mem_cons_self)))))) (sub_cons (List.mem_cons_of_mem _ (List.mem_cons_of_mem _ (List.mem_cons_of_mem _ (List.mem_cons_of_mem _ (List.mem_cons_of_mem _ (List.mem_cons_of_mem _ (List.mem_cons_of_mem _ List.mem_cons_self))))))) (sub_cons (List.mem_cons_of_mem _ (List.mem_cons_of_mem _ (List.mem_cons_of_mem _ (List.mem_cons_of_mem _ (List.mem_cons_of_mem _ (List.mem_cons_of_mem _ (List.mem_cons_of_mem _ (List.mem_cons_of_mem _ List.mem_cons_self)))))))) (sub_cons (List.mem_cons_of_mem _ (List.mem_cons_of_mem _ (List.mem_cons_of_mem _ (List.mem_cons_of_mem _ (List.mem_cons_of_mem _ (List.mem_cons_of_mem _ (List.mem_cons_of_mem _ (List.mem_cons_of_mem _ (List.mem_cons_of_mem _ List.mem_cons_self))))))))) sub_nil)))) p9 hp9)) hLB ha60 hl0 hl1 u z) mS_L_bundles qM_L_180 rfl rfl hl9.1 (Nat.le_of_ble_eq_true rfl) ⟨⟨Nat.le_of_ble_eq_true rfl, Nat.le_of_ble_eq_true rfl⟩, (by first | omega | (dsimp only; omega) | (show (_ : Nat) ≤ _; simp only [room_1]; omega)), (by first | omega | (dsimp only; omega) | (show (_ : Nat) ≤ _; simp only [room_1]; omega))⟩ dL_law_329 (fun E ce q9 f5 H locs hPX hw hS hce hcv hcl => ?_) (fun v f5 H locs hP hw hS => ?_)
        · exact hPX.elim
        · obtain ⟨ev9, n2, a2, c2, x2, sa2, pk2, fl2, gv2, gh2, gl2, hC2, hLB2, ha2, hk2⟩ := hP
          subst ev9
          refine W.eq (g2 := F0 m 332 ls [.int 1]) rfl ?_
          refine lv_if_eq (tgt := 350) hx hb dL_law_332 (by decide) (fun c9 => absurd c9 (by decide)) (fun _ => ?_)
          refine W.widen (k := 100 + j * 248 + 203) (n := 2000 + j * 1388 + 1118) (by omega) (by omega) ?_
          obtain ⟨i1, i2, i3⟩ := hInv
          exact lt_335 hL hx hb hX hbl hl B0 hbA hdis hdos hlb hbl9 n_lx_ly n_lw_la n_lw_lq n_la_lq hj ih hC2 (hLX.kp hk2 (fun p9 hp9 h9 => (List.mem_append.mp h9).elim (hlb p9 hp9) (hdos p9 ((sub_cons List.mem_cons_self (sub_cons (List.mem_cons_of_mem _ List.mem_cons_self) (sub_cons (List.mem_cons_of_mem _ (List.mem_cons_of_mem _ List.mem_cons_self)) (sub_cons (List.mem_cons_of_mem _ (List.mem_cons_of_mem _ (List.mem_cons_of_mem _ List.mem_cons_self))) (sub_cons (List.mem_cons_of_mem _ (List.mem_cons_of_mem _ (List.mem_cons_of_mem _ (List.mem_cons_of_mem _ List.mem_cons_self)))) (sub_cons (List.mem_cons_of_mem _ (List.mem_cons_of_mem _ (List.mem_cons_of_mem _ (List.mem_cons_of_mem _ (List.mem_cons_of_mem _ List.mem_cons_self))))) sub_nil)))))) p9 hp9)))) hLB2 ⟨i1.mono (by omega), i2.mono (by omega), i3⟩ hl0 hl1 ha2 hw hS (lv_sub hl9 [4, 5, 6, 7, 8, 9, 10, 11, 12, 13, 14, 15, 16] rfl)
    · refine lv_iconst (v := 0) hx hb dL_law_301 (by decide) ?_
      refine lv_goto (tgt := 317) hx hb dL_law_302 (by decide) ?_
      refine lv_iload hx hb dL_law_317 (lv_at hl9 1 rfl) ?_
      refine lv_iload hx hb dL_law_319 (lv_at hl9 2 rfl) ?_
      refine lv_aload hx hb dL_law_321 (lv_at hl9 13 rfl) ?_
      refine lv_aload hx hb dL_law_323 (lv_at hl9 14 rfl) ?_
      refine lv_aload hx hb dL_law_325 (lv_at hl9 15 rfl) ?_
      refine lv_aload hx hb dL_law_327 (lv_at hl9 16 rfl) ?_
      refine hp_S (As := [.ref xo, .int 0, .int u, .int z, .ref lb, .ref lh, .ref lr, .ref lg]) (rest := []) B0 hw hS (c_L_bundles_0 hl G f9 xo ez eo bu nw0 na0 nq0 nr0 nw1 na1 nq1 nr1 bs bp bh bf bl bg S0 S1 gw0 ga0 gw1 ga1 n a cg x sa pk fl gv gh gl hC lb lh lr lg (fun p9 hp9 h9 => hdis p9 hp9 ((sub_cons (List.mem_cons_of_mem _ (List.mem_cons_of_mem _ (List.mem_cons_of_mem _ (List.mem_cons_of_mem _ (List.mem_cons_of_mem _ (List.mem_cons_of_mem _ List.mem_cons_self)))))) (sub_cons (List.mem_cons_of_mem _ (List.mem_cons_of_mem _ (List.mem_cons_of_mem _ (List.mem_cons_of_mem _ (List.mem_cons_of_mem _ (List.mem_cons_of_mem _ (List.mem_cons_of_mem _ List.mem_cons_self))))))) (sub_cons (List.mem_cons_of_mem _ (List.mem_cons_of_mem _ (List.mem_cons_of_mem _ (List.mem_cons_of_mem _ (List.mem_cons_of_mem _ (List.mem_cons_of_mem _ (List.mem_cons_of_mem _ (List.mem_cons_of_mem _ List.mem_cons_self)))))))) (sub_cons (List.mem_cons_of_mem _ (List.mem_cons_of_mem _ (List.mem_cons_of_mem _ (List.mem_cons_of_mem _ (List.mem_cons_of_mem _ (List.mem_cons_of_mem _ (List.mem_cons_of_mem _ (List.mem_cons_of_mem _ (List.mem_cons_of_mem _ List.mem_cons_self))))))))) sub_nil)))) p9 h9)) (fun p9 hp9 => hdos p9 ((sub_cons (List.mem_cons_of_mem _ (List.mem_cons_of_mem _ (List.mem_cons_of_mem _ (List.mem_cons_of_mem _ (List.mem_cons_of_mem _ (List.mem_cons_of_mem _ List.mem_cons_self)))))) (sub_cons (List.mem_cons_of_mem _ (List.mem_cons_of_mem _ (List.mem_cons_of_mem _ (List.mem_cons_of_mem _ (List.mem_cons_of_mem _ (List.mem_cons_of_mem _ (List.mem_cons_of_mem _ List.mem_cons_self))))))) (sub_cons (List.mem_cons_of_mem _ (List.mem_cons_of_mem _ (List.mem_cons_of_mem _ (List.mem_cons_of_mem _ (List.mem_cons_of_mem _ (List.mem_cons_of_mem _ (List.mem_cons_of_mem _ (List.mem_cons_of_mem _ List.mem_cons_self)))))))) (sub_cons (List.mem_cons_of_mem _ (List.mem_cons_of_mem _ (List.mem_cons_of_mem _ (List.mem_cons_of_mem _ (List.mem_cons_of_mem _ (List.mem_cons_of_mem _ (List.mem_cons_of_mem _ (List.mem_cons_of_mem _ (List.mem_cons_of_mem _ List.mem_cons_self))))))))) sub_nil)))) p9 hp9)) hLB ha60 hl0 hl1 u z) mS_L_bundles qM_L_180 rfl rfl hl9.1 (Nat.le_of_ble_eq_true rfl) ⟨⟨Nat.le_of_ble_eq_true rfl, Nat.le_of_ble_eq_true rfl⟩, (by first | omega | (dsimp only; omega) | (show (_ : Nat) ≤ _; simp only [room_1]; omega)), (by first | omega | (dsimp only; omega) | (show (_ : Nat) ≤ _; simp only [room_1]; omega))⟩ dL_law_329 (fun E ce q9 f6 H locs hPX hw hS hce hcv hcl => ?_) (fun v f6 H locs hP hw hS => ?_)
      · exact hPX.elim
      · obtain ⟨ev9, n2, a2, c2, x2, sa2, pk2, fl2, gv2, gh2, gl2, hC2, hLB2, ha2, hk2⟩ := hP
        subst ev9
        refine W.eq (g2 := F0 m 332 ls [.int 1]) rfl ?_
        refine lv_if_eq (tgt := 350) hx hb dL_law_332 (by decide) (fun c9 => absurd c9 (by decide)) (fun _ => ?_)
        refine W.widen (k := 100 + j * 248 + 203) (n := 2000 + j * 1388 + 1118) (by omega) (by omega) ?_
        obtain ⟨i1, i2, i3⟩ := hInv
        exact lt_335 hL hx hb hX hbl hl B0 hbA hdis hdos hlb hbl9 n_lx_ly n_lw_la n_lw_lq n_la_lq hj ih hC2 (hLX.kp hk2 (fun p9 hp9 h9 => (List.mem_append.mp h9).elim (hlb p9 hp9) (hdos p9 ((sub_cons List.mem_cons_self (sub_cons (List.mem_cons_of_mem _ List.mem_cons_self) (sub_cons (List.mem_cons_of_mem _ (List.mem_cons_of_mem _ List.mem_cons_self)) (sub_cons (List.mem_cons_of_mem _ (List.mem_cons_of_mem _ (List.mem_cons_of_mem _ List.mem_cons_self))) (sub_cons (List.mem_cons_of_mem _ (List.mem_cons_of_mem _ (List.mem_cons_of_mem _ (List.mem_cons_of_mem _ List.mem_cons_self)))) (sub_cons (List.mem_cons_of_mem _ (List.mem_cons_of_mem _ (List.mem_cons_of_mem _ (List.mem_cons_of_mem _ (List.mem_cons_of_mem _ List.mem_cons_self))))) sub_nil)))))) p9 hp9)))) hLB2 ⟨i1.mono (by omega), i2.mono (by omega), i3⟩ hl0 hl1 ha2 hw hS (lv_sub hl9 [4, 5, 6, 7, 8, 9, 10, 11, 12, 13, 14, 15, 16] rfl)
  · refine lv_aload_n hx hb dL_law_267 rfl (lv_at hl9 6 rfl) ?_
    refine lv_iload hx hb dL_law_268 (lv_at hl9 0 rfl) ?_
    refine lv_iload hx hb dL_law_270 (lv_at hl9 1 rfl) ?_
    refine lv_iload hx hb dL_law_272 (lv_at hl9 2 rfl) ?_
    refine lv_aload_n hx hb dL_law_274 rfl (lv_at hl9 7 rfl) ?_
    refine lv_aload_n hx hb dL_law_275 rfl (lv_at hl9 8 rfl) ?_
    refine lv_aload hx hb dL_law_276 (lv_at hl9 9 rfl) ?_
    refine lv_aload hx hb dL_law_278 (lv_at hl9 10 rfl) ?_
    refine lv_aload hx hb dL_law_280 (lv_at hl9 11 rfl) ?_
    refine lv_aload hx hb dL_law_282 (lv_at hl9 12 rfl) ?_
    have hac : ac < 24 := Nat.lt_of_not_le (fun h9 => c1 (nI_le h9 (by omega)))
    refine hp_S (As := [.ref xo, .int (nI ac), .int u, .int z, .ref lx, .ref ly, .ref lw, .ref la, .ref lq, .ref le]) (rest := []) B0 hw hS (c_L_links hl G f9 xo ez eo bu nw0 na0 nq0 nr0 nw1 na1 nq1 nr1 bs bp bh bf bl bg S0 S1 gw0 ga0 gw1 ga1 n a cg x sa pk fl gv gh gl hC lx ly lw la lq le (fun p9 hp9 h9 => hdis p9 hp9 ((sub_cons List.mem_cons_self (sub_cons (List.mem_cons_of_mem _ List.mem_cons_self) (sub_cons (List.mem_cons_of_mem _ (List.mem_cons_of_mem _ List.mem_cons_self)) (sub_cons (List.mem_cons_of_mem _ (List.mem_cons_of_mem _ (List.mem_cons_of_mem _ List.mem_cons_self))) (sub_cons (List.mem_cons_of_mem _ (List.mem_cons_of_mem _ (List.mem_cons_of_mem _ (List.mem_cons_of_mem _ List.mem_cons_self)))) (sub_cons (List.mem_cons_of_mem _ (List.mem_cons_of_mem _ (List.mem_cons_of_mem _ (List.mem_cons_of_mem _ (List.mem_cons_of_mem _ List.mem_cons_self))))) sub_nil)))))) p9 h9)) (fun p9 hp9 => hdos p9 ((sub_cons List.mem_cons_self (sub_cons (List.mem_cons_of_mem _ List.mem_cons_self) (sub_cons (List.mem_cons_of_mem _ (List.mem_cons_of_mem _ List.mem_cons_self)) (sub_cons (List.mem_cons_of_mem _ (List.mem_cons_of_mem _ (List.mem_cons_of_mem _ List.mem_cons_self))) (sub_cons (List.mem_cons_of_mem _ (List.mem_cons_of_mem _ (List.mem_cons_of_mem _ (List.mem_cons_of_mem _ List.mem_cons_self)))) (sub_cons (List.mem_cons_of_mem _ (List.mem_cons_of_mem _ (List.mem_cons_of_mem _ (List.mem_cons_of_mem _ (List.mem_cons_of_mem _ List.mem_cons_self))))) sub_nil)))))) p9 hp9)) n_lx_ly n_lw_la n_lw_lq n_la_lq hLX _ hInv (by omega) hl0 hl1 ac hac hact u z) mS_L_links qM_L_176 rfl rfl hl9.1 (Nat.le_of_ble_eq_true rfl) ⟨⟨Nat.le_of_ble_eq_true rfl, Nat.le_of_ble_eq_true rfl⟩, (by first | omega | (dsimp only; omega) | (show (_ : Nat) ≤ _; simp only [room_1]; omega)), (by first | omega | (dsimp only; omega) | (show (_ : Nat) ≤ _; simp only [room_1]; omega))⟩ dL_law_284 (fun E ce q9 f7 H locs hPX hw hS hce hcv hcl => ?_) (fun v f7 H locs hP hw hS => ?_)
    · exact hPX.elim
    · obtain ⟨ev9, S2, S3, w0, a0, w1, a1, hC2, hLX2, hInv2, hl2, hl3, hk2⟩ := hP
      subst ev9
      refine W.eq (g2 := F0 m 287 ls [.int 1]) rfl ?_
      refine lv_if_eq (tgt := 350) hx hb dL_law_287 (by decide) (fun c9 => absurd c9 (by decide)) (fun _ => ?_)
      refine lv_goto (tgt := 335) hx hb dL_law_290 (by decide) ?_
      refine W.widen (k := 100 + j * 248 + 203) (n := 2000 + j * 1388 + 1118) (by omega) (by omega) ?_
      exact lt_335 hL hx hb hX hbl hl B0 hbA hdis hdos hlb hbl9 n_lx_ly n_lw_la n_lw_lq n_la_lq hj ih hC2 hLX2 (hLB.kp hk2 (fun p9 hp9 h9 => (List.mem_append.mp h9).elim (hbl9 p9 hp9) (hdos p9 ((sub_cons (List.mem_cons_of_mem _ (List.mem_cons_of_mem _ (List.mem_cons_of_mem _ (List.mem_cons_of_mem _ (List.mem_cons_of_mem _ (List.mem_cons_of_mem _ List.mem_cons_self)))))) (sub_cons (List.mem_cons_of_mem _ (List.mem_cons_of_mem _ (List.mem_cons_of_mem _ (List.mem_cons_of_mem _ (List.mem_cons_of_mem _ (List.mem_cons_of_mem _ (List.mem_cons_of_mem _ List.mem_cons_self))))))) (sub_cons (List.mem_cons_of_mem _ (List.mem_cons_of_mem _ (List.mem_cons_of_mem _ (List.mem_cons_of_mem _ (List.mem_cons_of_mem _ (List.mem_cons_of_mem _ (List.mem_cons_of_mem _ (List.mem_cons_of_mem _ List.mem_cons_self)))))))) (sub_cons (List.mem_cons_of_mem _ (List.mem_cons_of_mem _ (List.mem_cons_of_mem _ (List.mem_cons_of_mem _ (List.mem_cons_of_mem _ (List.mem_cons_of_mem _ (List.mem_cons_of_mem _ (List.mem_cons_of_mem _ (List.mem_cons_of_mem _ List.mem_cons_self))))))))) sub_nil)))) p9 hp9)))) (by rw [show 100 * (j + 1) = 100 * j + 100 by omega]; exact hInv2) hl2 hl3 ha60 hw hS (lv_sub hl9 [4, 5, 6, 7, 8, 9, 10, 11, 12, 13, 14, 15, 16] rfl)

set_option maxHeartbeats 4000000 in
set_option maxRecDepth 100000 in
theorem law_loop {p : Program} {l : Launch} {e : Env} {s : State} {m : MethodId} {below : List Frame} {meth : Method} {c : Code} {b L : Nat} {xs : Nat → Int32} (hL : L ≤ 260) (hx : p.tables.exec = Jvm.exec) (hb : c.code = code) (hr : meth.sig.returnType = ret) (hlocks : meth.locks = false) (hX : va_X b L xs s s.heap) (hbl : b < s.heap.size) (hl : l.stackTraces = false) {G : hG} (B0 : hB p l s m #[Value.ref b] meth c code 17 RL G) (hbA : ¬ hFr G b) (hFs : ∀ q : Nat, hFr G q → s.heap.size ≤ q) {xo ez eo bu nw0 na0 nq0 nr0 nw1 na1 nq1 nr1 bs bp bh bf bl bg lx ly lw la lq le lb lh lr lg : Nat} (hdis : ∀ p, p ∈ [xo, ez, eo, bu, nw0, na0, nq0, nr0, nw1, na1, nq1, nr1, bs, bp, bh, bf, bl, bg] → p ∉ [lx, ly, lw, la, lq, le, lb, lh, lr, lg]) (hdos : ∀ p, p ∈ [lx, ly, lw, la, lq, le, lb, lh, lr, lg] → p ∉ [xo, ez, eo, bu, nw0, na0, nq0, nr0, nw1, na1, nq1, nr1, bs, bp, bh, bf, bl, bg]) (hlb : ∀ p, p ∈ [lx, ly, lw, la, lq, le] → p ∉ [lb, lh, lr, lg]) (hbl9 : ∀ p, p ∈ [lb, lh, lr, lg] → p ∉ [lx, ly, lw, la, lq, le]) (n_lx_ly : lx ≠ ly) (n_lw_la : lw ≠ la) (n_lw_lq : lw ≠ lq) (n_la_lq : la ≠ lq) {S0 : ES} {S1 : ES} {gw0 : Nat → Int32} {ga0 : Nat → Int32} {gw1 : Nat → Int32} {ga1 : Nat → Int32} {n : Nat} {a : Nat} {cg : Nat} {x : Nat} {sa : Nat → Nat} {pk : Nat → Nat} {fl : Nat → Nat} {gv : Nat → Nat} {gh : Nat → Int32} {gl : Nat → Int32} {f9 : hM} (hC : CXW G f9 xo ez eo bu nw0 na0 nq0 nr0 nw1 na1 nq1 nr1 bs bp bh bf bl bg S0 S1 gw0 ga0 gw1 ga1 n a cg x sa pk fl gv gh gl) (hLX : LX G f9 lx ly lw la lq le S0 S1 gw0 ga0 gw1 ga1) (hLB : LBX G f9 lb lh lr lg n a cg x sa fl gv gh gl) (hInv : INV (100 * 0) S0 S1 gw0 ga0 gw1 ga1) (hl0 : S0.2.2.2.2.2.2.2.2.length ≤ 52) (hl1 : S1.2.2.2.2.2.2.2.2.length ≤ 52) (ha60 : a ≤ 60) {H : Heap} {locs : List Loc} {ls : Array Slot} (hw : hW G f9 H) (hS : va_S (hFr G) s.heap H locs) (hl9 : lv_has ls 17 [(12, .int (nI 0)), (0, .ref b), (1, .ref xo), (2, .ref lx), (3, .ref ly), (4, .ref lw), (5, .ref la), (6, .ref lq), (7, .ref le), (8, .ref lb), (9, .ref lh), (10, .ref lr), (11, .ref lg)]) : W p l e room_1 s m #[Value.ref b] below meth c H locs (100) (2000) (lw_Z below #[Value.ref b] s) (F0 m 152 ls []) := by
  refine hp_cs (c2 := 100 + 0 * 248) (s2 := 2000 + 0 * 1388) (by rfl) (by rfl) ?_
  refine hp_forC (nL := 17) (pc := 152) (lawI G xo ez eo bu nw0 na0 nq0 nr0 nw1 na1 nq1 nr1 bs bp bh bf bl bg lx ly lw la lq le lb lh lr lg b) 150 100 2000 248 1388 (fun j f9 lv9 H locs ls hj hI hw hS hl9 ih => ?_) (fun f9 lv9 H locs ls hI hw hS hl9 => ?_) 150 0 (Nat.zero_add 150) f9 _ _ _ ls ⟨_, _, _, _, _, _, _, _, _, _, _, _, _, _, _, _, hC, hLX, hLB, hInv, hl0, hl1, ha60, rfl⟩ hw hS hl9
  · obtain ⟨S0, S1, gw0, ga0, gw1, ga1, n, a, cg, x, sa, pk, fl, gv, gh, gl, hC, hLX, hLB, hInv, hl0, hl1, ha60, el9⟩ := hI
    rw [el9] at hl9
    have k_le := hLX.2.2.2.2.2
    refine lv_iload hx hb dL_law_152 (lv_at hl9 0 rfl) ?_
    refine lv_sipush (v := 150) hx hb dL_law_154 (by decide) ?_
    refine lv_icmp_ge (tgt := 358) hx hb dL_law_157 (by decide) (fun c9 => absurd c9 (show ¬ nI 150 ≤ nI j from nI_ge hj (by omega))) (fun _ => ?_)
    refine lv_aload_n hx hb dL_law_160 rfl (lv_at hl9 1 rfl) ?_
    refine lv_iconst (v := 3) hx hb dL_law_161 (by decide) ?_
    refine lv_iload hx hb dL_law_162 (lv_at hl9 0 rfl) ?_
    refine lv_imul hx hb dL_law_164 ?_
    refine hp_c (v := (nI (3 * j))) (pk_mul 3 j) ?_
    refine hp_cell (rest := []) B0 hl hw hS hX hbl hbA (by omega) (by omega) qM_L_172 hl9.1 (Nat.le_of_ble_eq_true rfl) ⟨⟨Nat.le_of_ble_eq_true rfl, Nat.le_of_ble_eq_true rfl⟩, (by first | omega | (dsimp only; omega) | (show (_ : Nat) ≤ _; simp only [room_1]; omega)), (by first | omega | (dsimp only; omega) | (show (_ : Nat) ≤ _; simp only [room_1]; omega))⟩ dL_law_165 (fun w1 H locs hw hS => ?_)
    refine lv_istore (lv' := [(13, .int w1), (12, .int (nI j)), (0, .ref b), (1, .ref xo), (2, .ref lx), (3, .ref ly), (4, .ref lw), (5, .ref la), (6, .ref lq), (7, .ref le), (8, .ref lb), (9, .ref lh), (10, .ref lr), (11, .ref lg)]) hx hb dL_law_168 hl9 (by decide) rfl (fun ls hl9 => ?_)
    refine lv_aload_n hx hb dL_law_170 rfl (lv_at hl9 2 rfl) ?_
    refine lv_iconst (v := 3) hx hb dL_law_171 (by decide) ?_
    refine lv_iload hx hb dL_law_172 (lv_at hl9 1 rfl) ?_
    refine lv_imul hx hb dL_law_174 ?_
    refine hp_c (v := (nI (3 * j))) (pk_mul 3 j) ?_
    refine lv_iconst (v := 1) hx hb dL_law_175 (by decide) ?_
    refine lv_iadd hx hb dL_law_176 ?_
    refine hp_c (v := (nI (3 * j + 1))) (nI_add (3 * j) 1) ?_
    refine hp_cell (rest := []) B0 hl hw hS hX hbl hbA (by omega) (by omega) qM_L_172 hl9.1 (Nat.le_of_ble_eq_true rfl) ⟨⟨Nat.le_of_ble_eq_true rfl, Nat.le_of_ble_eq_true rfl⟩, (by first | omega | (dsimp only; omega) | (show (_ : Nat) ≤ _; simp only [room_1]; omega)), (by first | omega | (dsimp only; omega) | (show (_ : Nat) ≤ _; simp only [room_1]; omega))⟩ dL_law_177 (fun w2 H locs hw hS => ?_)
    refine lv_istore (lv' := [(14, .int w2), (13, .int w1), (12, .int (nI j)), (0, .ref b), (1, .ref xo), (2, .ref lx), (3, .ref ly), (4, .ref lw), (5, .ref la), (6, .ref lq), (7, .ref le), (8, .ref lb), (9, .ref lh), (10, .ref lr), (11, .ref lg)]) hx hb dL_law_180 hl9 (by decide) rfl (fun ls hl9 => ?_)
    refine lv_aload_n hx hb dL_law_182 rfl (lv_at hl9 3 rfl) ?_
    refine lv_iconst (v := 3) hx hb dL_law_183 (by decide) ?_
    refine lv_iload hx hb dL_law_184 (lv_at hl9 2 rfl) ?_
    refine lv_imul hx hb dL_law_186 ?_
    refine hp_c (v := (nI (3 * j))) (pk_mul 3 j) ?_
    refine lv_iconst (v := 2) hx hb dL_law_187 (by decide) ?_
    refine lv_iadd hx hb dL_law_188 ?_
    refine hp_c (v := (nI (3 * j + 2))) (nI_add (3 * j) 2) ?_
    refine hp_cell (rest := []) B0 hl hw hS hX hbl hbA (by omega) (by omega) qM_L_172 hl9.1 (Nat.le_of_ble_eq_true rfl) ⟨⟨Nat.le_of_ble_eq_true rfl, Nat.le_of_ble_eq_true rfl⟩, (by first | omega | (dsimp only; omega) | (show (_ : Nat) ≤ _; simp only [room_1]; omega)), (by first | omega | (dsimp only; omega) | (show (_ : Nat) ≤ _; simp only [room_1]; omega))⟩ dL_law_189 (fun w3 H locs hw hS => ?_)
    refine lv_istore (lv' := [(15, .int w3), (14, .int w2), (13, .int w1), (12, .int (nI j)), (0, .ref b), (1, .ref xo), (2, .ref lx), (3, .ref ly), (4, .ref lw), (5, .ref la), (6, .ref lq), (7, .ref le), (8, .ref lb), (9, .ref lh), (10, .ref lr), (11, .ref lg)]) hx hb dL_law_192 hl9 (by decide) rfl (fun ls hl9 => ?_)
    refine lv_iload hx hb dL_law_194 (lv_at hl9 3 rfl) ?_
    refine lv_bipush (v := 8) hx hb dL_law_196 (by decide) ?_
    refine lv_icmp_ge (tgt := 210) hx hb dL_law_198 (by decide) (fun c4 => ?_) (fun c4 => ?_)
    · refine lv_iload hx hb dL_law_210 (lv_at hl9 2 rfl) ?_
      refine lv_bipush (v := 32) hx hb dL_law_212 (by decide) ?_
      refine hp_S (As := [.int w1, .int 32]) (rest := []) B0 hw hS (c_L_low hl G f9 w1 32 (by omega) (by omega)) mS_L_low qM_L_94 rfl rfl hl9.1 (Nat.le_of_ble_eq_true rfl) ⟨⟨Nat.le_of_ble_eq_true rfl, Nat.le_of_ble_eq_true rfl⟩, (by first | omega | (dsimp only; omega) | (show (_ : Nat) ≤ _; simp only [room_1]; omega)), (by first | omega | (dsimp only; omega) | (show (_ : Nat) ≤ _; simp only [room_1]; omega))⟩ dL_law_214 (fun E ce q9 f5 H locs hPX hw hS hce hcv hcl => ?_) (fun v f5 H locs hP hw hS => ?_)
      · exact hPX.elim
      · obtain ⟨ef9, j6, hj7, ev9⟩ := hP
        rw [ef9] at hw
        subst ev9
        refine W.eq (g2 := F0 m 217 ls [.int (nI j6)]) rfl ?_
        refine lv_istore (lv' := [(16, .int (nI j6)), (15, .int w3), (14, .int w2), (13, .int w1), (12, .int (nI j)), (0, .ref b), (1, .ref xo), (2, .ref lx), (3, .ref ly), (4, .ref lw), (5, .ref la), (6, .ref lq), (7, .ref le), (8, .ref lb), (9, .ref lh), (10, .ref lr), (11, .ref lg)]) hx hb dL_law_217 hl9 (by decide) rfl (fun ls hl9 => ?_)
        refine lv_aload hx hb dL_law_219 (lv_at hl9 12 rfl) ?_
        refine lv_bipush (v := 7) hx hb dL_law_221 (by decide) ?_
        refine hp_iald B0 hw k_le (by unfold vp_in; decide) dL_law_223 ?_
        refine hp_c (v := (nI S0.2.2.2.2.2.2.2.2.length)) (rfl) ?_
        refine lv_bipush (v := 40) hx hb dL_law_224 (by decide) ?_
        refine lv_icmp_gt (tgt := 239) hx hb dL_law_226 (by decide) (fun c8 => ?_) (fun c8 => ?_)
        · refine lv_bipush (v := 22) hx hb dL_law_239 (by decide) ?_
          refine lv_istore (lv' := [(16, .int 22), (15, .int w3), (14, .int w2), (13, .int w1), (12, .int (nI j)), (0, .ref b), (1, .ref xo), (2, .ref lx), (3, .ref ly), (4, .ref lw), (5, .ref la), (6, .ref lq), (7, .ref le), (8, .ref lb), (9, .ref lh), (10, .ref lr), (11, .ref lg)]) hx hb dL_law_241 hl9 (by decide) rfl (fun ls hl9 => ?_)
          refine lv_aload hx hb dL_law_243 (lv_at hl9 12 rfl) ?_
          refine lv_bipush (v := 7) hx hb dL_law_245 (by decide) ?_
          refine hp_iald B0 hw k_le (by unfold vp_in; decide) dL_law_247 ?_
          refine hp_c (v := (nI S0.2.2.2.2.2.2.2.2.length)) (rfl) ?_
          refine lv_bipush (v := 40) hx hb dL_law_248 (by decide) ?_
          refine lv_icmp_le (tgt := 257) hx hb dL_law_250 (by decide) (fun c9 => ?_) (fun c9 => ?_)
          · refine lv_iconst (v := 1) hx hb dL_law_257 (by decide) ?_
            refine lv_istore (lv' := [(14, .int 1), (16, .int 22), (15, .int w3), (13, .int w1), (12, .int (nI j)), (0, .ref b), (1, .ref xo), (2, .ref lx), (3, .ref ly), (4, .ref lw), (5, .ref la), (6, .ref lq), (7, .ref le), (8, .ref lb), (9, .ref lh), (10, .ref lr), (11, .ref lg)]) hx hb dL_law_258 hl9 (by decide) rfl (fun ls hl9 => ?_)
            exact lt_260 hL hx hb hX hbl hl B0 hbA hdis hdos hlb hbl9 n_lx_ly n_lw_la n_lw_lq n_la_lq hj ih 22 (by omega) 1 w3 w1 hC hLX hLB hInv hl0 hl1 ha60 hw hS (lv_sub hl9 [1, 0, 2, 3, 4, 5, 6, 7, 8, 9, 10, 11, 12, 13, 14, 15, 16] rfl) (fun h9 => absurd rfl h9)
          · refine lv_iconst (v := 0) hx hb dL_law_253 (by decide) ?_
            refine lv_goto (tgt := 258) hx hb dL_law_254 (by decide) ?_
            refine lv_istore (lv' := [(14, .int 0), (16, .int 22), (15, .int w3), (13, .int w1), (12, .int (nI j)), (0, .ref b), (1, .ref xo), (2, .ref lx), (3, .ref ly), (4, .ref lw), (5, .ref la), (6, .ref lq), (7, .ref le), (8, .ref lb), (9, .ref lh), (10, .ref lr), (11, .ref lg)]) hx hb dL_law_258 hl9 (by decide) rfl (fun ls hl9 => ?_)
            exact lt_260 hL hx hb hX hbl hl B0 hbA hdis hdos hlb hbl9 n_lx_ly n_lw_la n_lw_lq n_la_lq hj ih 22 (by omega) 0 w3 w1 hC hLX hLB hInv hl0 hl1 ha60 hw hS (lv_sub hl9 [1, 0, 2, 3, 4, 5, 6, 7, 8, 9, 10, 11, 12, 13, 14, 15, 16] rfl) (fun h9 => absurd rfl h9)
        · refine lv_aload hx hb dL_law_229 (lv_at hl9 12 rfl) ?_
          refine lv_bipush (v := 15) hx hb dL_law_231 (by decide) ?_
          refine hp_iald B0 hw k_le (by unfold vp_in; decide) dL_law_233 ?_
          refine hp_c (v := (nI S1.2.2.2.2.2.2.2.2.length)) (rfl) ?_
          refine lv_bipush (v := 40) hx hb dL_law_234 (by decide) ?_
          refine lv_icmp_le (tgt := 260) hx hb dL_law_236 (by decide) (fun c10 => ?_) (fun c10 => ?_)
          · exact lt_260 hL hx hb hX hbl hl B0 hbA hdis hdos hlb hbl9 n_lx_ly n_lw_la n_lw_lq n_la_lq hj ih j6 (by omega) w2 w3 w1 hC hLX hLB hInv hl0 hl1 ha60 hw hS (lv_sub hl9 [0, 2, 1, 3, 4, 5, 6, 7, 8, 9, 10, 11, 12, 13, 14, 15, 16] rfl) (fun _ => ⟨(by have h9 := Int32.not_lt.mp c8; exact (nI_leI (show S0.2.2.2.2.2.2.2.2.length < 2 ^ 31 by omega) (show 40 < 2 ^ 31 by omega)).mp h9), (by have h9 := (nI_leI (show S1.2.2.2.2.2.2.2.2.length < 2 ^ 31 by omega) (show 40 < 2 ^ 31 by omega)).mp c10; exact h9)⟩)
          · refine lv_bipush (v := 22) hx hb dL_law_239 (by decide) ?_
            refine lv_istore (lv' := [(16, .int 22), (15, .int w3), (14, .int w2), (13, .int w1), (12, .int (nI j)), (0, .ref b), (1, .ref xo), (2, .ref lx), (3, .ref ly), (4, .ref lw), (5, .ref la), (6, .ref lq), (7, .ref le), (8, .ref lb), (9, .ref lh), (10, .ref lr), (11, .ref lg)]) hx hb dL_law_241 hl9 (by decide) rfl (fun ls hl9 => ?_)
            refine lv_aload hx hb dL_law_243 (lv_at hl9 12 rfl) ?_
            refine lv_bipush (v := 7) hx hb dL_law_245 (by decide) ?_
            refine hp_iald B0 hw k_le (by unfold vp_in; decide) dL_law_247 ?_
            refine hp_c (v := (nI S0.2.2.2.2.2.2.2.2.length)) (rfl) ?_
            refine lv_bipush (v := 40) hx hb dL_law_248 (by decide) ?_
            refine lv_icmp_le (tgt := 257) hx hb dL_law_250 (by decide) (fun c11 => ?_) (fun c11 => ?_)
            · refine lv_iconst (v := 1) hx hb dL_law_257 (by decide) ?_
              refine lv_istore (lv' := [(14, .int 1), (16, .int 22), (15, .int w3), (13, .int w1), (12, .int (nI j)), (0, .ref b), (1, .ref xo), (2, .ref lx), (3, .ref ly), (4, .ref lw), (5, .ref la), (6, .ref lq), (7, .ref le), (8, .ref lb), (9, .ref lh), (10, .ref lr), (11, .ref lg)]) hx hb dL_law_258 hl9 (by decide) rfl (fun ls hl9 => ?_)
              exact lt_260 hL hx hb hX hbl hl B0 hbA hdis hdos hlb hbl9 n_lx_ly n_lw_la n_lw_lq n_la_lq hj ih 22 (by omega) 1 w3 w1 hC hLX hLB hInv hl0 hl1 ha60 hw hS (lv_sub hl9 [1, 0, 2, 3, 4, 5, 6, 7, 8, 9, 10, 11, 12, 13, 14, 15, 16] rfl) (fun h9 => absurd rfl h9)
            · refine lv_iconst (v := 0) hx hb dL_law_253 (by decide) ?_
              refine lv_goto (tgt := 258) hx hb dL_law_254 (by decide) ?_
              refine lv_istore (lv' := [(14, .int 0), (16, .int 22), (15, .int w3), (13, .int w1), (12, .int (nI j)), (0, .ref b), (1, .ref xo), (2, .ref lx), (3, .ref ly), (4, .ref lw), (5, .ref la), (6, .ref lq), (7, .ref le), (8, .ref lb), (9, .ref lh), (10, .ref lr), (11, .ref lg)]) hx hb dL_law_258 hl9 (by decide) rfl (fun ls hl9 => ?_)
              exact lt_260 hL hx hb hX hbl hl B0 hbA hdis hdos hlb hbl9 n_lx_ly n_lw_la n_lw_lq n_la_lq hj ih 22 (by omega) 0 w3 w1 hC hLX hLB hInv hl0 hl1 ha60 hw hS (lv_sub hl9 [1, 0, 2, 3, 4, 5, 6, 7, 8, 9, 10, 11, 12, 13, 14, 15, 16] rfl) (fun h9 => absurd rfl h9)
    · refine lv_iload hx hb dL_law_201 (lv_at hl9 3 rfl) ?_
      refine lv_iconst (v := 2) hx hb dL_law_203 (by decide) ?_
      refine lv_irem hx hb dL_law_204 (by decide) ?_
      refine hp_c (v := (nI (j % 2))) (pk_rem (d := 2) (by omega) (by omega) (by omega)) ?_
      refine lv_iconst (v := 4) hx hb dL_law_205 (by decide) ?_
      refine lv_imul hx hb dL_law_206 ?_
      refine hp_c (v := (nI (j % 2 * 4))) (pk_mul (j % 2) 4) ?_
      refine lv_goto (tgt := 217) hx hb dL_law_207 (by decide) ?_
      refine lv_istore (lv' := [(16, .int (nI (j % 2 * 4))), (15, .int w3), (14, .int w2), (13, .int w1), (12, .int (nI j)), (0, .ref b), (1, .ref xo), (2, .ref lx), (3, .ref ly), (4, .ref lw), (5, .ref la), (6, .ref lq), (7, .ref le), (8, .ref lb), (9, .ref lh), (10, .ref lr), (11, .ref lg)]) hx hb dL_law_217 hl9 (by decide) rfl (fun ls hl9 => ?_)
      refine lv_aload hx hb dL_law_219 (lv_at hl9 12 rfl) ?_
      refine lv_bipush (v := 7) hx hb dL_law_221 (by decide) ?_
      refine hp_iald B0 hw k_le (by unfold vp_in; decide) dL_law_223 ?_
      refine hp_c (v := (nI S0.2.2.2.2.2.2.2.2.length)) (rfl) ?_
      refine lv_bipush (v := 40) hx hb dL_law_224 (by decide) ?_
      refine lv_icmp_gt (tgt := 239) hx hb dL_law_226 (by decide) (fun c12 => ?_) (fun c12 => ?_)
      · refine lv_bipush (v := 22) hx hb dL_law_239 (by decide) ?_
        refine lv_istore (lv' := [(16, .int 22), (15, .int w3), (14, .int w2), (13, .int w1), (12, .int (nI j)), (0, .ref b), (1, .ref xo), (2, .ref lx), (3, .ref ly), (4, .ref lw), (5, .ref la), (6, .ref lq), (7, .ref le), (8, .ref lb), (9, .ref lh), (10, .ref lr), (11, .ref lg)]) hx hb dL_law_241 hl9 (by decide) rfl (fun ls hl9 => ?_)
        refine lv_aload hx hb dL_law_243 (lv_at hl9 12 rfl) ?_
        refine lv_bipush (v := 7) hx hb dL_law_245 (by decide) ?_
        refine hp_iald B0 hw k_le (by unfold vp_in; decide) dL_law_247 ?_
        refine hp_c (v := (nI S0.2.2.2.2.2.2.2.2.length)) (rfl) ?_
        refine lv_bipush (v := 40) hx hb dL_law_248 (by decide) ?_
        refine lv_icmp_le (tgt := 257) hx hb dL_law_250 (by decide) (fun c13 => ?_) (fun c13 => ?_)
        · refine lv_iconst (v := 1) hx hb dL_law_257 (by decide) ?_
          refine lv_istore (lv' := [(14, .int 1), (16, .int 22), (15, .int w3), (13, .int w1), (12, .int (nI j)), (0, .ref b), (1, .ref xo), (2, .ref lx), (3, .ref ly), (4, .ref lw), (5, .ref la), (6, .ref lq), (7, .ref le), (8, .ref lb), (9, .ref lh), (10, .ref lr), (11, .ref lg)]) hx hb dL_law_258 hl9 (by decide) rfl (fun ls hl9 => ?_)
          exact lt_260 hL hx hb hX hbl hl B0 hbA hdis hdos hlb hbl9 n_lx_ly n_lw_la n_lw_lq n_la_lq hj ih 22 (by omega) 1 w3 w1 hC hLX hLB hInv hl0 hl1 ha60 hw hS (lv_sub hl9 [1, 0, 2, 3, 4, 5, 6, 7, 8, 9, 10, 11, 12, 13, 14, 15, 16] rfl) (fun h9 => absurd rfl h9)
        · refine lv_iconst (v := 0) hx hb dL_law_253 (by decide) ?_
          refine lv_goto (tgt := 258) hx hb dL_law_254 (by decide) ?_
          refine lv_istore (lv' := [(14, .int 0), (16, .int 22), (15, .int w3), (13, .int w1), (12, .int (nI j)), (0, .ref b), (1, .ref xo), (2, .ref lx), (3, .ref ly), (4, .ref lw), (5, .ref la), (6, .ref lq), (7, .ref le), (8, .ref lb), (9, .ref lh), (10, .ref lr), (11, .ref lg)]) hx hb dL_law_258 hl9 (by decide) rfl (fun ls hl9 => ?_)
          exact lt_260 hL hx hb hX hbl hl B0 hbA hdis hdos hlb hbl9 n_lx_ly n_lw_la n_lw_lq n_la_lq hj ih 22 (by omega) 0 w3 w1 hC hLX hLB hInv hl0 hl1 ha60 hw hS (lv_sub hl9 [1, 0, 2, 3, 4, 5, 6, 7, 8, 9, 10, 11, 12, 13, 14, 15, 16] rfl) (fun h9 => absurd rfl h9)
      · refine lv_aload hx hb dL_law_229 (lv_at hl9 12 rfl) ?_
        refine lv_bipush (v := 15) hx hb dL_law_231 (by decide) ?_
        refine hp_iald B0 hw k_le (by unfold vp_in; decide) dL_law_233 ?_
        refine hp_c (v := (nI S1.2.2.2.2.2.2.2.2.length)) (rfl) ?_
        refine lv_bipush (v := 40) hx hb dL_law_234 (by decide) ?_
        refine lv_icmp_le (tgt := 260) hx hb dL_law_236 (by decide) (fun c14 => ?_) (fun c14 => ?_)
        · exact lt_260 hL hx hb hX hbl hl B0 hbA hdis hdos hlb hbl9 n_lx_ly n_lw_la n_lw_lq n_la_lq hj ih (j % 2 * 4) (by omega) w2 w3 w1 hC hLX hLB hInv hl0 hl1 ha60 hw hS (lv_sub hl9 [0, 2, 1, 3, 4, 5, 6, 7, 8, 9, 10, 11, 12, 13, 14, 15, 16] rfl) (fun _ => ⟨(by have h9 := Int32.not_lt.mp c12; exact (nI_leI (show S0.2.2.2.2.2.2.2.2.length < 2 ^ 31 by omega) (show 40 < 2 ^ 31 by omega)).mp h9), (by have h9 := (nI_leI (show S1.2.2.2.2.2.2.2.2.length < 2 ^ 31 by omega) (show 40 < 2 ^ 31 by omega)).mp c14; exact h9)⟩)
        · refine lv_bipush (v := 22) hx hb dL_law_239 (by decide) ?_
          refine lv_istore (lv' := [(16, .int 22), (15, .int w3), (14, .int w2), (13, .int w1), (12, .int (nI j)), (0, .ref b), (1, .ref xo), (2, .ref lx), (3, .ref ly), (4, .ref lw), (5, .ref la), (6, .ref lq), (7, .ref le), (8, .ref lb), (9, .ref lh), (10, .ref lr), (11, .ref lg)]) hx hb dL_law_241 hl9 (by decide) rfl (fun ls hl9 => ?_)
          refine lv_aload hx hb dL_law_243 (lv_at hl9 12 rfl) ?_
          refine lv_bipush (v := 7) hx hb dL_law_245 (by decide) ?_
          refine hp_iald B0 hw k_le (by unfold vp_in; decide) dL_law_247 ?_
          refine hp_c (v := (nI S0.2.2.2.2.2.2.2.2.length)) (rfl) ?_
          refine lv_bipush (v := 40) hx hb dL_law_248 (by decide) ?_
          refine lv_icmp_le (tgt := 257) hx hb dL_law_250 (by decide) (fun c15 => ?_) (fun c15 => ?_)
          · refine lv_iconst (v := 1) hx hb dL_law_257 (by decide) ?_
            refine lv_istore (lv' := [(14, .int 1), (16, .int 22), (15, .int w3), (13, .int w1), (12, .int (nI j)), (0, .ref b), (1, .ref xo), (2, .ref lx), (3, .ref ly), (4, .ref lw), (5, .ref la), (6, .ref lq), (7, .ref le), (8, .ref lb), (9, .ref lh), (10, .ref lr), (11, .ref lg)]) hx hb dL_law_258 hl9 (by decide) rfl (fun ls hl9 => ?_)
            exact lt_260 hL hx hb hX hbl hl B0 hbA hdis hdos hlb hbl9 n_lx_ly n_lw_la n_lw_lq n_la_lq hj ih 22 (by omega) 1 w3 w1 hC hLX hLB hInv hl0 hl1 ha60 hw hS (lv_sub hl9 [1, 0, 2, 3, 4, 5, 6, 7, 8, 9, 10, 11, 12, 13, 14, 15, 16] rfl) (fun h9 => absurd rfl h9)
          · refine lv_iconst (v := 0) hx hb dL_law_253 (by decide) ?_
            refine lv_goto (tgt := 258) hx hb dL_law_254 (by decide) ?_
            refine lv_istore (lv' := [(14, .int 0), (16, .int 22), (15, .int w3), (13, .int w1), (12, .int (nI j)), (0, .ref b), (1, .ref xo), (2, .ref lx), (3, .ref ly), (4, .ref lw), (5, .ref la), (6, .ref lq), (7, .ref le), (8, .ref lb), (9, .ref lh), (10, .ref lr), (11, .ref lg)]) hx hb dL_law_258 hl9 (by decide) rfl (fun ls hl9 => ?_)
            exact lt_260 hL hx hb hX hbl hl B0 hbA hdis hdos hlb hbl9 n_lx_ly n_lw_la n_lw_lq n_la_lq hj ih 22 (by omega) 0 w3 w1 hC hLX hLB hInv hl0 hl1 ha60 hw hS (lv_sub hl9 [1, 0, 2, 3, 4, 5, 6, 7, 8, 9, 10, 11, 12, 13, 14, 15, 16] rfl) (fun h9 => absurd rfl h9)
  · obtain ⟨S0, S1, gw0, ga0, gw1, ga1, n, a, cg, x, sa, pk, fl, gv, gh, gl, hC, hLX, hLB, hInv, hl0, hl1, ha60, el9⟩ := hI
    rw [el9] at hl9
    refine lv_iload hx hb dL_law_152 (lv_at hl9 0 rfl) ?_
    refine lv_sipush (v := 150) hx hb dL_law_154 (by decide) ?_
    refine lv_icmp_ge (tgt := 358) hx hb dL_law_157 (by decide) (fun _ => ?_) (fun c9 => absurd (by decide) c9)
    refine lv_iconst (v := 1) hx hb dL_law_358 (by decide) ?_
    refine va_forget (fun q hq => hFs _ (hS.2.2 q hq)) ?_
    refine W.widen (k := 705865) (n := 6983874) (by omega) (by omega) ?_
    exact lw_ret hx hb hr hlocks dL_law_359

