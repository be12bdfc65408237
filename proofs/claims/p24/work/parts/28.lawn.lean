theorem hW_0 {G : hG} {H : Heap} : hW G (fun _ => none) H := ⟨[], fun _ => .inr (0, []), (fun a e h => nomatch h), (fun k q h => by simp [va_pl] at h), ⟨fun i j p q h => by simp [va_pl] at h, fun k q h => by simp [va_pl] at h⟩⟩
theorem arr_of {ty : FieldType} {args : Array Value} {s : State} (h : (Cond.arrayClass ty).before args s = true) (hp : ∀ C, ty ≠ .object C) : ∃ cA, ArrOfT s cA ty ∧ va_RA s cA ty := by
  obtain ⟨c, k, comp, h1, h2, h3⟩ := Cond.arrayClass_spec h
  refine ⟨c, fun n z => ⟨fun k h => (by cases h), k, h2, comp, h3⟩, ?_⟩
  cases ty <;> first | exact absurd rfl (hp _) | exact h1
theorem hstr_all : hStr.all (fun q => decide (Cond.exactly (.string q.1 q.2.1) "java/lang/String" ∈ flatC (Jvm.Cond.and given_1 narrow_1))) = true := by decide +kernel
theorem hnc_all : hNcs.all (fun q => decide (Cond.not (.castable q.1 q.2) ∈ flatC (Jvm.Cond.and given_1 narrow_1))) = true := by decide +kernel
theorem hisU : Cond.isRef (.static Bundle.tN "UNASSIGNED_STACK" Bundle.steD) ∈ flatC (Jvm.Cond.and given_1 narrow_1) := by decide +kernel
theorem hisN : Cond.isRef (.static Bundle.tN "SUPPRESSED_SENTINEL" Bundle.listD) ∈ flatC (Jvm.Cond.and given_1 narrow_1) := by decide +kernel
theorem hlyU : Cond.laysStatic Bundle.tN "UNASSIGNED_STACK" Bundle.steD ∈ lw_tbl := List.mem_of_getElem? (i := 210) (by decide +kernel)
theorem hlyN : Cond.laysStatic Bundle.tN "SUPPRESSED_SENTINEL" Bundle.listD ∈ lw_tbl := List.mem_of_getElem? (i := 212) (by decide +kernel)
set_option maxHeartbeats 4000000 in
theorem hK_0 {b : Nat} {s : State} (hts : ∀ w ∈ lw_tbl, w.before #[Value.ref b] s = true) (hgv : (Jvm.Cond.and given_1 narrow_1).before #[Value.ref b] s = true) : ∃ (dC : Nat → ClassId) (dI : Nat → Nat → Nat) (c1 c2 c3 : ClassId), hK ((dC, dI), (c1, c2, c3), s.heap.size) s := by
  have hs := flat_of_before _ hgv
  have htg : ∀ w ∈ gW, w.before #[Value.ref b] s = true := fun w h => hts w (List.mem_filter.mp h).1
  obtain ⟨c0, i0, hn0⟩ := u_known (C := RX0) (T := TX0) (N := 9) (n := 9) htg in_X0 (htg _ qI_X0)
  obtain ⟨c1, i1, hn1⟩ := u_known (C := RX1) (T := TX1) (N := 11) (n := 11) htg in_X1 (htg _ qI_X1)
  obtain ⟨c2, i2, hn2⟩ := u_known (C := RX2) (T := TX2) (N := 5) (n := 5) htg in_X2 (htg _ qI_X2)
  obtain ⟨c3, i3, hn3⟩ := u_known (C := RX3) (T := TX3) (N := 3) (n := 3) htg in_X3 (htg _ qI_X3)
  obtain ⟨c4, i4, hn4⟩ := u_known (C := RX4) (T := TX4) (N := 3) (n := 3) htg in_X4 (htg _ qI_X4)
  obtain ⟨cI1, hI1, hI2⟩ := arr_of (htg _ qA_int) (fun C h => by cases h)
  obtain ⟨cZ1, hZ1, hZ2⟩ := arr_of (htg _ qA_boolean) (fun C h => by cases h)
  obtain ⟨cJ1, hJ1, hJ2⟩ := arr_of (htg _ qA_long) (fun C h => by cases h)
  have hA : ∀ a : Nat, a < s.heap.size → ¬ s.heap.size ≤ a := fun a h => Nat.not_le.mpr h
  refine ⟨fun k => if k = 0 then c0 else if k = 1 then c1 else if k = 2 then c2 else if k = 3 then c3 else c4, fun k => if k = 0 then i0 else if k = 1 then i1 else if k = 2 then i2 else if k = 3 then i3 else i4, cI1, cZ1, cJ1, ⟨?_, ?_⟩, ?_, ?_, ?_, ?_, ?_, Nat.le_refl _⟩
  · intro k q hq
    match k, hq with
    | 0, hq => cases hq; exact hn0
    | 1, hq => cases hq; exact hn1
    | 2, hq => cases hq; exact hn2
    | 3, hq => cases hq; exact hn3
    | 4, hq => cases hq; exact hn4
    | k + 5, hq => simp at hq
  · intro k q hq
    match k, hq with
    | 0, hq => cases hq; exact ⟨hI1, hI2⟩
    | 1, hq => cases hq; exact ⟨hZ1, hZ2⟩
    | 2, hq => cases hq; exact ⟨hJ1, hJ2⟩
    | k + 3, hq => simp at hq
  · exact vx_Zqof (hts _ hlyU) (htg _ qN_java_lang_Throwable) (hs _ hisU) hA
  · exact vx_Zqof (hts _ hlyN) (htg _ qN_java_lang_Throwable) (hs _ hisN) hA
  · exact fun w hw => va_Nw.of (hOw_tabs (List.mem_filter.mp hw).2) (hts w (List.mem_filter.mp hw).1)
  · intro q hq
    have h2 := hs _ (of_decide_eq_true (List.all_eq_true.mp hstr_all q hq))
    obtain ⟨a, c, cell, k, h3, -⟩ := Cond.exactly_spec h2
    refine ⟨a, ?_⟩
    unfold hStr at hq
    obtain ⟨w, hw1, hw2⟩ := List.mem_filterMap.mp hq
    cases w <;> first | (cases hw2; exact vk_R.of (hts _ hw1) h3) | (cases hw2)
  · exact fun q hq => va_Nc.of (hs _ (of_decide_eq_true (List.all_eq_true.mp hnc_all q hq)))
def hPreS (G : hG) (av : List Value) (f : hM) (b L : Nat) (xs : Nat → Int32) : Array Value → State → Prop := va_Pc av (fun U => (hK G U ∧ hW G f U.heap) ∧ va_X b L xs U U.heap ∧ b < U.heap.size ∧ ¬ hFr G b)
theorem hPreS.blind {G : hG} {av : List Value} {f : hM} {b L : Nat} {xs : Nat → Int32} : FrameBlind (hPreS G av f b L xs) := fun _ U g mk h => ⟨h.1, ⟨hK.warm (U := U.calling g mk _) h.2.1.1 (State.WarmedH.refl U) (Nat.le_refl _) (fun _ _ _ => rfl), h.2.1.2⟩, va_X.moved (State.WarmedH.refl U).alike h.2.2.1, h.2.2.2⟩
theorem c_L_cell {l : Launch} (hl : l.stackTraces = false) (G : hG) (f : hM) (b L : Nat) (xs : Nat → Int32) (k : Nat) (hk : k < 2 ^ 30) (hL : L < 2 ^ 30) : vx_Met l yL_cell (.code yL_cell cL_cell 2 (some .int) :: gW) { frames := 0, cells := 0, slots := 0, locals := 0 } (hPreS G [.ref b, .int (nI k)] f b L xs) (hQ G (fun v f1 => (∃ w : Int32, v = some (.int w)) ∧ f1 = f)) (hX G (fun _ _ => False)) 0 0 (hFr G) := by
  refine vx_ofW (cc := cL_cell) (maxL := 2) (ret := some .int) (by decide) rfl ?_
  intro p e s m args below meth c s₁ B hml hout hv
  obtain ⟨rfl, ⟨hk0, hw⟩, hX, hbl, hbA⟩ := hv
  have hts := atoms_spec (ws := (Cond.code yL_cell cL_cell 2 (some .int)) :: gW) B.pre
  have hown : s.vm.findClass RL = some m.cls := findClass_of_methodNamed B.named
  have hl2 := lv_entry [.ref b, .int (nI k)] (n := 2) (Nat.le_of_ble_eq_true rfl)
  rw [lg_entry_eq]
  have B0 : hB p l s m [Value.ref b, Value.int (nI k)].toArray meth c cL_cell 2 RL G := ⟨B.exec, B.bytes, hml, hown, fun w h => hts w (List.mem_cons_of_mem _ h), B.notSynchronized, hk0, hl⟩
  have hr := B.returns
  have hS : va_S (hFr G) s.heap s.heap [] := va_S.rf
  have hx := B0.1
  have hb := B0.2.1
  generalize (lg_sl [.ref b, .int (nI k)] ++ List.replicate (2 - (lg_sl [.ref b, .int (nI k)]).length) Slot.unset).toArray = ls at hl2 ⊢
  have hl9 : lv_has ls 2 [(0, .ref b), (1, .int (nI k))] := hl2
  refine lv_iload_n hx hb dL_cell_0 rfl (lv_at hl9 1 rfl) ?_
  refine lv_aload_n hx hb dL_cell_1 rfl (lv_at hl9 0 rfl) ?_
  refine va_slen hx hb hX hbl hbA hS dL_cell_2 ?_
  refine hp_c (v := nI L) rfl ?_
  refine lv_icmp_ge (tgt := 12) hx hb dL_cell_3 (by decide) (fun c1 => ?_) (fun c1 => ?_)
  · refine lv_ldc (v := 1171900389) hx hb B0.2.2.2.1 (B0.2.2.2.2.1 _ qK_L_7) dL_cell_12 ?_
    refine lv_iload_n hx hb dL_cell_14 rfl (lv_at hl9 1 rfl) ?_
    refine lv_bipush (v := 8) hx hb dL_cell_15 (by decide) ?_
    refine lv_iadd hx hb dL_cell_17 ?_
    refine lv_imul hx hb dL_cell_18 ?_
    exact hp_iret B0 hw hS hr ⟨Nat.le_refl _, Nat.le_refl _⟩ dL_cell_19 ⟨⟨_, rfl⟩, rfl⟩
  · refine lv_aload_n hx hb dL_cell_6 rfl (lv_at hl9 0 rfl) ?_
    refine lv_iload_n hx hb dL_cell_7 rfl (lv_at hl9 1 rfl) ?_
    refine va_sld hx hb hX hbl hbA hS (vp_in_nI (Nat.lt_of_not_le (fun h9 => c1 (nI_le h9 (by omega)))) (by omega)) dL_cell_8 ?_
    refine lv_goto (tgt := 19) hx hb dL_cell_9 (by decide) ?_
    exact hp_iret B0 hw hS hr ⟨Nat.le_refl _, Nat.le_refl _⟩ dL_cell_19 ⟨⟨_, rfl⟩, rfl⟩
section HSS
variable {p : Program} {l : Launch} {e : Env} {R : Room} {s : State} {m : MethodId} {args : Array Value} {below : List Frame} {meth : Method} {c : Code} {H : Heap} {locs : List Loc} {cells slots : Nat} {Q : State → Prop}
theorem hp_cell {cc : ByteArray} {nL pc : Nat} {G : hG} {f : hM} {ls : Array Slot} {rest : List Value} {b L k index : Nat} {xs : Nat → Int32} (B0 : hB p l s m args meth c cc nL RL G) (hl : l.stackTraces = false) (hw : hW G f H) (hS : va_S (hFr G) s.heap H locs) (hX : va_X b L xs s s.heap) (hbl : b < s.heap.size) (hbA : ¬ hFr G b) (hk : k < 2 ^ 30) (hL : L < 2 ^ 30) (hlm : Cond.methodLink RL index yL_cell ∈ gW) (hsz : ls.size = nL) (hroom : (rest.map fun v => v.category).sum ≤ 8)
    (hR : (1 ≤ R.frames ∧ 21 ≤ R.locals) ∧ cells + 0 ≤ R.cells ∧ slots + 0 ≤ R.slots) (hdg : decode cc pc = .ok (.invokestatic index, 3))
    (kk : ∀ (w : Int32) (H1 : Heap) (locs1 : List Loc), hW G f H1 → va_S (hFr G) s.heap H1 locs1 → W p l e R s m args below meth c H1 locs1 (cells + 0) (slots + 0) Q (F0 m (pc + 3) ls (.int w :: rest))) : W p l e R s m args below meth c H locs cells slots Q (F0 m pc ls (.int (nI k) :: .ref b :: rest)) := by
  have B1 := B0
  obtain ⟨hx, hb9, hml, hown, hts, hlk, hk0, hl0⟩ := B0
  obtain ⟨m1, m2, m4, m5, m6⟩ := mS_L_cell
  refine hp_go B1 hS (vx_runS (ws := Cond.code yL_cell cL_cell 2 (some .int) :: gW) (rm := { frames := 0, cells := 0, slots := 0, locals := 0 }) (Ts := gW) (bytes := cL_cell) (maxL := 2) (ret := some .int) (n := 2) (As := [.ref b, .int (nI k)]) (rest := rest) ⟨hx, hb9, hml, hown, hts⟩ (c_L_cell hl G f b L xs k hk hL)
    ⟨⟨rfl, rfl, hR.1.1, hR.1.2, gW_pay hts m1, List.mem_cons_self, hts _ m1, hts _ m4, m5, hlen_of m6, hts _ hlm⟩, hts _ m2⟩
    ⟨hPreS.blind, fun U hU hW9 => ⟨rfl, ⟨hK.warm hk0 hW9 (by rw [hU]; exact hS.1) (fun q h1 h2 => by rw [hU]; exact hS.2.1 q h1 h2), by rw [hU]; exact hw⟩, (va_X.moved hW9.alike hX).kept (by rw [hU]; exact hS.2.1 b hbl hbA), by rw [hU]; exact Nat.lt_of_lt_of_le hbl hS.1, hbA⟩⟩ rfl rfl hsz rfl (lv_room hroom) hdg hR.2) (fun E ce q9 f1 H1 locs1 hPX => hPX.elim) (fun v f1 H1 locs1 hP hw1 hS1 => ?_)
  obtain ⟨⟨w, ev⟩, ef⟩ := hP
  rw [ef] at hw1
  subst ev
  exact kk w H1 locs1 hw1 hS1
end HSS
theorem LX.kp {G : hG} {f f1 : hM} {lx ly lw la lq le : Nat} {S0 S1 : ES} {gw0 ga0 gw1 ga1 : Nat → Int32} {S : List Nat} (h : LX G f lx ly lw la lq le S0 S1 gw0 ga0 gw1 ga1) (hk : hKn S f f1) (hd : ∀ p, p ∈ [lx, ly, lw, la, lq, le] → p ∉ S) : LX G f1 lx ly lw la lq le S0 S1 gw0 ga0 gw1 ga1 := by
  obtain ⟨⟨xs, h1, x1⟩, ⟨ys, h2, y1⟩, h3, h4, h5, h6⟩ := h
  exact ⟨⟨xs, hk _ _ h1 (Nat.ne_of_beq_eq_false rfl) (hd _ (by simp)), x1⟩, ⟨ys, hk _ _ h2 (Nat.ne_of_beq_eq_false rfl) (hd _ (by simp)), y1⟩, hk _ _ h3 (Nat.ne_of_beq_eq_false rfl) (hd _ (by simp)), hk _ _ h4 (Nat.ne_of_beq_eq_false rfl) (hd _ (by simp)), hk _ _ h5 (Nat.ne_of_beq_eq_false rfl) (hd _ (by simp)), hk _ _ h6 (Nat.ne_of_beq_eq_false rfl) (hd _ (by simp))⟩
theorem LBX.kp {G : hG} {f f1 : hM} {lb lh lr lg : Nat} {n a cg x : Nat} {sa fl gv : Nat → Nat} {gh gl : Nat → Int32} {S : List Nat} (h : LBX G f lb lh lr lg n a cg x sa fl gv gh gl) (hk : hKn S f f1) (hd : ∀ p, p ∈ [lb, lh, lr, lg] → p ∉ S) : LBX G f1 lb lh lr lg n a cg x sa fl gv gh gl := by
  obtain ⟨h1, ⟨hh, hn, h2, h3, h4⟩, h5, ⟨tk, h6, h7⟩⟩ := h
  exact ⟨hk _ _ h1 (Nat.ne_of_beq_eq_false rfl) (hd _ (by simp)), ⟨hh, hn, hk _ _ h2 (Nat.ne_of_beq_eq_false rfl) (hd _ (by simp)), h3, h4⟩, hk _ _ h5 (Nat.ne_of_beq_eq_false rfl) (hd _ (by simp)), ⟨tk, hk _ _ h6 (Nat.ne_of_beq_eq_false rfl) (hd _ (by simp)), h7⟩⟩
/-- what holds at the head of the loop, behind j turns -/
abbrev lawI (G : hG) (xo ez eo bu nw0 na0 nq0 nr0 nw1 na1 nq1 nr1 bs bp bh bf bl bg lx ly lw la lq le lb lh lr lg : Nat) (b : Nat) (j : Nat) (f9 : hM) (lv9 : List (Nat × Value)) : Prop := ∃ (S0 : ES) (S1 : ES) (gw0 : Nat → Int32) (ga0 : Nat → Int32) (gw1 : Nat → Int32) (ga1 : Nat → Int32) (n : Nat) (a : Nat) (cg : Nat) (x : Nat) (sa : Nat → Nat) (pk : Nat → Nat) (fl : Nat → Nat) (gv : Nat → Nat) (gh : Nat → Int32) (gl : Nat → Int32), CXW G f9 xo ez eo bu nw0 na0 nq0 nr0 nw1 na1 nq1 nr1 bs bp bh bf bl bg S0 S1 gw0 ga0 gw1 ga1 n a cg x sa pk fl gv gh gl ∧ LX G f9 lx ly lw la lq le S0 S1 gw0 ga0 gw1 ga1 ∧ LBX G f9 lb lh lr lg n a cg x sa fl gv gh gl ∧ INV (100 * j) S0 S1 gw0 ga0 gw1 ga1 ∧ S0.2.2.2.2.2.2.2.2.length ≤ 52 ∧ S1.2.2.2.2.2.2.2.2.length ≤ 52 ∧ a ≤ 60 ∧ lv9 = [(12, .int (nI j)), (0, .ref b), (1, .ref xo), (2, .ref lx), (3, .ref ly), (4, .ref lw), (5, .ref la), (6, .ref lq), (7, .ref le), (8, .ref lb), (9, .ref lh), (10, .ref lr), (11, .ref lg)]
def fl0 : Nat → Nat := fun j => if j = 2 then 2 else if j = 1 then 1 else 0
theorem F3_fl : ((upd (upd (upd (fun _ => 0) (0 : Int32).toNatClampNeg 0) (1 : Int32).toNatClampNeg 1) (2 : Int32).toNatClampNeg 2) : Nat → Int32) = nf fl0 := by
  funext j
  simp only [upd, cl0, cl1, cl2, nf, fl0]
  by_cases h2 : j = 2
  · rw [if_pos h2, if_pos h2]; rfl
  · rw [if_neg h2, if_neg h2]
    by_cases h1 : j = 1
    · rw [if_pos h1, if_pos h1]; rfl
    · rw [if_neg h1, if_neg h1]
      by_cases h0 : j = 0
      · rw [if_pos h0]; rfl
      · rw [if_neg h0]; rfl
theorem BOK_0 : BOK 0 0 0 0 (fun _ => 0) (fun _ => 0) := ⟨by decide, rfl, rfl, fun i h => absurd h (Nat.not_lt_zero _), fun j h => absurd h (Nat.not_lt_zero _), Nat.le_refl _, 0, Nat.le_refl _, Nat.le_refl _, Nat.le_refl _⟩
theorem fl0_ok : ∀ k, k < 3 → fl0 k < 243 := by decide
theorem fl0_tk : ∀ l, l < 3 → fl0 l = l + 3 * (fun _ => 0 : Nat → Nat) l := by decide
def mAk (k : Nat) : Nat → Int32 := fun i => if i < k then (-1) else 0
theorem mAk_0 : (fun _ => 0 : Nat → Int32) = mAk 0 := by
  funext i
  simp only [mAk]
  rw [if_neg (Nat.not_lt_zero _)]
theorem mAk_u {k : Nat} {i : Int32} (h : i.toNatClampNeg = k) : upd (mAk k) i.toNatClampNeg (-1) = mAk (k + 1) := by
  rw [h]
  funext j
  simp only [upd, mAk]
  by_cases e : j = k
  · rw [if_pos e, if_pos (by omega)]
  · rw [if_neg e]
    by_cases l : j < k
    · rw [if_pos l, if_pos (by omega)]
    · rw [if_neg l, if_neg (by omega)]
theorem mAk_12 : mAk 12 = j6 N6 N6 := by
  funext j
  simp only [mAk, j6, N6]
  by_cases h : j < 6
  · rw [if_pos (show j < 12 by omega), if_pos h, if_pos h]
  · rw [if_neg h]
    by_cases h2 : j < 12
    · rw [if_pos h2, if_pos (show j - 6 < 6 by omega)]
    · rw [if_neg h2, if_neg (show ¬ j - 6 < 6 by omega)]
theorem j6_zero : (fun _ => 0 : Nat → Int32) = j6 (fun _ => 0) (fun _ => 0) := by
  funext j
  simp only [j6]
  split <;> rfl
/-- an end as it is made -/
abbrev S00 : ES := (0, -1, 0, 0, 0, 0, 0, N6, [])
abbrev S01 : ES := (0, -1, 0, 0, 0, 0, 1, N6, [])
theorem c0n : ∀ k : Nat, k < 16 → (Int32.ofNat k).toNatClampNeg = k := by decide
theorem le_0 : ((upd (upd (upd (fun _ => 0) (1 : Int32).toNatClampNeg (-1)) (9 : Int32).toNatClampNeg (-1)) (14 : Int32).toNatClampNeg 1) : Nat → Int32) = jE (eS S00) (eS S01) := by
  rw [show (1 : Int32).toNatClampNeg = 1 from by decide, show (9 : Int32).toNatClampNeg = 9 from by decide, show (14 : Int32).toNatClampNeg = 14 from by decide]
  funext i
  by_cases h : i < 16
  · rcases (show i = 0 ∨ i = 1 ∨ i = 2 ∨ i = 3 ∨ i = 4 ∨ i = 5 ∨ i = 6 ∨ i = 7 ∨ i = 8 ∨ i = 9 ∨ i = 10 ∨ i = 11 ∨ i = 12 ∨ i = 13 ∨ i = 14 ∨ i = 15 by omega) with rfl | rfl | rfl | rfl | rfl | rfl | rfl | rfl | rfl | rfl | rfl | rfl | rfl | rfl | rfl | rfl <;> rfl
  · simp only [upd, jE, eS, e8]
    rw [if_neg (show ¬ i = 14 by omega), if_neg (show ¬ i = 9 by omega), if_neg (show ¬ i = 1 by omega), if_neg (show ¬ i < 8 by omega), if_neg (show ¬ i - 8 = 0 by omega), if_neg (show ¬ i - 8 = 1 by omega), if_neg (show ¬ i - 8 = 2 by omega), if_neg (show ¬ i - 8 = 3 by omega), if_neg (show ¬ i - 8 = 4 by omega), if_neg (show ¬ i - 8 = 5 by omega), if_neg (show ¬ i - 8 = 6 by omega), if_neg (show ¬ i - 8 = 7 by omega)]
theorem lg_0 : ((upd (upd (upd (fun _ => 0) (3 : Int32).toNatClampNeg (-1)) (4 : Int32).toNatClampNeg (-1)) (5 : Int32).toNatClampNeg (-1)) : Nat → Int32) = g10 (fun _ => 0) (fun j => if j < 3 then (-1) else (fun _ => 0) j) 0 0 0 0 := by
  rw [show (3 : Int32).toNatClampNeg = 3 from by decide, show (4 : Int32).toNatClampNeg = 4 from by decide, show (5 : Int32).toNatClampNeg = 5 from by decide]
  funext i
  by_cases h : i < 10
  · rcases (show i = 0 ∨ i = 1 ∨ i = 2 ∨ i = 3 ∨ i = 4 ∨ i = 5 ∨ i = 6 ∨ i = 7 ∨ i = 8 ∨ i = 9 by omega) with rfl | rfl | rfl | rfl | rfl | rfl | rfl | rfl | rfl | rfl <;> rfl
  · simp only [upd, g10]
    rw [if_neg (show ¬ i = 5 by omega), if_neg (show ¬ i = 4 by omega), if_neg (show ¬ i = 3 by omega), if_neg (show ¬ i < 3 by omega), if_neg (show ¬ i < 6 by omega), if_neg (show ¬ i = 6 by omega), if_neg (show ¬ i = 7 by omega), if_neg (show ¬ i = 8 by omega), if_neg (show ¬ i = 9 by omega)]
theorem XS_0 {xs : Nat → Int64} : XS xs [] := fun i r h => by simp at h
theorem HB_0 : HB 0 (fun _ => 0) := ⟨by decide, fun i _ => ⟨fun h => by rw [Nat.zero_div] at h; exact absurd h (by decide), fun h => absurd rfl h⟩⟩
theorem N6_ok : ∀ j, j < 6 → VOK (N6 j) := fun j hj => by
  rw [show N6 j = -1 from if_pos hj]
  exact ⟨by decide, by decide⟩
theorem A6_ok : ∀ j, j < 6 → AOK ((fun _ => 0 : Nat → Int32) j) := fun j hj => ⟨by show (0 : Int) ≤ (0 : Int32).toInt; decide, by show (0 : Int32).toInt ≤ 1023; decide⟩
theorem SOK_0 {ix : Int32} {x : Nat} (h : ix = nI x) (hx : x ≤ 4) : SOK (100 * 0) ((0, -1, 0, 0, 0, 0, ix, N6, []) : ES) := ⟨⟨0, rfl, by decide⟩, ⟨0, by decide, Nat.zero_le _⟩, ⟨0, rfl, by decide⟩, Or.inl rfl, ⟨x, h, hx⟩, N6_ok, fun r h => nomatch h⟩
theorem INV_0 : INV (100 * 0) S00 S01 N6 (fun _ => 0) N6 (fun _ => 0) := ⟨SOK_0 (x := 0) rfl (by decide), SOK_0 (x := 1) rfl (by decide), N6_ok, A6_ok, N6_ok, A6_ok⟩
theorem EX_0 {G : hG} {f : hM} {en nw na nq nr : Nat} {mg ix : Int32} (hm : num ix = mg) (h1 : f en = some (.inr (1, [.ref nw, .ref na, .ref nq, .ref nr, .int mg, .int 0, .int 0, .int 0, .int (-1), .int 0, .int 0]))) (h2 : f nq = some (.inl (cI G, 6, .inl N6))) (h3 : f nr = some (.inr (3, [.null, .null, .int 0]))) : EX G f en nw na nq nr (0, -1, 0, 0, 0, 0, ix, N6, []) [] := by
  subst hm
  exact ⟨h1, h2, ⟨.null, h3, ⟨rfl, rfl⟩⟩, List.nodup_nil, fun c h => (nomatch h), rfl⟩
set_option maxHeartbeats 4000000 in
set_option maxRecDepth 100000 in
theorem lt_335 {p : Program} {l : Launch} {e : Env} {s : State} {m : MethodId} {below : List Frame} {meth : Method} {c : Code} {b L : Nat} {xs : Nat → Int32} (hL : L ≤ 260) (hx : p.tables.exec = Jvm.exec) (hb : c.code = code) (hX : va_X b L xs s s.heap) (hbl : b < s.heap.size) (hl : l.stackTraces = false) {G : hG} (B0 : hB p l s m #[Value.ref b] meth c code 17 RL G) (hbA : ¬ hFr G b) {xo ez eo bu nw0 na0 nq0 nr0 nw1 na1 nq1 nr1 bs bp bh bf bl bg lx ly lw la lq le lb lh lr lg : Nat} (hdis : ∀ p, p ∈ [xo, ez, eo, bu, nw0, na0, nq0, nr0, nw1, na1, nq1, nr1, bs, bp, bh, bf, bl, bg] → p ∉ [lx, ly, lw, la, lq, le, lb, lh, lr, lg]) (hdos : ∀ p, p ∈ [lx, ly, lw, la, lq, le, lb, lh, lr, lg] → p ∉ [xo, ez, eo, bu, nw0, na0, nq0, nr0, nw1, na1, nq1, nr1, bs, bp, bh, bf, bl, bg]) (hlb : ∀ p, p ∈ [lx, ly, lw, la, lq, le] → p ∉ [lb, lh, lr, lg]) (hbl9 : ∀ p, p ∈ [lb, lh, lr, lg] → p ∉ [lx, ly, lw, la, lq, le]) (n_lx_ly : lx ≠ ly) (n_lw_la : lw ≠ la) (n_lw_lq : lw ≠ lq) (n_la_lq : la ≠ lq) {j : Nat} (hj : j < 150) (ih : ∀ (f9 : hM) (lv9 : List (Nat × Value)) (H : Heap) (locs : List Loc) (ls : Array Slot), lawI G xo ez eo bu nw0 na0 nq0 nr0 nw1 na1 nq1 nr1 bs bp bh bf bl bg lx ly lw la lq le lb lh lr lg b (j + 1) f9 lv9 → hW G f9 H → va_S (hFr G) s.heap H locs → lv_has ls 17 lv9 → W p l e room_1 s m #[Value.ref b] below meth c H locs (73 + (j + 1) * 248) (1268 + (j + 1) * 1388) (lw_Z below #[Value.ref b] s) (F0 m 152 ls [])) {S0 : ES} {S1 : ES} {gw0 : Nat → Int32} {ga0 : Nat → Int32} {gw1 : Nat → Int32} {ga1 : Nat → Int32} {n : Nat} {a : Nat} {cg : Nat} {x : Nat} {sa : Nat → Nat} {pk : Nat → Nat} {fl : Nat → Nat} {gv : Nat → Nat} {gh : Nat → Int32} {gl : Nat → Int32} {f9 : hM} (hC : CXW G f9 xo ez eo bu nw0 na0 nq0 nr0 nw1 na1 nq1 nr1 bs bp bh bf bl bg S0 S1 gw0 ga0 gw1 ga1 n a cg x sa pk fl gv gh gl) (hLX : LX G f9 lx ly lw la lq le S0 S1 gw0 ga0 gw1 ga1) (hLB : LBX G f9 lb lh lr lg n a cg x sa fl gv gh gl) (hInv : INV (100 * (j + 1)) S0 S1 gw0 ga0 gw1 ga1) (hl0 : S0.2.2.2.2.2.2.2.2.length ≤ 52) (hl1 : S1.2.2.2.2.2.2.2.2.length ≤ 52) (ha60 : a ≤ 60) {H : Heap} {locs : List Loc} {ls : Array Slot} (hw : hW G f9 H) (hS : va_S (hFr G) s.heap H locs) (hl9 : lv_has ls 17 [(12, .int (nI j)), (0, .ref b), (1, .ref xo), (2, .ref lx), (3, .ref ly), (4, .ref lw), (5, .ref la), (6, .ref lq), (7, .ref le), (8, .ref lb), (9, .ref lh), (10, .ref lr), (11, .ref lg)]) : W p l e room_1 s m #[Value.ref b] below meth c H locs (73 + j * 248 + 203) (1268 + j * 1388 + 1118) (lw_Z below #[Value.ref b] s) (F0 m 335 ls []) := by
  have hLX0 := hLX
  have hLB0 := hLB
  obtain ⟨-, -, -, -, k_lq, k_le⟩ := hLX
  obtain ⟨-, -, k_lr, ⟨tk, k_lg, -⟩⟩ := hLB
  refine lv_aload_n hx hb dL_law_335 rfl (lv_at hl9 2 rfl) ?_
  refine lv_aload hx hb dL_law_336 (lv_at hl9 7 rfl) ?_
  refine lv_aload hx hb dL_law_338 (lv_at hl9 8 rfl) ?_
  refine lv_aload hx hb dL_law_340 (lv_at hl9 11 rfl) ?_
  refine lv_aload hx hb dL_law_342 (lv_at hl9 12 rfl) ?_
  refine hp_S (As := [.ref xo, .ref lq, .ref le, .ref lr, .ref lg]) (rest := []) B0 hw hS (c_L_isTold hl G f9 xo ez eo bu nw0 na0 nq0 nr0 nw1 na1 nq1 nr1 bs bp bh bf bl bg S0 S1 gw0 ga0 gw1 ga1 n a cg x sa pk fl gv gh gl hC lq le lr lg (fun p9 hp9 h9 => hdis p9 hp9 ((sub_cons (List.mem_cons_of_mem _ (List.mem_cons_of_mem _ (List.mem_cons_of_mem _ (List.mem_cons_of_mem _ List.mem_cons_self)))) (sub_cons (List.mem_cons_of_mem _ (List.mem_cons_of_mem _ (List.mem_cons_of_mem _ (List.mem_cons_of_mem _ (List.mem_cons_of_mem _ List.mem_cons_self))))) (sub_cons (List.mem_cons_of_mem _ (List.mem_cons_of_mem _ (List.mem_cons_of_mem _ (List.mem_cons_of_mem _ (List.mem_cons_of_mem _ (List.mem_cons_of_mem _ (List.mem_cons_of_mem _ (List.mem_cons_of_mem _ List.mem_cons_self)))))))) (sub_cons (List.mem_cons_of_mem _ (List.mem_cons_of_mem _ (List.mem_cons_of_mem _ (List.mem_cons_of_mem _ (List.mem_cons_of_mem _ (List.mem_cons_of_mem _ (List.mem_cons_of_mem _ (List.mem_cons_of_mem _ (List.mem_cons_of_mem _ List.mem_cons_self))))))))) sub_nil)))) p9 h9)) (fun p9 hp9 => hdos p9 ((sub_cons (List.mem_cons_of_mem _ (List.mem_cons_of_mem _ (List.mem_cons_of_mem _ (List.mem_cons_of_mem _ List.mem_cons_self)))) (sub_cons (List.mem_cons_of_mem _ (List.mem_cons_of_mem _ (List.mem_cons_of_mem _ (List.mem_cons_of_mem _ (List.mem_cons_of_mem _ List.mem_cons_self))))) (sub_cons (List.mem_cons_of_mem _ (List.mem_cons_of_mem _ (List.mem_cons_of_mem _ (List.mem_cons_of_mem _ (List.mem_cons_of_mem _ (List.mem_cons_of_mem _ (List.mem_cons_of_mem _ (List.mem_cons_of_mem _ List.mem_cons_self)))))))) (sub_cons (List.mem_cons_of_mem _ (List.mem_cons_of_mem _ (List.mem_cons_of_mem _ (List.mem_cons_of_mem _ (List.mem_cons_of_mem _ (List.mem_cons_of_mem _ (List.mem_cons_of_mem _ (List.mem_cons_of_mem _ (List.mem_cons_of_mem _ List.mem_cons_self))))))))) sub_nil)))) p9 hp9)) _ _ _ _ _ hInv hl0 hl1 tk k_lq k_le k_lr k_lg) mS_L_isTold qM_L_168 rfl rfl hl9.1 (Nat.le_of_ble_eq_true rfl) ⟨⟨Nat.le_of_ble_eq_true rfl, Nat.le_of_ble_eq_true rfl⟩, (by first | omega | (dsimp only; omega) | (show (_ : Nat) ≤ _; simp only [room_1]; omega)), (by first | omega | (dsimp only; omega) | (show (_ : Nat) ≤ _; simp only [room_1]; omega))⟩ dL_law_344 (fun E ce q9 f1 H locs hPX hw hS hce hcv hcl => ?_) (fun v f1 H locs hP hw hS => ?_)
  · exact hPX.elim
  · obtain ⟨ev9, hC2, hk2⟩ := hP
    subst ev9
    refine W.eq (g2 := F0 m 347 ls [.int 1]) rfl ?_
    refine lv_if_ne (tgt := 352) hx hb dL_law_347 (by decide) (fun _ => ?_) (fun c9 => absurd c9 (by decide))
    refine lv_iinc (v := (nI (j + 1))) (lv' := [(12, .int (nI (j + 1))), (0, .ref b), (1, .ref xo), (2, .ref lx), (3, .ref ly), (4, .ref lw), (5, .ref la), (6, .ref lq), (7, .ref le), (8, .ref lb), (9, .ref lh), (10, .ref lr), (11, .ref lg)]) hx hb dL_law_352 hl9 (k := 0) rfl (nI_1 j) (by decide) rfl (fun ls hl9 => ?_)
    refine lv_goto (tgt := 152) hx hb dL_law_355 (by decide) ?_
    exact hp_cs (by omega) (by omega) (ih _ _ H locs ls ⟨_, _, _, _, _, _, _, _, _, _, _, _, _, _, _, _, hC2, hLX0.kp hk2 (fun p9 hp9 => hdos p9 ((sub_cons List.mem_cons_self (sub_cons (List.mem_cons_of_mem _ List.mem_cons_self) (sub_cons (List.mem_cons_of_mem _ (List.mem_cons_of_mem _ List.mem_cons_self)) (sub_cons (List.mem_cons_of_mem _ (List.mem_cons_of_mem _ (List.mem_cons_of_mem _ List.mem_cons_self))) (sub_cons (List.mem_cons_of_mem _ (List.mem_cons_of_mem _ (List.mem_cons_of_mem _ (List.mem_cons_of_mem _ List.mem_cons_self)))) (sub_cons (List.mem_cons_of_mem _ (List.mem_cons_of_mem _ (List.mem_cons_of_mem _ (List.mem_cons_of_mem _ (List.mem_cons_of_mem _ List.mem_cons_self))))) sub_nil)))))) p9 hp9)), hLB0.kp hk2 (fun p9 hp9 => hdos p9 ((sub_cons (List.mem_cons_of_mem _ (List.mem_cons_of_mem _ (List.mem_cons_of_mem _ (List.mem_cons_of_mem _ (List.mem_cons_of_mem _ (List.mem_cons_of_mem _ List.mem_cons_self)))))) (sub_cons (List.mem_cons_of_mem _ (List.mem_cons_of_mem _ (List.mem_cons_of_mem _ (List.mem_cons_of_mem _ (List.mem_cons_of_mem _ (List.mem_cons_of_mem _ (List.mem_cons_of_mem _ List.mem_cons_self))))))) (sub_cons (List.mem_cons_of_mem _ (List.mem_cons_of_mem _ (List.mem_cons_of_mem _ (List.mem_cons_of_mem _ (List.mem_cons_of_mem _ (List.mem_cons_of_mem _ (List.mem_cons_of_mem _ (List.mem_cons_of_mem _ List.mem_cons_self)))))))) (sub_cons (List.mem_cons_of_mem _ (List.mem_cons_of_mem _ (List.mem_cons_of_mem _ (List.mem_cons_of_mem _ (List.mem_cons_of_mem _ (List.mem_cons_of_mem _ (List.mem_cons_of_mem _ (List.mem_cons_of_mem _ (List.mem_cons_of_mem _ List.mem_cons_self))))))))) sub_nil)))) p9 hp9)), hInv, hl0, hl1, ha60, rfl⟩ hw hS (lv_sub hl9 [0, 1, 2, 3, 4, 5, 6, 7, 8, 9, 10, 11, 12] rfl))

set_option maxHeartbeats 4000000 in
set_option maxRecDepth 100000 in
theorem lt_260 {p : Program} {l : Launch} {e : Env} {s : State} {m : MethodId} {below : List Frame} {meth : Method} {c : Code} {b L : Nat} {xs : Nat → Int32} (hL : L ≤ 260) (hx : p.tables.exec = Jvm.exec) (hb : c.code = code) (hX : va_X b L xs s s.heap) (hbl : b < s.heap.size) (hl : l.stackTraces = false) {G : hG} (B0 : hB p l s m #[Value.ref b] meth c code 17 RL G) (hbA : ¬ hFr G b) {xo ez eo bu nw0 na0 nq0 nr0 nw1 na1 nq1 nr1 bs bp bh bf bl bg lx ly lw la lq le lb lh lr lg : Nat} (hdis : ∀ p, p ∈ [xo, ez, eo, bu, nw0, na0, nq0, nr0, nw1, na1, nq1, nr1, bs, bp, bh, bf, bl, bg] → p ∉ [lx, ly, lw, la, lq, le, lb, lh, lr, lg]) (hdos : ∀ p, p ∈ [lx, ly, lw, la, lq, le, lb, lh, lr, lg] → p ∉ [xo, ez, eo, bu, nw0, na0, nq0, nr0, nw1, na1, nq1, nr1, bs, bp, bh, bf, bl, bg]) (hlb : ∀ p, p ∈ [lx, ly, lw, la, lq, le] → p ∉ [lb, lh, lr, lg]) (hbl9 : ∀ p, p ∈ [lb, lh, lr, lg] → p ∉ [lx, ly, lw, la, lq, le]) (n_lx_ly : lx ≠ ly) (n_lw_la : lw ≠ la) (n_lw_lq : lw ≠ lq) (n_la_lq : la ≠ lq) {j : Nat} (hj : j < 150) (ih : ∀ (f9 : hM) (lv9 : List (Nat × Value)) (H : Heap) (locs : List Loc) (ls : Array Slot), lawI G xo ez eo bu nw0 na0 nq0 nr0 nw1 na1 nq1 nr1 bs bp bh bf bl bg lx ly lw la lq le lb lh lr lg b (j + 1) f9 lv9 → hW G f9 H → va_S (hFr G) s.heap H locs → lv_has ls 17 lv9 → W p l e room_1 s m #[Value.ref b] below meth c H locs (73 + (j + 1) * 248) (1268 + (j + 1) * 1388) (lw_Z below #[Value.ref b] s) (F0 m 152 ls [])) (ac : Nat) (hac32 : ac < 32) (u z v0 : Int32) {S0 : ES} {S1 : ES} {gw0 : Nat → Int32} {ga0 : Nat → Int32} {gw1 : Nat → Int32} {ga1 : Nat → Int32} {n : Nat} {a : Nat} {cg : Nat} {x : Nat} {sa : Nat → Nat} {pk : Nat → Nat} {fl : Nat → Nat} {gv : Nat → Nat} {gh : Nat → Int32} {gl : Nat → Int32} {f9 : hM} (hC : CXW G f9 xo ez eo bu nw0 na0 nq0 nr0 nw1 na1 nq1 nr1 bs bp bh bf bl bg S0 S1 gw0 ga0 gw1 ga1 n a cg x sa pk fl gv gh gl) (hLX : LX G f9 lx ly lw la lq le S0 S1 gw0 ga0 gw1 ga1) (hLB : LBX G f9 lb lh lr lg n a cg x sa fl gv gh gl) (hInv : INV (100 * j) S0 S1 gw0 ga0 gw1 ga1) (hl0 : S0.2.2.2.2.2.2.2.2.length ≤ 52) (hl1 : S1.2.2.2.2.2.2.2.2.length ≤ 52) (ha60 : a ≤ 60) {H : Heap} {locs : List Loc} {ls : Array Slot} (hw : hW G f9 H) (hS : va_S (hFr G) s.heap H locs) (hl9 : lv_has ls 17 [(16, .int (nI ac)), (14, .int u), (15, .int z), (13, .int v0), (12, .int (nI j)), (0, .ref b), (1, .ref xo), (2, .ref lx), (3, .ref ly), (4, .ref lw), (5, .ref la), (6, .ref lq), (7, .ref le), (8, .ref lb), (9, .ref lh), (10, .ref lr), (11, .ref lg)]) (hact : ac ≠ 22 → S0.2.2.2.2.2.2.2.2.length ≤ 40 ∧ S1.2.2.2.2.2.2.2.2.length ≤ 40) : W p l e room_1 s m #[Value.ref b] below meth c H locs (73 + j * 248) (1268 + j * 1388) (lw_Z below #[Value.ref b] s) (F0 m 260 ls []) := by
  refine lv_iload hx hb dL_law_260 (lv_at hl9 0 rfl) ?_
  refine lv_bipush (v := 24) hx hb dL_law_262 (by decide) ?_
  refine lv_icmp_ge (tgt := 293) hx hb dL_law_264 (by decide) (fun c1 => ?_) (fun c1 => ?_)
  · refine lv_aload_n hx hb dL_law_293 rfl (lv_at hl9 6 rfl) ?_
    refine lv_iload hx hb dL_law_294 (lv_at hl9 0 rfl) ?_
    refine lv_bipush (v := 26) hx hb dL_law_296 (by decide) ?_
    refine lv_icmp_ge (tgt := 305) hx hb dL_law_298 (by decide) (fun c2 => ?_) (fun c2 => ?_)
    · refine lv_iload hx hb dL_law_305 (lv_at hl9 0 rfl) ?_
      refine lv_bipush (v := 26) hx hb dL_law_307 (by decide) ?_
      refine lv_icmp_ne (tgt := 316) hx hb dL_law_309 (by decide) (fun c3 => ?_) (fun c3 => ?_)
      · refine lv_iconst (v := 3) hx hb dL_law_316 (by decide) ?_
        refine lv_iload hx hb dL_law_317 (lv_at hl9 1 rfl) ?_
        refine lv_iload hx hb dL_law_319 (lv_at hl9 2 rfl) ?_
        refine lv_aload hx hb dL_law_321 (lv_at hl9 13 rfl) ?_
        refine lv_aload hx hb dL_law_323 (lv_at hl9 14 rfl) ?_
        refine lv_aload hx hb dL_law_325 (lv_at hl9 15 rfl) ?_
        refine lv_aload hx hb dL_law_327 (lv_at hl9 16 rfl) ?_
        refine hp_S (As := [.ref xo, .int 3, .int u, .int z, .ref lb, .ref lh, .ref lr, .ref lg]) (rest := []) B0 hw hS (c_L_bundles_3 hl G f9 xo ez eo bu nw0 na0 nq0 nr0 nw1 na1 nq1 nr1 bs bp bh bf bl bg S0 S1 gw0 ga0 gw1 ga1 n a cg x sa pk fl gv gh gl hC lb lh lr lg (fun p9 hp9 h9 => hdis p9 hp9 ((sub_cons (List.mem_cons_of_mem _ (List.mem_cons_of_mem _ (List.mem_cons_of_mem _ (List.mem_cons_of_mem _ (List.mem_cons_of_mem _ (List.mem_cons_of_mem _ List.mem_cons_self)))))) (sub_cons (List.mem_cons_of_mem _ (List.mem_cons_of_mem _ (List.mem_cons_of_mem _ (List.mem_cons_of_mem _ (List.mem_cons_of_mem _ (List.mem_cons_of_mem _ (List.mem_cons_of_mem _ List.mem_cons_self))))))) (sub_cons (List.mem_cons_of_mem _ (List.mem_cons_of_mem _ (List.mem_cons_of_mem _ (List.mem_cons_of_mem _ (List.mem_cons_of_mem _ (List.mem_cons_of_mem _ (List.mem_cons_of_mem _ (List.mem_cons_of_mem _ List.mem_cons_self)))))))) (sub_cons (List.mem_cons_of_mem _ (List.mem_cons_of_mem _ (List.mem_cons_of_mem _ (List.mem_cons_of_mem _ (List.mem_cons_of_mem _ (List.mem_cons_of_mem _ (List.mem_cons_of_mem _ (List.mem_cons_of_mem _ (List.mem_cons_of_mem _ List.mem_cons_self))))))))) sub_nil)))) p9 h9)) (fun p9 hp9 => hdos p9 ((sub_cons (List.mem_cons_of_mem _ (List.mem_cons_of_mem _ (List.mem_cons_of_mem _ (List.mem_cons_of_mem _ (List.mem_cons_of_mem _ (List.mem_cons_of_mem _ List.mem_cons_self)))))) (sub_cons (List.mem_cons_of_mem _ (List.mem_cons_of_mem _ (List.mem_cons_of_mem _ (List.mem_cons_of_mem _ (List.mem_cons_of_mem _ (List.mem_cons_of_mem _ (List.mem_cons_of_mem _ List.mem_cons_self))))))) (sub_cons (List.mem_cons_of_mem _ (List.mem_cons_of_mem _ (List.mem_cons_of_mem _ (List.mem_cons_of_mem _ (List.mem_cons_of_mem _ (List.mem_cons_of_mem _ (List.mem_cons_of_mem _ (List.mem_cons_of_mem _ List.mem_cons_self)))))))) (sub_cons (List.mem_cons_of_mem _ (List.mem_cons_of_mem _ (List.mem_cons_of_mem _ (List.mem_cons_of_mem _ (List.mem_cons_of_mem _ (List.mem_cons_of_mem _ (List.mem_cons_of_mem _ (List.mem_cons_of_mem _ (List.mem_cons_of_mem _ List.mem_cons_self))))))))) sub_nil)))) p9 hp9)) hLB ha60 hl0 hl1 u z) mS_L_bundles qM_L_180 rfl rfl hl9.1 (Nat.le_of_ble_eq_true rfl) ⟨⟨Nat.le_of_ble_eq_true rfl, Nat.le_of_ble_eq_true rfl⟩, (by first | omega | (dsimp only; omega) | (show (_ : Nat) ≤ _; simp only [room_1]; omega)), (by first | omega | (dsimp only; omega) | (show (_ : Nat) ≤ _; simp only [room_1]; omega))⟩ dL_law_329 (fun E ce q9 f4 H locs hPX hw hS hce hcv hcl => ?_) (fun v f4 H locs hP hw hS => ?_)
        · exact hPX.elim
        · obtain ⟨ev9, n2, a2, c2, x2, sa2, pk2, fl2, gv2, gh2, gl2, hC2, hLB2, ha2, hk2⟩ := hP
          subst ev9
          refine W.eq (g2 := F0 m 332 ls [.int 1]) rfl ?_
          refine lv_if_eq (tgt := 350) hx hb dL_law_332 (by decide) (fun c9 => absurd c9 (by decide)) (fun _ => ?_)
          refine W.widen (k := 73 + j * 248 + 203) (n := 1268 + j * 1388 + 1118) (by omega) (by omega) ?_
          obtain ⟨i1, i2, i3⟩ := hInv
          exact lt_335 hL hx hb hX hbl hl B0 hbA hdis hdos hlb hbl9 n_lx_ly n_lw_la n_lw_lq n_la_lq hj ih hC2 (hLX.kp hk2 (fun p9 hp9 h9 => (List.mem_append.mp h9).elim (hlb p9 hp9) (hdos p9 ((sub_cons List.mem_cons_self (sub_cons (List.mem_cons_of_mem _ List.mem_cons_self) (sub_cons (List.mem_cons_of_mem _ (List.mem_cons_of_mem _ List.mem_cons_self)) (sub_cons (List.mem_cons_of_mem _ (List.mem_cons_of_mem _ (List.mem_cons_of_mem _ List.mem_cons_self))) (sub_cons (List.mem_cons_of_mem _ (List.mem_cons_of_mem _ (List.mem_cons_of_mem _ (List.mem_cons_of_mem _ List.mem_cons_self)))) (sub_cons (List.mem_cons_of_mem _ (List.mem_cons_of_mem _ (List.mem_cons_of_mem _ (List.mem_cons_of_mem _ (List.mem_cons_of_mem _ List.mem_cons_self))))) sub_nil)))))) p9 hp9)))) hLB2 ⟨i1.mono (by omega), i2.mono (by omega), i3⟩ hl0 hl1 ha2 hw hS (lv_sub hl9 [4, 5, 6, 7, 8, 9, 10, 11, 12, 13, 14, 15, 16] rfl)
      · refine lv_iconst (v := 2) hx hb dL_law_312 (by decide) ?_
        refine lv_goto (tgt := 317) hx hb dL_law_313 (by decide) ?_
        refine lv_iload hx hb dL_law_317 (lv_at hl9 1 rfl) ?_
        refine lv_iload hx hb dL_law_319 (lv_at hl9 2 rfl) ?_
        refine lv_aload hx hb dL_law_321 (lv_at hl9 13 rfl) ?_
        refine lv_aload hx hb dL_law_323 (lv_at hl9 14 rfl) ?_
        refine lv_aload hx hb dL_law_325 (lv_at hl9 15 rfl) ?_
        refine lv_aload hx hb dL_law_327 (lv_at hl9 16 rfl) ?_
        refine hp_S (As := [.ref xo, .int 2, .int u, .int z, .ref lb, .ref lh, .ref lr, .ref lg]) (rest := []) B0 hw hS (c_L_bundles_2 hl G f9 xo ez eo bu nw0 na0 nq0 nr0 nw1 na1 nq1 nr1 bs bp bh bf bl bg S0 S1 gw0 ga0 gw1 ga1 n a cg x sa pk fl gv gh gl hC lb lh lr lg (fun p9 hp9 h9 => hdis p9 hp9 ((sub_cons (List.mem_cons_of_mem _ (List.mem_cons_of_mem _ (List.mem_cons_of_mem _ (List.mem_cons_of_mem _ (List.mem_cons_of_mem _ (List.mem_cons_of_mem _ List.mem_cons_self)))))) (sub_cons (List.mem_cons_of_mem _ (List.mem_cons_of_mem _ (List.mem_cons_of_mem _ (List.mem_cons_of_mem _ (List.mem_cons_of_mem _ (List.mem_cons_of_mem _ (List.mem_cons_of_mem _ List.mem_cons_self))))))) (sub_cons (List.mem_cons_of_mem _ (List.mem_cons_of_mem _ (List.mem_cons_of_mem _ (List.mem_cons_of_mem _ (List.mem_cons_of_mem _ (List.mem_cons_of_mem _ (List.mem_cons_of_mem _ (List.mem_cons_of_mem _ List.mem_cons_self)))))))) (sub_cons (List.mem_cons_of_mem _ (List.mem_cons_of_mem _ (List.mem_cons_of_mem _ (List.mem_cons_of_mem _ (List.mem_cons_of_mem _ (List.mem_cons_of_mem _ (List.mem_cons_of_mem _ (List.mem_cons_of_mem _ (List.mem_cons_of_mem _ List.mem_cons_self))))))))) sub_nil)))) p9 h9)) (fun p9 hp9 => hdos p9 ((sub_cons (List.mem_cons_of_mem _ (List.mem_cons_of_mem _ (List.mem_cons_of_mem _ (List.mem_cons_of_mem _ (List.mem_cons_of_mem _ (List.mem_cons_of_mem _ List.mem_cons_self)))))) (sub_cons (List.mem_cons_of_mem _ (List.mem_cons_of_mem _ (List.mem_cons_of_mem _ (List.mem_cons_of_mem _ (List.mem_cons_of_mem _ (List.mem_cons_of_mem _ (List.mem_cons_of_mem _ List.mem_cons_self))))))) (sub_cons (List.mem_cons_of_mem _ (List.mem_cons_of_mem _ (List.mem_cons_of_mem _ (List.mem_cons_of_mem _ (List.mem_cons_of_mem _ (List.mem_cons_of_mem _ (List.mem_cons_of_mem _ (List.mem_cons_of_mem _ List.mem_cons_self)))))))) (sub_cons (List.mem_cons_of_mem _ (List.mem_cons_of_mem _ (List.mem_cons_of_mem _ (List.mem_cons_of_mem _ (List.mem_cons_of_mem _ (List.mem_cons_of_mem _ (List.mem_cons_of_mem _ (List.mem_cons_of_mem _ (List.mem_cons_of_mem _ List.mem_cons_self))))))))) sub_nil)))) p9 hp9)) hLB ha60 hl0 hl1 u z) mS_L_bundles qM_L_180 rfl rfl hl9.1 (Nat.le_of_ble_eq_true rfl) ⟨⟨Nat.le_of_ble_eq_true rfl, Nat.le_of_ble_eq_true rfl⟩, (by first | omega | (dsimp only; omega) | (show (_ : Nat) ≤ _; simp only [room_1]; omega)), (by first | omega | (dsimp only; omega) | (show (_ : Nat) ≤ _; simp only [room_1]; omega))⟩ dL_law_329 (fun E ce q9 f5 H locs hPX hw hS hce hcv hcl => ?_) (fun v f5 H locs hP hw hS => ?_)
        · exact hPX.elim
        · obtain ⟨ev9, n2, a2, c2, x2, sa2, pk2, fl2, gv2, gh2, gl2, hC2, hLB2, ha2, hk2⟩ := hP
          subst ev9
          refine W.eq (g2 := F0 m 332 ls [.int 1]) rfl ?_
          refine lv_if_eq (tgt := 350) hx hb dL_law_332 (by decide) (fun c9 => absurd c9 (by decide)) (fun _ => ?_)
          refine W.widen (k := 73 + j * 248 + 203) (n := 1268 + j * 1388 + 1118) (by omega) (by omega) ?_
          obtain ⟨i1, i2, i3⟩ := hInv
          exact lt_335 hL hx hb hX hbl hl B0 hbA hdis hdos hlb hbl9 n_lx_ly n_lw_la n_lw_lq n_la_lq hj ih hC2 (hLX.kp hk2 (fun p9 hp9 h9 => (List.mem_append.mp h9).elim (hlb p9 hp9) (hdos p9 ((sub_cons List.mem_cons_self (sub_cons (List.mem_cons_of_mem _ List.mem_cons_self) (sub_cons (List.mem_cons_of_mem _ (List.mem_cons_of_mem _ List.mem_cons_self)) (sub_cons (List.mem_cons_of_mem _ (List.mem_cons_of_mem _ (List.mem_cons_of_mem _ List.mem_cons_self))) (sub_cons (List.mem_cons_of_mem _ (List.mem_cons_of_mem _ (List.mem_cons_of_mem _ (List.mem_cons_of_mem _ List.mem_cons_self)))) (sub_cons (List.mem_cons_of_mem _ (List.mem_cons_of_mem _ (List.mem_cons_of_mem _ (List.mem_cons_of_mem _ (List.mem_cons_of_mem _ List.mem_cons_self))))) sub_nil)))))) p9 hp9)))) hLB2 ⟨i1.mono (by omega), i2.mono (by omega), i3⟩ hl0 hl1 ha2 hw hS (lv_sub hl9 [4, 5, 6, 7, 8, 9, 10, 11, 12, 13, 14, 15, 16] rfl)
    · refine lv_iconst (v := 0) hx hb dL_law_301 (by decide) ?_
      refine lv_goto (tgt := 317) hx hb dL_law_302 (by decide) ?_
      refine lv_iload hx hb dL_law_317 (lv_at hl9 1 rfl) ?_
      refine lv_iload hx hb dL_law_319 (lv_at hl9 2 rfl) ?_
      refine lv_aload hx hb dL_law_321 (lv_at hl9 13 rfl) ?_
      refine lv_aload hx hb dL_law_323 (lv_at hl9 14 rfl) ?_
      refine lv_aload hx hb dL_law_325 (lv_at hl9 15 rfl) ?_
      refine lv_aload hx hb dL_law_327 (lv_at hl9 16 rfl) ?_
      refine hp_S (As := [.ref xo, .int 0, .int u, .int z, .ref lb, .ref lh, .ref lr, .ref lg]) (rest := []) B0 hw hS (c_L_bundles_0 hl G f9 xo ez eo bu nw0 na0 nq0 nr0 nw1 na1 nq1 nr1 bs bp bh bf bl bg S0 S1 gw0 ga0 gw1 ga1 n a cg x sa pk fl gv gh gl hC lb lh lr lg (fun p9 hp9 h9 => hdis p9 hp9 ((sub_cons (List.mem_cons_of_mem _ (List.mem_cons_of_mem _ (List.mem_cons_of_mem _ (List.mem_cons_of_mem _ (List.mem_cons_of_mem _ (List.mem_cons_of_mem _ List.mem_cons_self)))))) (sub_cons (List.mem_cons_of_mem _ (List.mem_cons_of_mem _ (List.mem_cons_of_mem _ (List.mem_cons_of_mem _ (List.mem_cons_of_mem _ (List.mem_cons_of_mem _ (List.mem_cons_of_mem _ List.mem_cons_self))))))) (sub_cons (List.mem_cons_of_mem _ (List.mem_cons_of_mem _ (List.mem_cons_of_mem _ (List.mem_cons_of_mem _ (List.mem_cons_of_mem _ (List.mem_cons_of_mem _ (List.mem_cons_of_mem _ (List.mem_cons_of_mem _ List.mem_cons_self)))))))) (sub_cons (List.mem_cons_of_mem _ (List.mem_cons_of_mem _ (List.mem_cons_of_mem _ (List.mem_cons_of_mem _ (List.mem_cons_of_mem _ (List.mem_cons_of_mem _ (List.mem_cons_of_mem _ (List.mem_cons_of_mem _ (List.mem_cons_of_mem _ List.mem_cons_self))))))))) sub_nil)))) p9 h9)) (fun p9 hp9 => hdos p9 ((sub_cons (List.mem_cons_of_mem _ (List.mem_cons_of_mem _ (List.mem_cons_of_mem _ (List.mem_cons_of_mem _ (List.mem_cons_of_mem _ (List.mem_cons_of_mem _ List.mem_cons_self)))))) (sub_cons (List.mem_cons_of_mem _ (List.mem_cons_of_mem _ (List.mem_cons_of_mem _ (List.mem_cons_of_mem _ (List.mem_cons_of_mem _ (List.mem_cons_of_mem _ (List.mem_cons_of_mem _ List.mem_cons_self))))))) (sub_cons (List.mem_cons_of_mem _ (List.mem_cons_of_mem _ (List.mem_cons_of_mem _ (List.mem_cons_of_mem _ (List.mem_cons_of_mem _ (List.mem_cons_of_mem _ (List.mem_cons_of_mem _ (List.mem_cons_of_mem _ List.mem_cons_self)))))))) (sub_cons (List.mem_cons_of_mem _ (List.mem_cons_of_mem _ (List.mem_cons_of_mem _ (List.mem_cons_of_mem _ (List.mem_cons_of_mem _ (List.mem_cons_of_mem _ (List.mem_cons_of_mem _ (List.mem_cons_of_mem _ (List.mem_cons_of_mem _ List.mem_cons_self))))))))) sub_nil)))) p9 hp9)) hLB ha60 hl0 hl1 u z) mS_L_bundles qM_L_180 rfl rfl hl9.1 (Nat.le_of_ble_eq_true rfl) ⟨⟨Nat.le_of_ble_eq_true rfl, Nat.le_of_ble_eq_true rfl⟩, (by first | omega | (dsimp only; omega) | (show (_ : Nat) ≤ _; simp only [room_1]; omega)), (by first | omega | (dsimp only; omega) | (show (_ : Nat) ≤ _; simp only [room_1]; omega))⟩ dL_law_329 (fun E ce q9 f6 H locs hPX hw hS hce hcv hcl => ?_) (fun v f6 H locs hP hw hS => ?_)
      · exact hPX.elim
      · obtain ⟨ev9, n2, a2, c2, x2, sa2, pk2, fl2, gv2, gh2, gl2, hC2, hLB2, ha2, hk2⟩ := hP
        subst ev9
        refine W.eq (g2 := F0 m 332 ls [.int 1]) rfl ?_
        refine lv_if_eq (tgt := 350) hx hb dL_law_332 (by decide) (fun c9 => absurd c9 (by decide)) (fun _ => ?_)
        refine W.widen (k := 73 + j * 248 + 203) (n := 1268 + j * 1388 + 1118) (by omega) (by omega) ?_
        obtain ⟨i1, i2, i3⟩ := hInv
        exact lt_335 hL hx hb hX hbl hl B0 hbA hdis hdos hlb hbl9 n_lx_ly n_lw_la n_lw_lq n_la_lq hj ih hC2 (hLX.kp hk2 (fun p9 hp9 h9 => (List.mem_append.mp h9).elim (hlb p9 hp9) (hdos p9 ((sub_cons List.mem_cons_self (sub_cons (List.mem_cons_of_mem _ List.mem_cons_self) (sub_cons (List.mem_cons_of_mem _ (List.mem_cons_of_mem _ List.mem_cons_self)) (sub_cons (List.mem_cons_of_mem _ (List.mem_cons_of_mem _ (List.mem_cons_of_mem _ List.mem_cons_self))) (sub_cons (List.mem_cons_of_mem _ (List.mem_cons_of_mem _ (List.mem_cons_of_mem _ (List.mem_cons_of_mem _ List.mem_cons_self)))) (sub_cons (List.mem_cons_of_mem _ (List.mem_cons_of_mem _ (List.mem_cons_of_mem _ (List.mem_cons_of_mem _ (List.mem_cons_of_mem _ List.mem_cons_self))))) sub_nil)))))) p9 hp9)))) hLB2 ⟨i1.mono (by omega), i2.mono (by omega), i3⟩ hl0 hl1 ha2 hw hS (lv_sub hl9 [4, 5, 6, 7, 8, 9, 10, 11, 12, 13, 14, 15, 16] rfl)
  · refine lv_aload_n hx hb dL_law_267 rfl (lv_at hl9 6 rfl) ?_
    refine lv_iload hx hb dL_law_268 (lv_at hl9 0 rfl) ?_
    refine lv_iload hx hb dL_law_270 (lv_at hl9 1 rfl) ?_
    refine lv_iload hx hb dL_law_272 (lv_at hl9 2 rfl) ?_
    refine lv_aload_n hx hb dL_law_274 rfl (lv_at hl9 7 rfl) ?_
    refine lv_aload_n hx hb dL_law_275 rfl (lv_at hl9 8 rfl) ?_
    refine lv_aload hx hb dL_law_276 (lv_at hl9 9 rfl) ?_
    refine lv_aload hx hb dL_law_278 (lv_at hl9 10 rfl) ?_
    refine lv_aload hx hb dL_law_280 (lv_at hl9 11 rfl) ?_
    refine lv_aload hx hb dL_law_282 (lv_at hl9 12 rfl) ?_
    have hac : ac < 24 := Nat.lt_of_not_le (fun h9 => c1 (nI_le h9 (by omega)))
    refine hp_S (As := [.ref xo, .int (nI ac), .int u, .int z, .ref lx, .ref ly, .ref lw, .ref la, .ref lq, .ref le]) (rest := []) B0 hw hS (c_L_links hl G f9 xo ez eo bu nw0 na0 nq0 nr0 nw1 na1 nq1 nr1 bs bp bh bf bl bg S0 S1 gw0 ga0 gw1 ga1 n a cg x sa pk fl gv gh gl hC lx ly lw la lq le (fun p9 hp9 h9 => hdis p9 hp9 ((sub_cons List.mem_cons_self (sub_cons (List.mem_cons_of_mem _ List.mem_cons_self) (sub_cons (List.mem_cons_of_mem _ (List.mem_cons_of_mem _ List.mem_cons_self)) (sub_cons (List.mem_cons_of_mem _ (List.mem_cons_of_mem _ (List.mem_cons_of_mem _ List.mem_cons_self))) (sub_cons (List.mem_cons_of_mem _ (List.mem_cons_of_mem _ (List.mem_cons_of_mem _ (List.mem_cons_of_mem _ List.mem_cons_self)))) (sub_cons (List.mem_cons_of_mem _ (List.mem_cons_of_mem _ (List.mem_cons_of_mem _ (List.mem_cons_of_mem _ (List.mem_cons_of_mem _ List.mem_cons_self))))) sub_nil)))))) p9 h9)) (fun p9 hp9 => hdos p9 ((sub_cons List.mem_cons_self (sub_cons (List.mem_cons_of_mem _ List.mem_cons_self) (sub_cons (List.mem_cons_of_mem _ (List.mem_cons_of_mem _ List.mem_cons_self)) (sub_cons (List.mem_cons_of_mem _ (List.mem_cons_of_mem _ (List.mem_cons_of_mem _ List.mem_cons_self))) (sub_cons (List.mem_cons_of_mem _ (List.mem_cons_of_mem _ (List.mem_cons_of_mem _ (List.mem_cons_of_mem _ List.mem_cons_self)))) (sub_cons (List.mem_cons_of_mem _ (List.mem_cons_of_mem _ (List.mem_cons_of_mem _ (List.mem_cons_of_mem _ (List.mem_cons_of_mem _ List.mem_cons_self))))) sub_nil)))))) p9 hp9)) n_lx_ly n_lw_la n_lw_lq n_la_lq hLX _ hInv (by omega) hl0 hl1 ac hac hact u z) mS_L_links qM_L_176 rfl rfl hl9.1 (Nat.le_of_ble_eq_true rfl) ⟨⟨Nat.le_of_ble_eq_true rfl, Nat.le_of_ble_eq_true rfl⟩, (by first | omega | (dsimp only; omega) | (show (_ : Nat) ≤ _; simp only [room_1]; omega)), (by first | omega | (dsimp only; omega) | (show (_ : Nat) ≤ _; simp only [room_1]; omega))⟩ dL_law_284 (fun E ce q9 f7 H locs hPX hw hS hce hcv hcl => ?_) (fun v f7 H locs hP hw hS => ?_)
    · exact hPX.elim
    · obtain ⟨ev9, S2, S3, w0, a0, w1, a1, hC2, hLX2, hInv2, hl2, hl3, hk2⟩ := hP
      subst ev9
      refine W.eq (g2 := F0 m 287 ls [.int 1]) rfl ?_
      refine lv_if_eq (tgt := 350) hx hb dL_law_287 (by decide) (fun c9 => absurd c9 (by decide)) (fun _ => ?_)
      refine lv_goto (tgt := 335) hx hb dL_law_290 (by decide) ?_
      refine W.widen (k := 73 + j * 248 + 203) (n := 1268 + j * 1388 + 1118) (by omega) (by omega) ?_
      exact lt_335 hL hx hb hX hbl hl B0 hbA hdis hdos hlb hbl9 n_lx_ly n_lw_la n_lw_lq n_la_lq hj ih hC2 hLX2 (hLB.kp hk2 (fun p9 hp9 h9 => (List.mem_append.mp h9).elim (hbl9 p9 hp9) (hdos p9 ((sub_cons (List.mem_cons_of_mem _ (List.mem_cons_of_mem _ (List.mem_cons_of_mem _ (List.mem_cons_of_mem _ (List.mem_cons_of_mem _ (List.mem_cons_of_mem _ List.mem_cons_self)))))) (sub_cons (List.mem_cons_of_mem _ (List.mem_cons_of_mem _ (List.mem_cons_of_mem _ (List.mem_cons_of_mem _ (List.mem_cons_of_mem _ (List.mem_cons_of_mem _ (List.mem_cons_of_mem _ List.mem_cons_self))))))) (sub_cons (List.mem_cons_of_mem _ (List.mem_cons_of_mem _ (List.mem_cons_of_mem _ (List.mem_cons_of_mem _ (List.mem_cons_of_mem _ (List.mem_cons_of_mem _ (List.mem_cons_of_mem _ (List.mem_cons_of_mem _ List.mem_cons_self)))))))) (sub_cons (List.mem_cons_of_mem _ (List.mem_cons_of_mem _ (List.mem_cons_of_mem _ (List.mem_cons_of_mem _ (List.mem_cons_of_mem _ (List.mem_cons_of_mem _ (List.mem_cons_of_mem _ (List.mem_cons_of_mem _ (List.mem_cons_of_mem _ List.mem_cons_self))))))))) sub_nil)))) p9 hp9)))) (by rw [show 100 * (j + 1) = 100 * j + 100 by omega]; exact hInv2) hl2 hl3 ha60 hw hS (lv_sub hl9 [4, 5, 6, 7, 8, 9, 10, 11, 12, 13, 14, 15, 16] rfl)

set_option maxHeartbeats 4000000 in
set_option maxRecDepth 100000 in
theorem law_loop {p : Program} {l : Launch} {e : Env} {s : State} {m : MethodId} {below : List Frame} {meth : Method} {c : Code} {b L : Nat} {xs : Nat → Int32} (hL : L ≤ 260) (hx : p.tables.exec = Jvm.exec) (hb : c.code = code) (hr : meth.sig.returnType = ret) (hlocks : meth.locks = false) (hX : va_X b L xs s s.heap) (hbl : b < s.heap.size) (hl : l.stackTraces = false) {G : hG} (B0 : hB p l s m #[Value.ref b] meth c code 17 RL G) (hbA : ¬ hFr G b) (hFs : ∀ q : Nat, hFr G q → s.heap.size ≤ q) {xo ez eo bu nw0 na0 nq0 nr0 nw1 na1 nq1 nr1 bs bp bh bf bl bg lx ly lw la lq le lb lh lr lg : Nat} (hdis : ∀ p, p ∈ [xo, ez, eo, bu, nw0, na0, nq0, nr0, nw1, na1, nq1, nr1, bs, bp, bh, bf, bl, bg] → p ∉ [lx, ly, lw, la, lq, le, lb, lh, lr, lg]) (hdos : ∀ p, p ∈ [lx, ly, lw, la, lq, le, lb, lh, lr, lg] → p ∉ [xo, ez, eo, bu, nw0, na0, nq0, nr0, nw1, na1, nq1, nr1, bs, bp, bh, bf, bl, bg]) (hlb : ∀ p, p ∈ [lx, ly, lw, la, lq, le] → p ∉ [lb, lh, lr, lg]) (hbl9 : ∀ p, p ∈ [lb, lh, lr, lg] → p ∉ [lx, ly, lw, la, lq, le]) (n_lx_ly : lx ≠ ly) (n_lw_la : lw ≠ la) (n_lw_lq : lw ≠ lq) (n_la_lq : la ≠ lq) {S0 : ES} {S1 : ES} {gw0 : Nat → Int32} {ga0 : Nat → Int32} {gw1 : Nat → Int32} {ga1 : Nat → Int32} {n : Nat} {a : Nat} {cg : Nat} {x : Nat} {sa : Nat → Nat} {pk : Nat → Nat} {fl : Nat → Nat} {gv : Nat → Nat} {gh : Nat → Int32} {gl : Nat → Int32} {f9 : hM} (hC : CXW G f9 xo ez eo bu nw0 na0 nq0 nr0 nw1 na1 nq1 nr1 bs bp bh bf bl bg S0 S1 gw0 ga0 gw1 ga1 n a cg x sa pk fl gv gh gl) (hLX : LX G f9 lx ly lw la lq le S0 S1 gw0 ga0 gw1 ga1) (hLB : LBX G f9 lb lh lr lg n a cg x sa fl gv gh gl) (hInv : INV (100 * 0) S0 S1 gw0 ga0 gw1 ga1) (hl0 : S0.2.2.2.2.2.2.2.2.length ≤ 52) (hl1 : S1.2.2.2.2.2.2.2.2.length ≤ 52) (ha60 : a ≤ 60) {H : Heap} {locs : List Loc} {ls : Array Slot} (hw : hW G f9 H) (hS : va_S (hFr G) s.heap H locs) (hl9 : lv_has ls 17 [(12, .int (nI 0)), (0, .ref b), (1, .ref xo), (2, .ref lx), (3, .ref ly), (4, .ref lw), (5, .ref la), (6, .ref lq), (7, .ref le), (8, .ref lb), (9, .ref lh), (10, .ref lr), (11, .ref lg)]) : W p l e room_1 s m #[Value.ref b] below meth c H locs (73) (1268) (lw_Z below #[Value.ref b] s) (F0 m 152 ls []) := by
  refine hp_cs (c2 := 73 + 0 * 248) (s2 := 1268 + 0 * 1388) (by rfl) (by rfl) ?_
  refine hp_forC (nL := 17) (pc := 152) (lawI G xo ez eo bu nw0 na0 nq0 nr0 nw1 na1 nq1 nr1 bs bp bh bf bl bg lx ly lw la lq le lb lh lr lg b) 150 73 1268 248 1388 (fun j f9 lv9 H locs ls hj hI hw hS hl9 ih => ?_) (fun f9 lv9 H locs ls hI hw hS hl9 => ?_) 150 0 (Nat.zero_add 150) f9 _ _ _ ls ⟨_, _, _, _, _, _, _, _, _, _, _, _, _, _, _, _, hC, hLX, hLB, hInv, hl0, hl1, ha60, rfl⟩ hw hS hl9
  · obtain ⟨S0, S1, gw0, ga0, gw1, ga1, n, a, cg, x, sa, pk, fl, gv, gh, gl, hC, hLX, hLB, hInv, hl0, hl1, ha60, el9⟩ := hI
    rw [el9] at hl9
    have k_le := hLX.2.2.2.2.2
    refine lv_iload hx hb dL_law_152 (lv_at hl9 0 rfl) ?_
    refine lv_sipush (v := 150) hx hb dL_law_154 (by decide) ?_
    refine lv_icmp_ge (tgt := 358) hx hb dL_law_157 (by decide) (fun c9 => absurd c9 (show ¬ nI 150 ≤ nI j from nI_ge hj (by omega))) (fun _ => ?_)
    refine lv_aload_n hx hb dL_law_160 rfl (lv_at hl9 1 rfl) ?_
    refine lv_iconst (v := 3) hx hb dL_law_161 (by decide) ?_
    refine lv_iload hx hb dL_law_162 (lv_at hl9 0 rfl) ?_
    refine lv_imul hx hb dL_law_164 ?_
    refine hp_c (v := (nI (3 * j))) (pk_mul 3 j) ?_
    refine hp_cell (rest := []) B0 hl hw hS hX hbl hbA (by omega) (by omega) qM_L_172 hl9.1 (Nat.le_of_ble_eq_true rfl) ⟨⟨Nat.le_of_ble_eq_true rfl, Nat.le_of_ble_eq_true rfl⟩, (by first | omega | (dsimp only; omega) | (show (_ : Nat) ≤ _; simp only [room_1]; omega)), (by first | omega | (dsimp only; omega) | (show (_ : Nat) ≤ _; simp only [room_1]; omega))⟩ dL_law_165 (fun w1 H locs hw hS => ?_)
    refine lv_istore (lv' := [(13, .int w1), (12, .int (nI j)), (0, .ref b), (1, .ref xo), (2, .ref lx), (3, .ref ly), (4, .ref lw), (5, .ref la), (6, .ref lq), (7, .ref le), (8, .ref lb), (9, .ref lh), (10, .ref lr), (11, .ref lg)]) hx hb dL_law_168 hl9 (by decide) rfl (fun ls hl9 => ?_)
    refine lv_aload_n hx hb dL_law_170 rfl (lv_at hl9 2 rfl) ?_
    refine lv_iconst (v := 3) hx hb dL_law_171 (by decide) ?_
    refine lv_iload hx hb dL_law_172 (lv_at hl9 1 rfl) ?_
    refine lv_imul hx hb dL_law_174 ?_
    refine hp_c (v := (nI (3 * j))) (pk_mul 3 j) ?_
    refine lv_iconst (v := 1) hx hb dL_law_175 (by decide) ?_
    refine lv_iadd hx hb dL_law_176 ?_
    refine hp_c (v := (nI (3 * j + 1))) (nI_add (3 * j) 1) ?_
    refine hp_cell (rest := []) B0 hl hw hS hX hbl hbA (by omega) (by omega) qM_L_172 hl9.1 (Nat.le_of_ble_eq_true rfl) ⟨⟨Nat.le_of_ble_eq_true rfl, Nat.le_of_ble_eq_true rfl⟩, (by first | omega | (dsimp only; omega) | (show (_ : Nat) ≤ _; simp only [room_1]; omega)), (by first | omega | (dsimp only; omega) | (show (_ : Nat) ≤ _; simp only [room_1]; omega))⟩ dL_law_177 (fun w2 H locs hw hS => ?_)
    refine lv_istore (lv' := [(14, .int w2), (13, .int w1), (12, .int (nI j)), (0, .ref b), (1, .ref xo), (2, .ref lx), (3, .ref ly), (4, .ref lw), (5, .ref la), (6, .ref lq), (7, .ref le), (8, .ref lb), (9, .ref lh), (10, .ref lr), (11, .ref lg)]) hx hb dL_law_180 hl9 (by decide) rfl (fun ls hl9 => ?_)
    refine lv_aload_n hx hb dL_law_182 rfl (lv_at hl9 3 rfl) ?_
    refine lv_iconst (v := 3) hx hb dL_law_183 (by decide) ?_
    refine lv_iload hx hb dL_law_184 (lv_at hl9 2 rfl) ?_
    refine lv_imul hx hb dL_law_186 ?_
    refine hp_c (v := (nI (3 * j))) (pk_mul 3 j) ?_
    refine lv_iconst (v := 2) hx hb dL_law_187 (by decide) ?_
    refine lv_iadd hx hb dL_law_188 ?_
    refine hp_c (v := (nI (3 * j + 2))) (nI_add (3 * j) 2) ?_
    refine hp_cell (rest := []) B0 hl hw hS hX hbl hbA (by omega) (by omega) qM_L_172 hl9.1 (Nat.le_of_ble_eq_true rfl) ⟨⟨Nat.le_of_ble_eq_true rfl, Nat.le_of_ble_eq_true rfl⟩, (by first | omega | (dsimp only; omega) | (show (_ : Nat) ≤ _; simp only [room_1]; omega)), (by first | omega | (dsimp only; omega) | (show (_ : Nat) ≤ _; simp only [room_1]; omega))⟩ dL_law_189 (fun w3 H locs hw hS => ?_)
    refine lv_istore (lv' := [(15, .int w3), (14, .int w2), (13, .int w1), (12, .int (nI j)), (0, .ref b), (1, .ref xo), (2, .ref lx), (3, .ref ly), (4, .ref lw), (5, .ref la), (6, .ref lq), (7, .ref le), (8, .ref lb), (9, .ref lh), (10, .ref lr), (11, .ref lg)]) hx hb dL_law_192 hl9 (by decide) rfl (fun ls hl9 => ?_)
    refine lv_iload hx hb dL_law_194 (lv_at hl9 3 rfl) ?_
    refine lv_bipush (v := 8) hx hb dL_law_196 (by decide) ?_
    refine lv_icmp_ge (tgt := 210) hx hb dL_law_198 (by decide) (fun c4 => ?_) (fun c4 => ?_)
    · refine lv_iload hx hb dL_law_210 (lv_at hl9 2 rfl) ?_
      refine lv_bipush (v := 32) hx hb dL_law_212 (by decide) ?_
      refine hp_S (As := [.int w1, .int 32]) (rest := []) B0 hw hS (c_L_low hl G f9 w1 32 (by omega) (by omega)) mS_L_low qM_L_94 rfl rfl hl9.1 (Nat.le_of_ble_eq_true rfl) ⟨⟨Nat.le_of_ble_eq_true rfl, Nat.le_of_ble_eq_true rfl⟩, (by first | omega | (dsimp only; omega) | (show (_ : Nat) ≤ _; simp only [room_1]; omega)), (by first | omega | (dsimp only; omega) | (show (_ : Nat) ≤ _; simp only [room_1]; omega))⟩ dL_law_214 (fun E ce q9 f5 H locs hPX hw hS hce hcv hcl => ?_) (fun v f5 H locs hP hw hS => ?_)
      · exact hPX.elim
      · obtain ⟨ef9, j6, hj7, ev9⟩ := hP
        rw [ef9] at hw
        subst ev9
        refine W.eq (g2 := F0 m 217 ls [.int (nI j6)]) rfl ?_
        refine lv_istore (lv' := [(16, .int (nI j6)), (15, .int w3), (14, .int w2), (13, .int w1), (12, .int (nI j)), (0, .ref b), (1, .ref xo), (2, .ref lx), (3, .ref ly), (4, .ref lw), (5, .ref la), (6, .ref lq), (7, .ref le), (8, .ref lb), (9, .ref lh), (10, .ref lr), (11, .ref lg)]) hx hb dL_law_217 hl9 (by decide) rfl (fun ls hl9 => ?_)
        refine lv_aload hx hb dL_law_219 (lv_at hl9 12 rfl) ?_
        refine lv_bipush (v := 7) hx hb dL_law_221 (by decide) ?_
        refine hp_iald B0 hw k_le (by unfold vp_in; decide) dL_law_223 ?_
        refine hp_c (v := (nI S0.2.2.2.2.2.2.2.2.length)) (rfl) ?_
        refine lv_bipush (v := 40) hx hb dL_law_224 (by decide) ?_
        refine lv_icmp_gt (tgt := 239) hx hb dL_law_226 (by decide) (fun c8 => ?_) (fun c8 => ?_)
        · refine lv_bipush (v := 22) hx hb dL_law_239 (by decide) ?_
          refine lv_istore (lv' := [(16, .int 22), (15, .int w3), (14, .int w2), (13, .int w1), (12, .int (nI j)), (0, .ref b), (1, .ref xo), (2, .ref lx), (3, .ref ly), (4, .ref lw), (5, .ref la), (6, .ref lq), (7, .ref le), (8, .ref lb), (9, .ref lh), (10, .ref lr), (11, .ref lg)]) hx hb dL_law_241 hl9 (by decide) rfl (fun ls hl9 => ?_)
          refine lv_aload hx hb dL_law_243 (lv_at hl9 12 rfl) ?_
          refine lv_bipush (v := 7) hx hb dL_law_245 (by decide) ?_
          refine hp_iald B0 hw k_le (by unfold vp_in; decide) dL_law_247 ?_
          refine hp_c (v := (nI S0.2.2.2.2.2.2.2.2.length)) (rfl) ?_
          refine lv_bipush (v := 40) hx hb dL_law_248 (by decide) ?_
          refine lv_icmp_le (tgt := 257) hx hb dL_law_250 (by decide) (fun c9 => ?_) (fun c9 => ?_)
          · refine lv_iconst (v := 1) hx hb dL_law_257 (by decide) ?_
            refine lv_istore (lv' := [(14, .int 1), (16, .int 22), (15, .int w3), (13, .int w1), (12, .int (nI j)), (0, .ref b), (1, .ref xo), (2, .ref lx), (3, .ref ly), (4, .ref lw), (5, .ref la), (6, .ref lq), (7, .ref le), (8, .ref lb), (9, .ref lh), (10, .ref lr), (11, .ref lg)]) hx hb dL_law_258 hl9 (by decide) rfl (fun ls hl9 => ?_)
            exact lt_260 hL hx hb hX hbl hl B0 hbA hdis hdos hlb hbl9 n_lx_ly n_lw_la n_lw_lq n_la_lq hj ih 22 (by omega) 1 w3 w1 hC hLX hLB hInv hl0 hl1 ha60 hw hS (lv_sub hl9 [1, 0, 2, 3, 4, 5, 6, 7, 8, 9, 10, 11, 12, 13, 14, 15, 16] rfl) (fun h9 => absurd rfl h9)
          · refine lv_iconst (v := 0) hx hb dL_law_253 (by decide) ?_
            refine lv_goto (tgt := 258) hx hb dL_law_254 (by decide) ?_
            refine lv_istore (lv' := [(14, .int 0), (16, .int 22), (15, .int w3), (13, .int w1), (12, .int (nI j)), (0, .ref b), (1, .ref xo), (2, .ref lx), (3, .ref ly), (4, .ref lw), (5, .ref la), (6, .ref lq), (7, .ref le), (8, .ref lb), (9, .ref lh), (10, .ref lr), (11, .ref lg)]) hx hb dL_law_258 hl9 (by decide) rfl (fun ls hl9 => ?_)
            exact lt_260 hL hx hb hX hbl hl B0 hbA hdis hdos hlb hbl9 n_lx_ly n_lw_la n_lw_lq n_la_lq hj ih 22 (by omega) 0 w3 w1 hC hLX hLB hInv hl0 hl1 ha60 hw hS (lv_sub hl9 [1, 0, 2, 3, 4, 5, 6, 7, 8, 9, 10, 11, 12, 13, 14, 15, 16] rfl) (fun h9 => absurd rfl h9)
        · refine lv_aload hx hb dL_law_229 (lv_at hl9 12 rfl) ?_
          refine lv_bipush (v := 15) hx hb dL_law_231 (by decide) ?_
          refine hp_iald B0 hw k_le (by unfold vp_in; decide) dL_law_233 ?_
          refine hp_c (v := (nI S1.2.2.2.2.2.2.2.2.length)) (rfl) ?_
          refine lv_bipush (v := 40) hx hb dL_law_234 (by decide) ?_
          refine lv_icmp_le (tgt := 260) hx hb dL_law_236 (by decide) (fun c10 => ?_) (fun c10 => ?_)
          · exact lt_260 hL hx hb hX hbl hl B0 hbA hdis hdos hlb hbl9 n_lx_ly n_lw_la n_lw_lq n_la_lq hj ih j6 (by omega) w2 w3 w1 hC hLX hLB hInv hl0 hl1 ha60 hw hS (lv_sub hl9 [0, 2, 1, 3, 4, 5, 6, 7, 8, 9, 10, 11, 12, 13, 14, 15, 16] rfl) (fun _ => ⟨(by have h9 := Int32.not_lt.mp c8; exact (nI_leI (show S0.2.2.2.2.2.2.2.2.length < 2 ^ 31 by omega) (show 40 < 2 ^ 31 by omega)).mp h9), (by have h9 := (nI_leI (show S1.2.2.2.2.2.2.2.2.length < 2 ^ 31 by omega) (show 40 < 2 ^ 31 by omega)).mp c10; exact h9)⟩)
          · refine lv_bipush (v := 22) hx hb dL_law_239 (by decide) ?_
            refine lv_istore (lv' := [(16, .int 22), (15, .int w3), (14, .int w2), (13, .int w1), (12, .int (nI j)), (0, .ref b), (1, .ref xo), (2, .ref lx), (3, .ref ly), (4, .ref lw), (5, .ref la), (6, .ref lq), (7, .ref le), (8, .ref lb), (9, .ref lh), (10, .ref lr), (11, .ref lg)]) hx hb dL_law_241 hl9 (by decide) rfl (fun ls hl9 => ?_)
            refine lv_aload hx hb dL_law_243 (lv_at hl9 12 rfl) ?_
            refine lv_bipush (v := 7) hx hb dL_law_245 (by decide) ?_
            refine hp_iald B0 hw k_le (by unfold vp_in; decide) dL_law_247 ?_
            refine hp_c (v := (nI S0.2.2.2.2.2.2.2.2.length)) (rfl) ?_
            refine lv_bipush (v := 40) hx hb dL_law_248 (by decide) ?_
            refine lv_icmp_le (tgt := 257) hx hb dL_law_250 (by decide) (fun c11 => ?_) (fun c11 => ?_)
            · refine lv_iconst (v := 1) hx hb dL_law_257 (by decide) ?_
              refine lv_istore (lv' := [(14, .int 1), (16, .int 22), (15, .int w3), (13, .int w1), (12, .int (nI j)), (0, .ref b), (1, .ref xo), (2, .ref lx), (3, .ref ly), (4, .ref lw), (5, .ref la), (6, .ref lq), (7, .ref le), (8, .ref lb), (9, .ref lh), (10, .ref lr), (11, .ref lg)]) hx hb dL_law_258 hl9 (by decide) rfl (fun ls hl9 => ?_)
              exact lt_260 hL hx hb hX hbl hl B0 hbA hdis hdos hlb hbl9 n_lx_ly n_lw_la n_lw_lq n_la_lq hj ih 22 (by omega) 1 w3 w1 hC hLX hLB hInv hl0 hl1 ha60 hw hS (lv_sub hl9 [1, 0, 2, 3, 4, 5, 6, 7, 8, 9, 10, 11, 12, 13, 14, 15, 16] rfl) (fun h9 => absurd rfl h9)
            · refine lv_iconst (v := 0) hx hb dL_law_253 (by decide) ?_
              refine lv_goto (tgt := 258) hx hb dL_law_254 (by decide) ?_
              refine lv_istore (lv' := [(14, .int 0), (16, .int 22), (15, .int w3), (13, .int w1), (12, .int (nI j)), (0, .ref b), (1, .ref xo), (2, .ref lx), (3, .ref ly), (4, .ref lw), (5, .ref la), (6, .ref lq), (7, .ref le), (8, .ref lb), (9, .ref lh), (10, .ref lr), (11, .ref lg)]) hx hb dL_law_258 hl9 (by decide) rfl (fun ls hl9 => ?_)
              exact lt_260 hL hx hb hX hbl hl B0 hbA hdis hdos hlb hbl9 n_lx_ly n_lw_la n_lw_lq n_la_lq hj ih 22 (by omega) 0 w3 w1 hC hLX hLB hInv hl0 hl1 ha60 hw hS (lv_sub hl9 [1, 0, 2, 3, 4, 5, 6, 7, 8, 9, 10, 11, 12, 13, 14, 15, 16] rfl) (fun h9 => absurd rfl h9)
    · refine lv_iload hx hb dL_law_201 (lv_at hl9 3 rfl) ?_
      refine lv_iconst (v := 2) hx hb dL_law_203 (by decide) ?_
      refine lv_irem hx hb dL_law_204 (by decide) ?_
      refine hp_c (v := (nI (j % 2))) (pk_rem (d := 2) (by omega) (by omega) (by omega)) ?_
      refine lv_iconst (v := 4) hx hb dL_law_205 (by decide) ?_
      refine lv_imul hx hb dL_law_206 ?_
      refine hp_c (v := (nI (j % 2 * 4))) (pk_mul (j % 2) 4) ?_
      refine lv_goto (tgt := 217) hx hb dL_law_207 (by decide) ?_
      refine lv_istore (lv' := [(16, .int (nI (j % 2 * 4))), (15, .int w3), (14, .int w2), (13, .int w1), (12, .int (nI j)), (0, .ref b), (1, .ref xo), (2, .ref lx), (3, .ref ly), (4, .ref lw), (5, .ref la), (6, .ref lq), (7, .ref le), (8, .ref lb), (9, .ref lh), (10, .ref lr), (11, .ref lg)]) hx hb dL_law_217 hl9 (by decide) rfl (fun ls hl9 => ?_)
      refine lv_aload hx hb dL_law_219 (lv_at hl9 12 rfl) ?_
      refine lv_bipush (v := 7) hx hb dL_law_221 (by decide) ?_
      refine hp_iald B0 hw k_le (by unfold vp_in; decide) dL_law_223 ?_
      refine hp_c (v := (nI S0.2.2.2.2.2.2.2.2.length)) (rfl) ?_
      refine lv_bipush (v := 40) hx hb dL_law_224 (by decide) ?_
      refine lv_icmp_gt (tgt := 239) hx hb dL_law_226 (by decide) (fun c12 => ?_) (fun c12 => ?_)
      · refine lv_bipush (v := 22) hx hb dL_law_239 (by decide) ?_
        refine lv_istore (lv' := [(16, .int 22), (15, .int w3), (14, .int w2), (13, .int w1), (12, .int (nI j)), (0, .ref b), (1, .ref xo), (2, .ref lx), (3, .ref ly), (4, .ref lw), (5, .ref la), (6, .ref lq), (7, .ref le), (8, .ref lb), (9, .ref lh), (10, .ref lr), (11, .ref lg)]) hx hb dL_law_241 hl9 (by decide) rfl (fun ls hl9 => ?_)
        refine lv_aload hx hb dL_law_243 (lv_at hl9 12 rfl) ?_
        refine lv_bipush (v := 7) hx hb dL_law_245 (by decide) ?_
        refine hp_iald B0 hw k_le (by unfold vp_in; decide) dL_law_247 ?_
        refine hp_c (v := (nI S0.2.2.2.2.2.2.2.2.length)) (rfl) ?_
        refine lv_bipush (v := 40) hx hb dL_law_248 (by decide) ?_
        refine lv_icmp_le (tgt := 257) hx hb dL_law_250 (by decide) (fun c13 => ?_) (fun c13 => ?_)
        · refine lv_iconst (v := 1) hx hb dL_law_257 (by decide) ?_
          refine lv_istore (lv' := [(14, .int 1), (16, .int 22), (15, .int w3), (13, .int w1), (12, .int (nI j)), (0, .ref b), (1, .ref xo), (2, .ref lx), (3, .ref ly), (4, .ref lw), (5, .ref la), (6, .ref lq), (7, .ref le), (8, .ref lb), (9, .ref lh), (10, .ref lr), (11, .ref lg)]) hx hb dL_law_258 hl9 (by decide) rfl (fun ls hl9 => ?_)
          exact lt_260 hL hx hb hX hbl hl B0 hbA hdis hdos hlb hbl9 n_lx_ly n_lw_la n_lw_lq n_la_lq hj ih 22 (by omega) 1 w3 w1 hC hLX hLB hInv hl0 hl1 ha60 hw hS (lv_sub hl9 [1, 0, 2, 3, 4, 5, 6, 7, 8, 9, 10, 11, 12, 13, 14, 15, 16] rfl) (fun h9 => absurd rfl h9)
        · refine lv_iconst (v := 0) hx hb dL_law_253 (by decide) ?_
          refine lv_goto (tgt := 258) hx hb dL_law_254 (by decide) ?_
          refine lv_istore (lv' := [(14, .int 0), (16, .int 22), (15, .int w3), (13, .int w1), (12, .int (nI j)), (0, .ref b), (1, .ref xo), (2, .ref lx), (3, .ref ly), (4, .ref lw), (5, .ref la), (6, .ref lq), (7, .ref le), (8, .ref lb), (9, .ref lh), (10, .ref lr), (11, .ref lg)]) hx hb dL_law_258 hl9 (by decide) rfl (fun ls hl9 => ?_)
          exact lt_260 hL hx hb hX hbl hl B0 hbA hdis hdos hlb hbl9 n_lx_ly n_lw_la n_lw_lq n_la_lq hj ih 22 (by omega) 0 w3 w1 hC hLX hLB hInv hl0 hl1 ha60 hw hS (lv_sub hl9 [1, 0, 2, 3, 4, 5, 6, 7, 8, 9, 10, 11, 12, 13, 14, 15, 16] rfl) (fun h9 => absurd rfl h9)
      · refine lv_aload hx hb dL_law_229 (lv_at hl9 12 rfl) ?_
        refine lv_bipush (v := 15) hx hb dL_law_231 (by decide) ?_
        refine hp_iald B0 hw k_le (by unfold vp_in; decide) dL_law_233 ?_
        refine hp_c (v := (nI S1.2.2.2.2.2.2.2.2.length)) (rfl) ?_
        refine lv_bipush (v := 40) hx hb dL_law_234 (by decide) ?_
        refine lv_icmp_le (tgt := 260) hx hb dL_law_236 (by decide) (fun c14 => ?_) (fun c14 => ?_)
        · exact lt_260 hL hx hb hX hbl hl B0 hbA hdis hdos hlb hbl9 n_lx_ly n_lw_la n_lw_lq n_la_lq hj ih (j % 2 * 4) (by omega) w2 w3 w1 hC hLX hLB hInv hl0 hl1 ha60 hw hS (lv_sub hl9 [0, 2, 1, 3, 4, 5, 6, 7, 8, 9, 10, 11, 12, 13, 14, 15, 16] rfl) (fun _ => ⟨(by have h9 := Int32.not_lt.mp c12; exact (nI_leI (show S0.2.2.2.2.2.2.2.2.length < 2 ^ 31 by omega) (show 40 < 2 ^ 31 by omega)).mp h9), (by have h9 := (nI_leI (show S1.2.2.2.2.2.2.2.2.length < 2 ^ 31 by omega) (show 40 < 2 ^ 31 by omega)).mp c14; exact h9)⟩)
        · refine lv_bipush (v := 22) hx hb dL_law_239 (by decide) ?_
          refine lv_istore (lv' := [(16, .int 22), (15, .int w3), (14, .int w2), (13, .int w1), (12, .int (nI j)), (0, .ref b), (1, .ref xo), (2, .ref lx), (3, .ref ly), (4, .ref lw), (5, .ref la), (6, .ref lq), (7, .ref le), (8, .ref lb), (9, .ref lh), (10, .ref lr), (11, .ref lg)]) hx hb dL_law_241 hl9 (by decide) rfl (fun ls hl9 => ?_)
          refine lv_aload hx hb dL_law_243 (lv_at hl9 12 rfl) ?_
          refine lv_bipush (v := 7) hx hb dL_law_245 (by decide) ?_
          refine hp_iald B0 hw k_le (by unfold vp_in; decide) dL_law_247 ?_
          refine hp_c (v := (nI S0.2.2.2.2.2.2.2.2.length)) (rfl) ?_
          refine lv_bipush (v := 40) hx hb dL_law_248 (by decide) ?_
          refine lv_icmp_le (tgt := 257) hx hb dL_law_250 (by decide) (fun c15 => ?_) (fun c15 => ?_)
          · refine lv_iconst (v := 1) hx hb dL_law_257 (by decide) ?_
            refine lv_istore (lv' := [(14, .int 1), (16, .int 22), (15, .int w3), (13, .int w1), (12, .int (nI j)), (0, .ref b), (1, .ref xo), (2, .ref lx), (3, .ref ly), (4, .ref lw), (5, .ref la), (6, .ref lq), (7, .ref le), (8, .ref lb), (9, .ref lh), (10, .ref lr), (11, .ref lg)]) hx hb dL_law_258 hl9 (by decide) rfl (fun ls hl9 => ?_)
            exact lt_260 hL hx hb hX hbl hl B0 hbA hdis hdos hlb hbl9 n_lx_ly n_lw_la n_lw_lq n_la_lq hj ih 22 (by omega) 1 w3 w1 hC hLX hLB hInv hl0 hl1 ha60 hw hS (lv_sub hl9 [1, 0, 2, 3, 4, 5, 6, 7, 8, 9, 10, 11, 12, 13, 14, 15, 16] rfl) (fun h9 => absurd rfl h9)
          · refine lv_iconst (v := 0) hx hb dL_law_253 (by decide) ?_
            refine lv_goto (tgt := 258) hx hb dL_law_254 (by decide) ?_
            refine lv_istore (lv' := [(14, .int 0), (16, .int 22), (15, .int w3), (13, .int w1), (12, .int (nI j)), (0, .ref b), (1, .ref xo), (2, .ref lx), (3, .ref ly), (4, .ref lw), (5, .ref la), (6, .ref lq), (7, .ref le), (8, .ref lb), (9, .ref lh), (10, .ref lr), (11, .ref lg)]) hx hb dL_law_258 hl9 (by decide) rfl (fun ls hl9 => ?_)
            exact lt_260 hL hx hb hX hbl hl B0 hbA hdis hdos hlb hbl9 n_lx_ly n_lw_la n_lw_lq n_la_lq hj ih 22 (by omega) 0 w3 w1 hC hLX hLB hInv hl0 hl1 ha60 hw hS (lv_sub hl9 [1, 0, 2, 3, 4, 5, 6, 7, 8, 9, 10, 11, 12, 13, 14, 15, 16] rfl) (fun h9 => absurd rfl h9)
  · obtain ⟨S0, S1, gw0, ga0, gw1, ga1, n, a, cg, x, sa, pk, fl, gv, gh, gl, hC, hLX, hLB, hInv, hl0, hl1, ha60, el9⟩ := hI
    rw [el9] at hl9
    refine lv_iload hx hb dL_law_152 (lv_at hl9 0 rfl) ?_
    refine lv_sipush (v := 150) hx hb dL_law_154 (by decide) ?_
    refine lv_icmp_ge (tgt := 358) hx hb dL_law_157 (by decide) (fun _ => ?_) (fun c9 => absurd (by decide) c9)
    refine lv_iconst (v := 1) hx hb dL_law_358 (by decide) ?_
    refine va_forget (fun q hq => hFs _ (hS.2.2 q hq)) ?_
    refine W.widen (k := 705865) (n := 6983874) (by omega) (by omega) ?_
    exact lw_ret hx hb hr hlocks dL_law_359

set_option maxHeartbeats 40000000 in
set_option maxRecDepth 100000 in
theorem whole_start {p : Program} {e : Env} {s : State} {m : MethodId} {below : List Frame} {meth : Method} {c : Code} (l : Launch) (hflags : l.flags = flags0) {b L : Nat} {xs : Nat → Int32} (hL : L ≤ 260) (C0 : lw_At p s m meth c b L xs) : W p l e room_1 s m #[Value.ref b] below meth c s.heap [] 0 0 (lw_Z below #[Value.ref b] s) (entryFrame m ([Value.ref b] : List Value).toArray 17) := by
  obtain ⟨hx, hb, hr, hml, hown, hts, hX, hbl, hlocks, hgv⟩ := id C0
  have hl : l.stackTraces = false := by unfold Launch.stackTraces; rw [hflags]; decide
  obtain ⟨dC, dI, cI9, cZ9, cJ9, hk⟩ := hK_0 hts hgv
  obtain ⟨G, hGe⟩ : ∃ G : hG, G = ((dC, dI), (cI9, cZ9, cJ9), s.heap.size) := ⟨_, rfl⟩
  rw [← hGe] at hk
  have B0 : hB p l s m #[Value.ref b] meth c code 17 RL G := ⟨hx, hb, hml, hown, fun w h => hts w (List.mem_filter.mp h).1, hlocks, hk, hl⟩
  have hFs : ∀ q : Nat, hFr G q → s.heap.size ≤ q := by rw [hGe]; exact fun _ h => h
  have hbA : ¬ hFr G b := fun h => absurd (hFs b h) (Nat.not_le.mpr hbl)
  have hS : va_S (hFr G) s.heap s.heap [] := va_S.rf
  obtain ⟨f, hf0⟩ : ∃ f : hM, f = fun _ => none := ⟨_, rfl⟩
  have hw : hW G f s.heap := by rw [hf0]; exact hW_0
  have hf0 : ∀ a k, f a ≠ some (.inr (2, k)) := fun a k h => by rw [hf0] at h; cases h
  have hl9 := lv_entry ([.ref b]) (n := 17) (Nat.le_of_ble_eq_true rfl)
  rw [lg_entry_eq]
  generalize (lg_sl ([.ref b]) ++ List.replicate (17 - (lg_sl ([.ref b])).length) Slot.unset).toArray = ls at hl9 ⊢
  have hl9 : lv_has ls 17 [(0, .ref b)] := hl9
  refine hp_new (fs := [.null, .null, .null]) B0 hw hS 4 rfl in_X4 tyX4 tyX4_ok qC_L_9 qI_X4 qN_X4 (fun j hj => by rcases (show j = 0 ∨ j = 1 ∨ j = 2 by omega) with rfl | rfl | rfl <;> rfl) (Nat.le_of_ble_eq_true rfl) (Nat.le_of_ble_eq_true rfl) dL_law_0 (fun xo H f2 w1 ef2 hw hS => ?_)
  have h3 : f2 xo = some (.inr (4, [.null, .null, .null])) := by rw [ef2, va_up_self]
  refine lv_dup hx hb dL_law_3 rfl ?_
  refine hp_I (As := []) (rest := [.ref xo]) (b := xo) B0 hw hS (c_X4_init hl G f2 xo h3) mI_X4_init qM_L_167 rfl rfl hl9.1 (Nat.le_of_ble_eq_true rfl) ⟨⟨Nat.le_of_ble_eq_true rfl, Nat.le_of_ble_eq_true rfl⟩, (by first | omega | (dsimp only; omega) | (show (_ : Nat) ≤ _; simp only [room_1]; omega)), (by first | omega | (dsimp only; omega) | (show (_ : Nat) ≤ _; simp only [room_1]; omega))⟩ dL_law_4 (fun E ce q9 f4 H locs hPX hw hS hce hcv hcl => ?_) (fun v f4 H locs hP hw hS => ?_)
  · exact hPX.elim
  · obtain ⟨ev9, ez, eo, bu, nw0, na0, nq0, nr0, nw1, na1, nq1, nr1, bs, bp, bh, bf, bl, bg, wez, weo, wbu, wnw0, wna0, wnq0, wnr0, wnw1, wna1, wnq1, wnr1, wbs, wbp, wbh, wbf, wbl, wbg, h5, h6, h7, h8, h9, h10, h11, h12, h13, h14, h15, h16, h17, h18, h19, h20, h21, h22, nd_ez_eo, nd_nr0_nr1, nd_nw0_na0, nd_nw0_nq0, nd_nw0_nw1, nd_nw0_na1, nd_nw0_nq1, nd_na0_nq0, nd_na0_nw1, nd_na0_na1, nd_na0_nq1, nd_nq0_nw1, nd_nq0_na1, nd_nq0_nq1, nd_nw1_na1, nd_nw1_nq1, nd_na1_nq1, nd_bh_bp, nd_bf_bl, k23, -⟩ := hP
    subst ev9
    refine W.eq (g2 := F0 m 7 ls [.ref xo]) rfl ?_
    refine lv_astore_n (lv' := [(1, .ref xo), (0, .ref b)]) hx hb dL_law_7 rfl hl9 (by decide) rfl (fun ls hl9 => ?_)
    refine lv_bipush (v := 64) hx hb dL_law_8 (by decide) ?_
    refine hp_newaJ (N' := 64) B0 hw hS qA_long (by decide) (by decide) (Nat.le_of_ble_eq_true rfl) (Nat.le_of_ble_eq_true rfl) (Nat.le_of_ble_eq_true rfl) dL_law_10 (fun lx H f25 w24 ef25 hw hS => ?_)
    have h26 : f25 lx = some (.inl (cJ G, 64, .inr (.inl (fun _ => 0)))) := by rw [ef25, va_up_self]
    refine lv_astore_n (lv' := [(2, .ref lx), (1, .ref xo), (0, .ref b)]) hx hb dL_law_12 rfl hl9 (by decide) rfl (fun ls hl9 => ?_)
    refine lv_bipush (v := 64) hx hb dL_law_13 (by decide) ?_
    refine hp_newaJ (N' := 64) B0 hw hS qA_long (by decide) (by decide) (Nat.le_of_ble_eq_true rfl) (Nat.le_of_ble_eq_true rfl) (Nat.le_of_ble_eq_true rfl) dL_law_15 (fun ly H f28 w27 ef28 hw hS => ?_)
    have h29 : f28 ly = some (.inl (cJ G, 64, .inr (.inl (fun _ => 0)))) := by rw [ef28, va_up_self]
    refine lv_astore_n (lv' := [(3, .ref ly), (2, .ref lx), (1, .ref xo), (0, .ref b)]) hx hb dL_law_17 rfl hl9 (by decide) rfl (fun ls hl9 => ?_)
    refine lv_bipush (v := 12) hx hb dL_law_18 (by decide) ?_
    refine hp_newaI (N' := 12) B0 hw hS qA_int (by decide) (by decide) (Nat.le_of_ble_eq_true rfl) (Nat.le_of_ble_eq_true rfl) (Nat.le_of_ble_eq_true rfl) dL_law_20 (fun lw H f31 w30 ef31 hw hS => ?_)
    have h32 : f31 lw = some (.inl (cI G, 12, .inl (fun _ => 0))) := by rw [ef31, va_up_self]
    refine lv_astore (lv' := [(4, .ref lw), (3, .ref ly), (2, .ref lx), (1, .ref xo), (0, .ref b)]) hx hb dL_law_22 hl9 (by decide) rfl (fun ls hl9 => ?_)
    refine lv_bipush (v := 12) hx hb dL_law_24 (by decide) ?_
    refine hp_newaI (N' := 12) B0 hw hS qA_int (by decide) (by decide) (Nat.le_of_ble_eq_true rfl) (Nat.le_of_ble_eq_true rfl) (Nat.le_of_ble_eq_true rfl) dL_law_26 (fun la H f34 w33 ef34 hw hS => ?_)
    have h35 : f34 la = some (.inl (cI G, 12, .inl (fun _ => 0))) := by rw [ef34, va_up_self]
    refine lv_astore (lv' := [(5, .ref la), (4, .ref lw), (3, .ref ly), (2, .ref lx), (1, .ref xo), (0, .ref b)]) hx hb dL_law_28 hl9 (by decide) rfl (fun ls hl9 => ?_)
    refine lv_bipush (v := 12) hx hb dL_law_30 (by decide) ?_
    refine hp_newaI (N' := 12) B0 hw hS qA_int (by decide) (by decide) (Nat.le_of_ble_eq_true rfl) (Nat.le_of_ble_eq_true rfl) (Nat.le_of_ble_eq_true rfl) dL_law_32 (fun lq H f37 w36 ef37 hw hS => ?_)
    have h38 : f37 lq = some (.inl (cI G, 12, .inl (fun _ => 0))) := by rw [ef37, va_up_self]
    refine lv_astore (lv' := [(6, .ref lq), (5, .ref la), (4, .ref lw), (3, .ref ly), (2, .ref lx), (1, .ref xo), (0, .ref b)]) hx hb dL_law_34 hl9 (by decide) rfl (fun ls hl9 => ?_)
    refine lv_bipush (v := 16) hx hb dL_law_36 (by decide) ?_
    refine hp_newaI (N' := 16) B0 hw hS qA_int (by decide) (by decide) (Nat.le_of_ble_eq_true rfl) (Nat.le_of_ble_eq_true rfl) (Nat.le_of_ble_eq_true rfl) dL_law_38 (fun le H f40 w39 ef40 hw hS => ?_)
    have h41 : f40 le = some (.inl (cI G, 16, .inl (fun _ => 0))) := by rw [ef40, va_up_self]
    refine lv_astore (lv' := [(7, .ref le), (6, .ref lq), (5, .ref la), (4, .ref lw), (3, .ref ly), (2, .ref lx), (1, .ref xo), (0, .ref b)]) hx hb dL_law_40 hl9 (by decide) rfl (fun ls hl9 => ?_)
    refine lv_bipush (v := 64) hx hb dL_law_42 (by decide) ?_
    refine hp_newaI (N' := 64) B0 hw hS qA_int (by decide) (by decide) (Nat.le_of_ble_eq_true rfl) (Nat.le_of_ble_eq_true rfl) (Nat.le_of_ble_eq_true rfl) dL_law_44 (fun lb H f43 w42 ef43 hw hS => ?_)
    have h44 : f43 lb = some (.inl (cI G, 64, .inl (fun _ => 0))) := by rw [ef43, va_up_self]
    refine lv_astore (lv' := [(8, .ref lb), (7, .ref le), (6, .ref lq), (5, .ref la), (4, .ref lw), (3, .ref ly), (2, .ref lx), (1, .ref xo), (0, .ref b)]) hx hb dL_law_46 hl9 (by decide) rfl (fun ls hl9 => ?_)
    refine lv_iconst (v := 1) hx hb dL_law_48 (by decide) ?_
    refine hp_newaJ (N' := 1) B0 hw hS qA_long (by decide) (by decide) (Nat.le_of_ble_eq_true rfl) (Nat.le_of_ble_eq_true rfl) (Nat.le_of_ble_eq_true rfl) dL_law_49 (fun lh H f46 w45 ef46 hw hS => ?_)
    have h47 : f46 lh = some (.inl (cJ G, 1, .inr (.inl (fun _ => 0)))) := by rw [ef46, va_up_self]
    refine lv_astore (lv' := [(9, .ref lh), (8, .ref lb), (7, .ref le), (6, .ref lq), (5, .ref la), (4, .ref lw), (3, .ref ly), (2, .ref lx), (1, .ref xo), (0, .ref b)]) hx hb dL_law_51 hl9 (by decide) rfl (fun ls hl9 => ?_)
    refine lv_bipush (v := 60) hx hb dL_law_53 (by decide) ?_
    refine hp_newaI (N' := 60) B0 hw hS qA_int (by decide) (by decide) (Nat.le_of_ble_eq_true rfl) (Nat.le_of_ble_eq_true rfl) (Nat.le_of_ble_eq_true rfl) dL_law_55 (fun lr H f49 w48 ef49 hw hS => ?_)
    have h50 : f49 lr = some (.inl (cI G, 60, .inl (fun _ => 0))) := by rw [ef49, va_up_self]
    refine lv_astore (lv' := [(10, .ref lr), (9, .ref lh), (8, .ref lb), (7, .ref le), (6, .ref lq), (5, .ref la), (4, .ref lw), (3, .ref ly), (2, .ref lx), (1, .ref xo), (0, .ref b)]) hx hb dL_law_57 hl9 (by decide) rfl (fun ls hl9 => ?_)
    refine lv_bipush (v := 10) hx hb dL_law_59 (by decide) ?_
    refine hp_newaI (N' := 10) B0 hw hS qA_int (by decide) (by decide) (Nat.le_of_ble_eq_true rfl) (Nat.le_of_ble_eq_true rfl) (Nat.le_of_ble_eq_true rfl) dL_law_61 (fun lg H f52 w51 ef52 hw hS => ?_)
    have h53 : f52 lg = some (.inl (cI G, 10, .inl (fun _ => 0))) := by rw [ef52, va_up_self]
    refine lv_astore (lv' := [(11, .ref lg), (10, .ref lr), (9, .ref lh), (8, .ref lb), (7, .ref le), (6, .ref lq), (5, .ref la), (4, .ref lw), (3, .ref ly), (2, .ref lx), (1, .ref xo), (0, .ref b)]) hx hb dL_law_63 hl9 (by decide) rfl (fun ls hl9 => ?_)
    have n54 : xo ≠ lx := hnew h5 w24
    have h55 : f25 xo = some (.inr (4, [.ref ez, .ref eo, .ref bu])) := by rw [ef25, va_up_ne _ _ (hnew h5 w24)]; exact h5
    have n56 : xo ≠ ly := hnew h55 w27
    have h57 : f28 xo = some (.inr (4, [.ref ez, .ref eo, .ref bu])) := by rw [ef28, va_up_ne _ _ (hnew h55 w27)]; exact h55
    have n58 : xo ≠ lw := hnew h57 w30
    have h59 : f31 xo = some (.inr (4, [.ref ez, .ref eo, .ref bu])) := by rw [ef31, va_up_ne _ _ (hnew h57 w30)]; exact h57
    have n60 : xo ≠ la := hnew h59 w33
    have h61 : f34 xo = some (.inr (4, [.ref ez, .ref eo, .ref bu])) := by rw [ef34, va_up_ne _ _ (hnew h59 w33)]; exact h59
    have n62 : xo ≠ lq := hnew h61 w36
    have h63 : f37 xo = some (.inr (4, [.ref ez, .ref eo, .ref bu])) := by rw [ef37, va_up_ne _ _ (hnew h61 w36)]; exact h61
    have n64 : xo ≠ le := hnew h63 w39
    have h65 : f40 xo = some (.inr (4, [.ref ez, .ref eo, .ref bu])) := by rw [ef40, va_up_ne _ _ (hnew h63 w39)]; exact h63
    have n66 : xo ≠ lb := hnew h65 w42
    have h67 : f43 xo = some (.inr (4, [.ref ez, .ref eo, .ref bu])) := by rw [ef43, va_up_ne _ _ (hnew h65 w42)]; exact h65
    have n68 : xo ≠ lh := hnew h67 w45
    have h69 : f46 xo = some (.inr (4, [.ref ez, .ref eo, .ref bu])) := by rw [ef46, va_up_ne _ _ (hnew h67 w45)]; exact h67
    have n70 : xo ≠ lr := hnew h69 w48
    have h71 : f49 xo = some (.inr (4, [.ref ez, .ref eo, .ref bu])) := by rw [ef49, va_up_ne _ _ (hnew h69 w48)]; exact h69
    have n72 : xo ≠ lg := hnew h71 w51
    have n73 : ez ≠ lx := hnew h6 w24
    have h74 : f25 ez = some (.inr (1, [.ref nw0, .ref na0, .ref nq0, .ref nr0, .int 1, .int 0, .int 0, .int 0, .int (-1), .int 0, .int 0])) := by rw [ef25, va_up_ne _ _ (hnew h6 w24)]; exact h6
    have n75 : ez ≠ ly := hnew h74 w27
    have h76 : f28 ez = some (.inr (1, [.ref nw0, .ref na0, .ref nq0, .ref nr0, .int 1, .int 0, .int 0, .int 0, .int (-1), .int 0, .int 0])) := by rw [ef28, va_up_ne _ _ (hnew h74 w27)]; exact h74
    have n77 : ez ≠ lw := hnew h76 w30
    have h78 : f31 ez = some (.inr (1, [.ref nw0, .ref na0, .ref nq0, .ref nr0, .int 1, .int 0, .int 0, .int 0, .int (-1), .int 0, .int 0])) := by rw [ef31, va_up_ne _ _ (hnew h76 w30)]; exact h76
    have n79 : ez ≠ la := hnew h78 w33
    have h80 : f34 ez = some (.inr (1, [.ref nw0, .ref na0, .ref nq0, .ref nr0, .int 1, .int 0, .int 0, .int 0, .int (-1), .int 0, .int 0])) := by rw [ef34, va_up_ne _ _ (hnew h78 w33)]; exact h78
    have n81 : ez ≠ lq := hnew h80 w36
    have h82 : f37 ez = some (.inr (1, [.ref nw0, .ref na0, .ref nq0, .ref nr0, .int 1, .int 0, .int 0, .int 0, .int (-1), .int 0, .int 0])) := by rw [ef37, va_up_ne _ _ (hnew h80 w36)]; exact h80
    have n83 : ez ≠ le := hnew h82 w39
    have h84 : f40 ez = some (.inr (1, [.ref nw0, .ref na0, .ref nq0, .ref nr0, .int 1, .int 0, .int 0, .int 0, .int (-1), .int 0, .int 0])) := by rw [ef40, va_up_ne _ _ (hnew h82 w39)]; exact h82
    have n85 : ez ≠ lb := hnew h84 w42
    have h86 : f43 ez = some (.inr (1, [.ref nw0, .ref na0, .ref nq0, .ref nr0, .int 1, .int 0, .int 0, .int 0, .int (-1), .int 0, .int 0])) := by rw [ef43, va_up_ne _ _ (hnew h84 w42)]; exact h84
    have n87 : ez ≠ lh := hnew h86 w45
    have h88 : f46 ez = some (.inr (1, [.ref nw0, .ref na0, .ref nq0, .ref nr0, .int 1, .int 0, .int 0, .int 0, .int (-1), .int 0, .int 0])) := by rw [ef46, va_up_ne _ _ (hnew h86 w45)]; exact h86
    have n89 : ez ≠ lr := hnew h88 w48
    have h90 : f49 ez = some (.inr (1, [.ref nw0, .ref na0, .ref nq0, .ref nr0, .int 1, .int 0, .int 0, .int 0, .int (-1), .int 0, .int 0])) := by rw [ef49, va_up_ne _ _ (hnew h88 w48)]; exact h88
    have n91 : ez ≠ lg := hnew h90 w51
    have n92 : eo ≠ lx := hnew h11 w24
    have h93 : f25 eo = some (.inr (1, [.ref nw1, .ref na1, .ref nq1, .ref nr1, .int 2, .int 0, .int 0, .int 0, .int (-1), .int 0, .int 0])) := by rw [ef25, va_up_ne _ _ (hnew h11 w24)]; exact h11
    have n94 : eo ≠ ly := hnew h93 w27
    have h95 : f28 eo = some (.inr (1, [.ref nw1, .ref na1, .ref nq1, .ref nr1, .int 2, .int 0, .int 0, .int 0, .int (-1), .int 0, .int 0])) := by rw [ef28, va_up_ne _ _ (hnew h93 w27)]; exact h93
    have n96 : eo ≠ lw := hnew h95 w30
    have h97 : f31 eo = some (.inr (1, [.ref nw1, .ref na1, .ref nq1, .ref nr1, .int 2, .int 0, .int 0, .int 0, .int (-1), .int 0, .int 0])) := by rw [ef31, va_up_ne _ _ (hnew h95 w30)]; exact h95
    have n98 : eo ≠ la := hnew h97 w33
    have h99 : f34 eo = some (.inr (1, [.ref nw1, .ref na1, .ref nq1, .ref nr1, .int 2, .int 0, .int 0, .int 0, .int (-1), .int 0, .int 0])) := by rw [ef34, va_up_ne _ _ (hnew h97 w33)]; exact h97
    have n100 : eo ≠ lq := hnew h99 w36
    have h101 : f37 eo = some (.inr (1, [.ref nw1, .ref na1, .ref nq1, .ref nr1, .int 2, .int 0, .int 0, .int 0, .int (-1), .int 0, .int 0])) := by rw [ef37, va_up_ne _ _ (hnew h99 w36)]; exact h99
    have n102 : eo ≠ le := hnew h101 w39
    have h103 : f40 eo = some (.inr (1, [.ref nw1, .ref na1, .ref nq1, .ref nr1, .int 2, .int 0, .int 0, .int 0, .int (-1), .int 0, .int 0])) := by rw [ef40, va_up_ne _ _ (hnew h101 w39)]; exact h101
    have n104 : eo ≠ lb := hnew h103 w42
    have h105 : f43 eo = some (.inr (1, [.ref nw1, .ref na1, .ref nq1, .ref nr1, .int 2, .int 0, .int 0, .int 0, .int (-1), .int 0, .int 0])) := by rw [ef43, va_up_ne _ _ (hnew h103 w42)]; exact h103
    have n106 : eo ≠ lh := hnew h105 w45
    have h107 : f46 eo = some (.inr (1, [.ref nw1, .ref na1, .ref nq1, .ref nr1, .int 2, .int 0, .int 0, .int 0, .int (-1), .int 0, .int 0])) := by rw [ef46, va_up_ne _ _ (hnew h105 w45)]; exact h105
    have n108 : eo ≠ lr := hnew h107 w48
    have h109 : f49 eo = some (.inr (1, [.ref nw1, .ref na1, .ref nq1, .ref nr1, .int 2, .int 0, .int 0, .int 0, .int (-1), .int 0, .int 0])) := by rw [ef49, va_up_ne _ _ (hnew h107 w48)]; exact h107
    have n110 : eo ≠ lg := hnew h109 w51
    have n111 : bu ≠ lx := hnew h16 w24
    have h112 : f25 bu = some (.inr (0, [.ref bs, .ref bp, .ref bh, .ref bf, .ref bl, .ref bg, .int 0, .int 0, .int 0])) := by rw [ef25, va_up_ne _ _ (hnew h16 w24)]; exact h16
    have n113 : bu ≠ ly := hnew h112 w27
    have h114 : f28 bu = some (.inr (0, [.ref bs, .ref bp, .ref bh, .ref bf, .ref bl, .ref bg, .int 0, .int 0, .int 0])) := by rw [ef28, va_up_ne _ _ (hnew h112 w27)]; exact h112
    have n115 : bu ≠ lw := hnew h114 w30
    have h116 : f31 bu = some (.inr (0, [.ref bs, .ref bp, .ref bh, .ref bf, .ref bl, .ref bg, .int 0, .int 0, .int 0])) := by rw [ef31, va_up_ne _ _ (hnew h114 w30)]; exact h114
    have n117 : bu ≠ la := hnew h116 w33
    have h118 : f34 bu = some (.inr (0, [.ref bs, .ref bp, .ref bh, .ref bf, .ref bl, .ref bg, .int 0, .int 0, .int 0])) := by rw [ef34, va_up_ne _ _ (hnew h116 w33)]; exact h116
    have n119 : bu ≠ lq := hnew h118 w36
    have h120 : f37 bu = some (.inr (0, [.ref bs, .ref bp, .ref bh, .ref bf, .ref bl, .ref bg, .int 0, .int 0, .int 0])) := by rw [ef37, va_up_ne _ _ (hnew h118 w36)]; exact h118
    have n121 : bu ≠ le := hnew h120 w39
    have h122 : f40 bu = some (.inr (0, [.ref bs, .ref bp, .ref bh, .ref bf, .ref bl, .ref bg, .int 0, .int 0, .int 0])) := by rw [ef40, va_up_ne _ _ (hnew h120 w39)]; exact h120
    have n123 : bu ≠ lb := hnew h122 w42
    have h124 : f43 bu = some (.inr (0, [.ref bs, .ref bp, .ref bh, .ref bf, .ref bl, .ref bg, .int 0, .int 0, .int 0])) := by rw [ef43, va_up_ne _ _ (hnew h122 w42)]; exact h122
    have n125 : bu ≠ lh := hnew h124 w45
    have h126 : f46 bu = some (.inr (0, [.ref bs, .ref bp, .ref bh, .ref bf, .ref bl, .ref bg, .int 0, .int 0, .int 0])) := by rw [ef46, va_up_ne _ _ (hnew h124 w45)]; exact h124
    have n127 : bu ≠ lr := hnew h126 w48
    have h128 : f49 bu = some (.inr (0, [.ref bs, .ref bp, .ref bh, .ref bf, .ref bl, .ref bg, .int 0, .int 0, .int 0])) := by rw [ef49, va_up_ne _ _ (hnew h126 w48)]; exact h126
    have n129 : bu ≠ lg := hnew h128 w51
    have n130 : nw0 ≠ lx := hnew h7 w24
    have h131 : f25 nw0 = some (.inl (cI G, 6, .inl (fun j => if j < 6 then (-1) else (fun _ => 0) j))) := by rw [ef25, va_up_ne _ _ (hnew h7 w24)]; exact h7
    have n132 : nw0 ≠ ly := hnew h131 w27
    have h133 : f28 nw0 = some (.inl (cI G, 6, .inl (fun j => if j < 6 then (-1) else (fun _ => 0) j))) := by rw [ef28, va_up_ne _ _ (hnew h131 w27)]; exact h131
    have n134 : nw0 ≠ lw := hnew h133 w30
    have h135 : f31 nw0 = some (.inl (cI G, 6, .inl (fun j => if j < 6 then (-1) else (fun _ => 0) j))) := by rw [ef31, va_up_ne _ _ (hnew h133 w30)]; exact h133
    have n136 : nw0 ≠ la := hnew h135 w33
    have h137 : f34 nw0 = some (.inl (cI G, 6, .inl (fun j => if j < 6 then (-1) else (fun _ => 0) j))) := by rw [ef34, va_up_ne _ _ (hnew h135 w33)]; exact h135
    have n138 : nw0 ≠ lq := hnew h137 w36
    have h139 : f37 nw0 = some (.inl (cI G, 6, .inl (fun j => if j < 6 then (-1) else (fun _ => 0) j))) := by rw [ef37, va_up_ne _ _ (hnew h137 w36)]; exact h137
    have n140 : nw0 ≠ le := hnew h139 w39
    have h141 : f40 nw0 = some (.inl (cI G, 6, .inl (fun j => if j < 6 then (-1) else (fun _ => 0) j))) := by rw [ef40, va_up_ne _ _ (hnew h139 w39)]; exact h139
    have n142 : nw0 ≠ lb := hnew h141 w42
    have h143 : f43 nw0 = some (.inl (cI G, 6, .inl (fun j => if j < 6 then (-1) else (fun _ => 0) j))) := by rw [ef43, va_up_ne _ _ (hnew h141 w42)]; exact h141
    have n144 : nw0 ≠ lh := hnew h143 w45
    have h145 : f46 nw0 = some (.inl (cI G, 6, .inl (fun j => if j < 6 then (-1) else (fun _ => 0) j))) := by rw [ef46, va_up_ne _ _ (hnew h143 w45)]; exact h143
    have n146 : nw0 ≠ lr := hnew h145 w48
    have h147 : f49 nw0 = some (.inl (cI G, 6, .inl (fun j => if j < 6 then (-1) else (fun _ => 0) j))) := by rw [ef49, va_up_ne _ _ (hnew h145 w48)]; exact h145
    have n148 : nw0 ≠ lg := hnew h147 w51
    have n149 : na0 ≠ lx := hnew h8 w24
    have h150 : f25 na0 = some (.inl (cI G, 6, .inl (fun _ => 0))) := by rw [ef25, va_up_ne _ _ (hnew h8 w24)]; exact h8
    have n151 : na0 ≠ ly := hnew h150 w27
    have h152 : f28 na0 = some (.inl (cI G, 6, .inl (fun _ => 0))) := by rw [ef28, va_up_ne _ _ (hnew h150 w27)]; exact h150
    have n153 : na0 ≠ lw := hnew h152 w30
    have h154 : f31 na0 = some (.inl (cI G, 6, .inl (fun _ => 0))) := by rw [ef31, va_up_ne _ _ (hnew h152 w30)]; exact h152
    have n155 : na0 ≠ la := hnew h154 w33
    have h156 : f34 na0 = some (.inl (cI G, 6, .inl (fun _ => 0))) := by rw [ef34, va_up_ne _ _ (hnew h154 w33)]; exact h154
    have n157 : na0 ≠ lq := hnew h156 w36
    have h158 : f37 na0 = some (.inl (cI G, 6, .inl (fun _ => 0))) := by rw [ef37, va_up_ne _ _ (hnew h156 w36)]; exact h156
    have n159 : na0 ≠ le := hnew h158 w39
    have h160 : f40 na0 = some (.inl (cI G, 6, .inl (fun _ => 0))) := by rw [ef40, va_up_ne _ _ (hnew h158 w39)]; exact h158
    have n161 : na0 ≠ lb := hnew h160 w42
    have h162 : f43 na0 = some (.inl (cI G, 6, .inl (fun _ => 0))) := by rw [ef43, va_up_ne _ _ (hnew h160 w42)]; exact h160
    have n163 : na0 ≠ lh := hnew h162 w45
    have h164 : f46 na0 = some (.inl (cI G, 6, .inl (fun _ => 0))) := by rw [ef46, va_up_ne _ _ (hnew h162 w45)]; exact h162
    have n165 : na0 ≠ lr := hnew h164 w48
    have h166 : f49 na0 = some (.inl (cI G, 6, .inl (fun _ => 0))) := by rw [ef49, va_up_ne _ _ (hnew h164 w48)]; exact h164
    have n167 : na0 ≠ lg := hnew h166 w51
    have n168 : nq0 ≠ lx := hnew h9 w24
    have h169 : f25 nq0 = some (.inl (cI G, 6, .inl (fun j => if j < 6 then (-1) else (fun _ => 0) j))) := by rw [ef25, va_up_ne _ _ (hnew h9 w24)]; exact h9
    have n170 : nq0 ≠ ly := hnew h169 w27
    have h171 : f28 nq0 = some (.inl (cI G, 6, .inl (fun j => if j < 6 then (-1) else (fun _ => 0) j))) := by rw [ef28, va_up_ne _ _ (hnew h169 w27)]; exact h169
    have n172 : nq0 ≠ lw := hnew h171 w30
    have h173 : f31 nq0 = some (.inl (cI G, 6, .inl (fun j => if j < 6 then (-1) else (fun _ => 0) j))) := by rw [ef31, va_up_ne _ _ (hnew h171 w30)]; exact h171
    have n174 : nq0 ≠ la := hnew h173 w33
    have h175 : f34 nq0 = some (.inl (cI G, 6, .inl (fun j => if j < 6 then (-1) else (fun _ => 0) j))) := by rw [ef34, va_up_ne _ _ (hnew h173 w33)]; exact h173
    have n176 : nq0 ≠ lq := hnew h175 w36
    have h177 : f37 nq0 = some (.inl (cI G, 6, .inl (fun j => if j < 6 then (-1) else (fun _ => 0) j))) := by rw [ef37, va_up_ne _ _ (hnew h175 w36)]; exact h175
    have n178 : nq0 ≠ le := hnew h177 w39
    have h179 : f40 nq0 = some (.inl (cI G, 6, .inl (fun j => if j < 6 then (-1) else (fun _ => 0) j))) := by rw [ef40, va_up_ne _ _ (hnew h177 w39)]; exact h177
    have n180 : nq0 ≠ lb := hnew h179 w42
    have h181 : f43 nq0 = some (.inl (cI G, 6, .inl (fun j => if j < 6 then (-1) else (fun _ => 0) j))) := by rw [ef43, va_up_ne _ _ (hnew h179 w42)]; exact h179
    have n182 : nq0 ≠ lh := hnew h181 w45
    have h183 : f46 nq0 = some (.inl (cI G, 6, .inl (fun j => if j < 6 then (-1) else (fun _ => 0) j))) := by rw [ef46, va_up_ne _ _ (hnew h181 w45)]; exact h181
    have n184 : nq0 ≠ lr := hnew h183 w48
    have h185 : f49 nq0 = some (.inl (cI G, 6, .inl (fun j => if j < 6 then (-1) else (fun _ => 0) j))) := by rw [ef49, va_up_ne _ _ (hnew h183 w48)]; exact h183
    have n186 : nq0 ≠ lg := hnew h185 w51
    have n187 : nr0 ≠ lx := hnew h10 w24
    have h188 : f25 nr0 = some (.inr (3, [.null, .null, .int 0])) := by rw [ef25, va_up_ne _ _ (hnew h10 w24)]; exact h10
    have n189 : nr0 ≠ ly := hnew h188 w27
    have h190 : f28 nr0 = some (.inr (3, [.null, .null, .int 0])) := by rw [ef28, va_up_ne _ _ (hnew h188 w27)]; exact h188
    have n191 : nr0 ≠ lw := hnew h190 w30
    have h192 : f31 nr0 = some (.inr (3, [.null, .null, .int 0])) := by rw [ef31, va_up_ne _ _ (hnew h190 w30)]; exact h190
    have n193 : nr0 ≠ la := hnew h192 w33
    have h194 : f34 nr0 = some (.inr (3, [.null, .null, .int 0])) := by rw [ef34, va_up_ne _ _ (hnew h192 w33)]; exact h192
    have n195 : nr0 ≠ lq := hnew h194 w36
    have h196 : f37 nr0 = some (.inr (3, [.null, .null, .int 0])) := by rw [ef37, va_up_ne _ _ (hnew h194 w36)]; exact h194
    have n197 : nr0 ≠ le := hnew h196 w39
    have h198 : f40 nr0 = some (.inr (3, [.null, .null, .int 0])) := by rw [ef40, va_up_ne _ _ (hnew h196 w39)]; exact h196
    have n199 : nr0 ≠ lb := hnew h198 w42
    have h200 : f43 nr0 = some (.inr (3, [.null, .null, .int 0])) := by rw [ef43, va_up_ne _ _ (hnew h198 w42)]; exact h198
    have n201 : nr0 ≠ lh := hnew h200 w45
    have h202 : f46 nr0 = some (.inr (3, [.null, .null, .int 0])) := by rw [ef46, va_up_ne _ _ (hnew h200 w45)]; exact h200
    have n203 : nr0 ≠ lr := hnew h202 w48
    have h204 : f49 nr0 = some (.inr (3, [.null, .null, .int 0])) := by rw [ef49, va_up_ne _ _ (hnew h202 w48)]; exact h202
    have n205 : nr0 ≠ lg := hnew h204 w51
    have n206 : nw1 ≠ lx := hnew h12 w24
    have h207 : f25 nw1 = some (.inl (cI G, 6, .inl (fun j => if j < 6 then (-1) else (fun _ => 0) j))) := by rw [ef25, va_up_ne _ _ (hnew h12 w24)]; exact h12
    have n208 : nw1 ≠ ly := hnew h207 w27
    have h209 : f28 nw1 = some (.inl (cI G, 6, .inl (fun j => if j < 6 then (-1) else (fun _ => 0) j))) := by rw [ef28, va_up_ne _ _ (hnew h207 w27)]; exact h207
    have n210 : nw1 ≠ lw := hnew h209 w30
    have h211 : f31 nw1 = some (.inl (cI G, 6, .inl (fun j => if j < 6 then (-1) else (fun _ => 0) j))) := by rw [ef31, va_up_ne _ _ (hnew h209 w30)]; exact h209
    have n212 : nw1 ≠ la := hnew h211 w33
    have h213 : f34 nw1 = some (.inl (cI G, 6, .inl (fun j => if j < 6 then (-1) else (fun _ => 0) j))) := by rw [ef34, va_up_ne _ _ (hnew h211 w33)]; exact h211
    have n214 : nw1 ≠ lq := hnew h213 w36
    have h215 : f37 nw1 = some (.inl (cI G, 6, .inl (fun j => if j < 6 then (-1) else (fun _ => 0) j))) := by rw [ef37, va_up_ne _ _ (hnew h213 w36)]; exact h213
    have n216 : nw1 ≠ le := hnew h215 w39
    have h217 : f40 nw1 = some (.inl (cI G, 6, .inl (fun j => if j < 6 then (-1) else (fun _ => 0) j))) := by rw [ef40, va_up_ne _ _ (hnew h215 w39)]; exact h215
    have n218 : nw1 ≠ lb := hnew h217 w42
    have h219 : f43 nw1 = some (.inl (cI G, 6, .inl (fun j => if j < 6 then (-1) else (fun _ => 0) j))) := by rw [ef43, va_up_ne _ _ (hnew h217 w42)]; exact h217
    have n220 : nw1 ≠ lh := hnew h219 w45
    have h221 : f46 nw1 = some (.inl (cI G, 6, .inl (fun j => if j < 6 then (-1) else (fun _ => 0) j))) := by rw [ef46, va_up_ne _ _ (hnew h219 w45)]; exact h219
    have n222 : nw1 ≠ lr := hnew h221 w48
    have h223 : f49 nw1 = some (.inl (cI G, 6, .inl (fun j => if j < 6 then (-1) else (fun _ => 0) j))) := by rw [ef49, va_up_ne _ _ (hnew h221 w48)]; exact h221
    have n224 : nw1 ≠ lg := hnew h223 w51
    have n225 : na1 ≠ lx := hnew h13 w24
    have h226 : f25 na1 = some (.inl (cI G, 6, .inl (fun _ => 0))) := by rw [ef25, va_up_ne _ _ (hnew h13 w24)]; exact h13
    have n227 : na1 ≠ ly := hnew h226 w27
    have h228 : f28 na1 = some (.inl (cI G, 6, .inl (fun _ => 0))) := by rw [ef28, va_up_ne _ _ (hnew h226 w27)]; exact h226
    have n229 : na1 ≠ lw := hnew h228 w30
    have h230 : f31 na1 = some (.inl (cI G, 6, .inl (fun _ => 0))) := by rw [ef31, va_up_ne _ _ (hnew h228 w30)]; exact h228
    have n231 : na1 ≠ la := hnew h230 w33
    have h232 : f34 na1 = some (.inl (cI G, 6, .inl (fun _ => 0))) := by rw [ef34, va_up_ne _ _ (hnew h230 w33)]; exact h230
    have n233 : na1 ≠ lq := hnew h232 w36
    have h234 : f37 na1 = some (.inl (cI G, 6, .inl (fun _ => 0))) := by rw [ef37, va_up_ne _ _ (hnew h232 w36)]; exact h232
    have n235 : na1 ≠ le := hnew h234 w39
    have h236 : f40 na1 = some (.inl (cI G, 6, .inl (fun _ => 0))) := by rw [ef40, va_up_ne _ _ (hnew h234 w39)]; exact h234
    have n237 : na1 ≠ lb := hnew h236 w42
    have h238 : f43 na1 = some (.inl (cI G, 6, .inl (fun _ => 0))) := by rw [ef43, va_up_ne _ _ (hnew h236 w42)]; exact h236
    have n239 : na1 ≠ lh := hnew h238 w45
    have h240 : f46 na1 = some (.inl (cI G, 6, .inl (fun _ => 0))) := by rw [ef46, va_up_ne _ _ (hnew h238 w45)]; exact h238
    have n241 : na1 ≠ lr := hnew h240 w48
    have h242 : f49 na1 = some (.inl (cI G, 6, .inl (fun _ => 0))) := by rw [ef49, va_up_ne _ _ (hnew h240 w48)]; exact h240
    have n243 : na1 ≠ lg := hnew h242 w51
    have n244 : nq1 ≠ lx := hnew h14 w24
    have h245 : f25 nq1 = some (.inl (cI G, 6, .inl (fun j => if j < 6 then (-1) else (fun _ => 0) j))) := by rw [ef25, va_up_ne _ _ (hnew h14 w24)]; exact h14
    have n246 : nq1 ≠ ly := hnew h245 w27
    have h247 : f28 nq1 = some (.inl (cI G, 6, .inl (fun j => if j < 6 then (-1) else (fun _ => 0) j))) := by rw [ef28, va_up_ne _ _ (hnew h245 w27)]; exact h245
    have n248 : nq1 ≠ lw := hnew h247 w30
    have h249 : f31 nq1 = some (.inl (cI G, 6, .inl (fun j => if j < 6 then (-1) else (fun _ => 0) j))) := by rw [ef31, va_up_ne _ _ (hnew h247 w30)]; exact h247
    have n250 : nq1 ≠ la := hnew h249 w33
    have h251 : f34 nq1 = some (.inl (cI G, 6, .inl (fun j => if j < 6 then (-1) else (fun _ => 0) j))) := by rw [ef34, va_up_ne _ _ (hnew h249 w33)]; exact h249
    have n252 : nq1 ≠ lq := hnew h251 w36
    have h253 : f37 nq1 = some (.inl (cI G, 6, .inl (fun j => if j < 6 then (-1) else (fun _ => 0) j))) := by rw [ef37, va_up_ne _ _ (hnew h251 w36)]; exact h251
    have n254 : nq1 ≠ le := hnew h253 w39
    have h255 : f40 nq1 = some (.inl (cI G, 6, .inl (fun j => if j < 6 then (-1) else (fun _ => 0) j))) := by rw [ef40, va_up_ne _ _ (hnew h253 w39)]; exact h253
    have n256 : nq1 ≠ lb := hnew h255 w42
    have h257 : f43 nq1 = some (.inl (cI G, 6, .inl (fun j => if j < 6 then (-1) else (fun _ => 0) j))) := by rw [ef43, va_up_ne _ _ (hnew h255 w42)]; exact h255
    have n258 : nq1 ≠ lh := hnew h257 w45
    have h259 : f46 nq1 = some (.inl (cI G, 6, .inl (fun j => if j < 6 then (-1) else (fun _ => 0) j))) := by rw [ef46, va_up_ne _ _ (hnew h257 w45)]; exact h257
    have n260 : nq1 ≠ lr := hnew h259 w48
    have h261 : f49 nq1 = some (.inl (cI G, 6, .inl (fun j => if j < 6 then (-1) else (fun _ => 0) j))) := by rw [ef49, va_up_ne _ _ (hnew h259 w48)]; exact h259
    have n262 : nq1 ≠ lg := hnew h261 w51
    have n263 : nr1 ≠ lx := hnew h15 w24
    have h264 : f25 nr1 = some (.inr (3, [.null, .null, .int 0])) := by rw [ef25, va_up_ne _ _ (hnew h15 w24)]; exact h15
    have n265 : nr1 ≠ ly := hnew h264 w27
    have h266 : f28 nr1 = some (.inr (3, [.null, .null, .int 0])) := by rw [ef28, va_up_ne _ _ (hnew h264 w27)]; exact h264
    have n267 : nr1 ≠ lw := hnew h266 w30
    have h268 : f31 nr1 = some (.inr (3, [.null, .null, .int 0])) := by rw [ef31, va_up_ne _ _ (hnew h266 w30)]; exact h266
    have n269 : nr1 ≠ la := hnew h268 w33
    have h270 : f34 nr1 = some (.inr (3, [.null, .null, .int 0])) := by rw [ef34, va_up_ne _ _ (hnew h268 w33)]; exact h268
    have n271 : nr1 ≠ lq := hnew h270 w36
    have h272 : f37 nr1 = some (.inr (3, [.null, .null, .int 0])) := by rw [ef37, va_up_ne _ _ (hnew h270 w36)]; exact h270
    have n273 : nr1 ≠ le := hnew h272 w39
    have h274 : f40 nr1 = some (.inr (3, [.null, .null, .int 0])) := by rw [ef40, va_up_ne _ _ (hnew h272 w39)]; exact h272
    have n275 : nr1 ≠ lb := hnew h274 w42
    have h276 : f43 nr1 = some (.inr (3, [.null, .null, .int 0])) := by rw [ef43, va_up_ne _ _ (hnew h274 w42)]; exact h274
    have n277 : nr1 ≠ lh := hnew h276 w45
    have h278 : f46 nr1 = some (.inr (3, [.null, .null, .int 0])) := by rw [ef46, va_up_ne _ _ (hnew h276 w45)]; exact h276
    have n279 : nr1 ≠ lr := hnew h278 w48
    have h280 : f49 nr1 = some (.inr (3, [.null, .null, .int 0])) := by rw [ef49, va_up_ne _ _ (hnew h278 w48)]; exact h278
    have n281 : nr1 ≠ lg := hnew h280 w51
    have n282 : bs ≠ lx := hnew h17 w24
    have h283 : f25 bs = some (.inl (cI G, 61, .inl (fun _ => 0))) := by rw [ef25, va_up_ne _ _ (hnew h17 w24)]; exact h17
    have n284 : bs ≠ ly := hnew h283 w27
    have h285 : f28 bs = some (.inl (cI G, 61, .inl (fun _ => 0))) := by rw [ef28, va_up_ne _ _ (hnew h283 w27)]; exact h283
    have n286 : bs ≠ lw := hnew h285 w30
    have h287 : f31 bs = some (.inl (cI G, 61, .inl (fun _ => 0))) := by rw [ef31, va_up_ne _ _ (hnew h285 w30)]; exact h285
    have n288 : bs ≠ la := hnew h287 w33
    have h289 : f34 bs = some (.inl (cI G, 61, .inl (fun _ => 0))) := by rw [ef34, va_up_ne _ _ (hnew h287 w33)]; exact h287
    have n290 : bs ≠ lq := hnew h289 w36
    have h291 : f37 bs = some (.inl (cI G, 61, .inl (fun _ => 0))) := by rw [ef37, va_up_ne _ _ (hnew h289 w36)]; exact h289
    have n292 : bs ≠ le := hnew h291 w39
    have h293 : f40 bs = some (.inl (cI G, 61, .inl (fun _ => 0))) := by rw [ef40, va_up_ne _ _ (hnew h291 w39)]; exact h291
    have n294 : bs ≠ lb := hnew h293 w42
    have h295 : f43 bs = some (.inl (cI G, 61, .inl (fun _ => 0))) := by rw [ef43, va_up_ne _ _ (hnew h293 w42)]; exact h293
    have n296 : bs ≠ lh := hnew h295 w45
    have h297 : f46 bs = some (.inl (cI G, 61, .inl (fun _ => 0))) := by rw [ef46, va_up_ne _ _ (hnew h295 w45)]; exact h295
    have n298 : bs ≠ lr := hnew h297 w48
    have h299 : f49 bs = some (.inl (cI G, 61, .inl (fun _ => 0))) := by rw [ef49, va_up_ne _ _ (hnew h297 w48)]; exact h297
    have n300 : bs ≠ lg := hnew h299 w51
    have n301 : bp ≠ lx := hnew h18 w24
    have h302 : f25 bp = some (.inl (cI G, 240, .inl (fun _ => 0))) := by rw [ef25, va_up_ne _ _ (hnew h18 w24)]; exact h18
    have n303 : bp ≠ ly := hnew h302 w27
    have h304 : f28 bp = some (.inl (cI G, 240, .inl (fun _ => 0))) := by rw [ef28, va_up_ne _ _ (hnew h302 w27)]; exact h302
    have n305 : bp ≠ lw := hnew h304 w30
    have h306 : f31 bp = some (.inl (cI G, 240, .inl (fun _ => 0))) := by rw [ef31, va_up_ne _ _ (hnew h304 w30)]; exact h304
    have n307 : bp ≠ la := hnew h306 w33
    have h308 : f34 bp = some (.inl (cI G, 240, .inl (fun _ => 0))) := by rw [ef34, va_up_ne _ _ (hnew h306 w33)]; exact h306
    have n309 : bp ≠ lq := hnew h308 w36
    have h310 : f37 bp = some (.inl (cI G, 240, .inl (fun _ => 0))) := by rw [ef37, va_up_ne _ _ (hnew h308 w36)]; exact h308
    have n311 : bp ≠ le := hnew h310 w39
    have h312 : f40 bp = some (.inl (cI G, 240, .inl (fun _ => 0))) := by rw [ef40, va_up_ne _ _ (hnew h310 w39)]; exact h310
    have n313 : bp ≠ lb := hnew h312 w42
    have h314 : f43 bp = some (.inl (cI G, 240, .inl (fun _ => 0))) := by rw [ef43, va_up_ne _ _ (hnew h312 w42)]; exact h312
    have n315 : bp ≠ lh := hnew h314 w45
    have h316 : f46 bp = some (.inl (cI G, 240, .inl (fun _ => 0))) := by rw [ef46, va_up_ne _ _ (hnew h314 w45)]; exact h314
    have n317 : bp ≠ lr := hnew h316 w48
    have h318 : f49 bp = some (.inl (cI G, 240, .inl (fun _ => 0))) := by rw [ef49, va_up_ne _ _ (hnew h316 w48)]; exact h316
    have n319 : bp ≠ lg := hnew h318 w51
    have n320 : bh ≠ lx := hnew h19 w24
    have h321 : f25 bh = some (.inl (cZ G, 240, .inl (fun _ => 0))) := by rw [ef25, va_up_ne _ _ (hnew h19 w24)]; exact h19
    have n322 : bh ≠ ly := hnew h321 w27
    have h323 : f28 bh = some (.inl (cZ G, 240, .inl (fun _ => 0))) := by rw [ef28, va_up_ne _ _ (hnew h321 w27)]; exact h321
    have n324 : bh ≠ lw := hnew h323 w30
    have h325 : f31 bh = some (.inl (cZ G, 240, .inl (fun _ => 0))) := by rw [ef31, va_up_ne _ _ (hnew h323 w30)]; exact h323
    have n326 : bh ≠ la := hnew h325 w33
    have h327 : f34 bh = some (.inl (cZ G, 240, .inl (fun _ => 0))) := by rw [ef34, va_up_ne _ _ (hnew h325 w33)]; exact h325
    have n328 : bh ≠ lq := hnew h327 w36
    have h329 : f37 bh = some (.inl (cZ G, 240, .inl (fun _ => 0))) := by rw [ef37, va_up_ne _ _ (hnew h327 w36)]; exact h327
    have n330 : bh ≠ le := hnew h329 w39
    have h331 : f40 bh = some (.inl (cZ G, 240, .inl (fun _ => 0))) := by rw [ef40, va_up_ne _ _ (hnew h329 w39)]; exact h329
    have n332 : bh ≠ lb := hnew h331 w42
    have h333 : f43 bh = some (.inl (cZ G, 240, .inl (fun _ => 0))) := by rw [ef43, va_up_ne _ _ (hnew h331 w42)]; exact h331
    have n334 : bh ≠ lh := hnew h333 w45
    have h335 : f46 bh = some (.inl (cZ G, 240, .inl (fun _ => 0))) := by rw [ef46, va_up_ne _ _ (hnew h333 w45)]; exact h333
    have n336 : bh ≠ lr := hnew h335 w48
    have h337 : f49 bh = some (.inl (cZ G, 240, .inl (fun _ => 0))) := by rw [ef49, va_up_ne _ _ (hnew h335 w48)]; exact h335
    have n338 : bh ≠ lg := hnew h337 w51
    have n339 : bf ≠ lx := hnew h20 w24
    have h340 : f25 bf = some (.inl (cI G, 3, .inl (upd (upd (upd (fun _ => 0) (0 : Int32).toNatClampNeg 0) (1 : Int32).toNatClampNeg 1) (2 : Int32).toNatClampNeg 2))) := by rw [ef25, va_up_ne _ _ (hnew h20 w24)]; exact h20
    have n341 : bf ≠ ly := hnew h340 w27
    have h342 : f28 bf = some (.inl (cI G, 3, .inl (upd (upd (upd (fun _ => 0) (0 : Int32).toNatClampNeg 0) (1 : Int32).toNatClampNeg 1) (2 : Int32).toNatClampNeg 2))) := by rw [ef28, va_up_ne _ _ (hnew h340 w27)]; exact h340
    have n343 : bf ≠ lw := hnew h342 w30
    have h344 : f31 bf = some (.inl (cI G, 3, .inl (upd (upd (upd (fun _ => 0) (0 : Int32).toNatClampNeg 0) (1 : Int32).toNatClampNeg 1) (2 : Int32).toNatClampNeg 2))) := by rw [ef31, va_up_ne _ _ (hnew h342 w30)]; exact h342
    have n345 : bf ≠ la := hnew h344 w33
    have h346 : f34 bf = some (.inl (cI G, 3, .inl (upd (upd (upd (fun _ => 0) (0 : Int32).toNatClampNeg 0) (1 : Int32).toNatClampNeg 1) (2 : Int32).toNatClampNeg 2))) := by rw [ef34, va_up_ne _ _ (hnew h344 w33)]; exact h344
    have n347 : bf ≠ lq := hnew h346 w36
    have h348 : f37 bf = some (.inl (cI G, 3, .inl (upd (upd (upd (fun _ => 0) (0 : Int32).toNatClampNeg 0) (1 : Int32).toNatClampNeg 1) (2 : Int32).toNatClampNeg 2))) := by rw [ef37, va_up_ne _ _ (hnew h346 w36)]; exact h346
    have n349 : bf ≠ le := hnew h348 w39
    have h350 : f40 bf = some (.inl (cI G, 3, .inl (upd (upd (upd (fun _ => 0) (0 : Int32).toNatClampNeg 0) (1 : Int32).toNatClampNeg 1) (2 : Int32).toNatClampNeg 2))) := by rw [ef40, va_up_ne _ _ (hnew h348 w39)]; exact h348
    have n351 : bf ≠ lb := hnew h350 w42
    have h352 : f43 bf = some (.inl (cI G, 3, .inl (upd (upd (upd (fun _ => 0) (0 : Int32).toNatClampNeg 0) (1 : Int32).toNatClampNeg 1) (2 : Int32).toNatClampNeg 2))) := by rw [ef43, va_up_ne _ _ (hnew h350 w42)]; exact h350
    have n353 : bf ≠ lh := hnew h352 w45
    have h354 : f46 bf = some (.inl (cI G, 3, .inl (upd (upd (upd (fun _ => 0) (0 : Int32).toNatClampNeg 0) (1 : Int32).toNatClampNeg 1) (2 : Int32).toNatClampNeg 2))) := by rw [ef46, va_up_ne _ _ (hnew h352 w45)]; exact h352
    have n355 : bf ≠ lr := hnew h354 w48
    have h356 : f49 bf = some (.inl (cI G, 3, .inl (upd (upd (upd (fun _ => 0) (0 : Int32).toNatClampNeg 0) (1 : Int32).toNatClampNeg 1) (2 : Int32).toNatClampNeg 2))) := by rw [ef49, va_up_ne _ _ (hnew h354 w48)]; exact h354
    have n357 : bf ≠ lg := hnew h356 w51
    have n358 : bl ≠ lx := hnew h21 w24
    have h359 : f25 bl = some (.inl (cI G, 3, .inl (fun j => if j < 3 then (-1) else (fun _ => 0) j))) := by rw [ef25, va_up_ne _ _ (hnew h21 w24)]; exact h21
    have n360 : bl ≠ ly := hnew h359 w27
    have h361 : f28 bl = some (.inl (cI G, 3, .inl (fun j => if j < 3 then (-1) else (fun _ => 0) j))) := by rw [ef28, va_up_ne _ _ (hnew h359 w27)]; exact h359
    have n362 : bl ≠ lw := hnew h361 w30
    have h363 : f31 bl = some (.inl (cI G, 3, .inl (fun j => if j < 3 then (-1) else (fun _ => 0) j))) := by rw [ef31, va_up_ne _ _ (hnew h361 w30)]; exact h361
    have n364 : bl ≠ la := hnew h363 w33
    have h365 : f34 bl = some (.inl (cI G, 3, .inl (fun j => if j < 3 then (-1) else (fun _ => 0) j))) := by rw [ef34, va_up_ne _ _ (hnew h363 w33)]; exact h363
    have n366 : bl ≠ lq := hnew h365 w36
    have h367 : f37 bl = some (.inl (cI G, 3, .inl (fun j => if j < 3 then (-1) else (fun _ => 0) j))) := by rw [ef37, va_up_ne _ _ (hnew h365 w36)]; exact h365
    have n368 : bl ≠ le := hnew h367 w39
    have h369 : f40 bl = some (.inl (cI G, 3, .inl (fun j => if j < 3 then (-1) else (fun _ => 0) j))) := by rw [ef40, va_up_ne _ _ (hnew h367 w39)]; exact h367
    have n370 : bl ≠ lb := hnew h369 w42
    have h371 : f43 bl = some (.inl (cI G, 3, .inl (fun j => if j < 3 then (-1) else (fun _ => 0) j))) := by rw [ef43, va_up_ne _ _ (hnew h369 w42)]; exact h369
    have n372 : bl ≠ lh := hnew h371 w45
    have h373 : f46 bl = some (.inl (cI G, 3, .inl (fun j => if j < 3 then (-1) else (fun _ => 0) j))) := by rw [ef46, va_up_ne _ _ (hnew h371 w45)]; exact h371
    have n374 : bl ≠ lr := hnew h373 w48
    have h375 : f49 bl = some (.inl (cI G, 3, .inl (fun j => if j < 3 then (-1) else (fun _ => 0) j))) := by rw [ef49, va_up_ne _ _ (hnew h373 w48)]; exact h373
    have n376 : bl ≠ lg := hnew h375 w51
    have n377 : bg ≠ lx := hnew h22 w24
    have h378 : f25 bg = some (.inl (cI G, 60, .inl (fun _ => 0))) := by rw [ef25, va_up_ne _ _ (hnew h22 w24)]; exact h22
    have n379 : bg ≠ ly := hnew h378 w27
    have h380 : f28 bg = some (.inl (cI G, 60, .inl (fun _ => 0))) := by rw [ef28, va_up_ne _ _ (hnew h378 w27)]; exact h378
    have n381 : bg ≠ lw := hnew h380 w30
    have h382 : f31 bg = some (.inl (cI G, 60, .inl (fun _ => 0))) := by rw [ef31, va_up_ne _ _ (hnew h380 w30)]; exact h380
    have n383 : bg ≠ la := hnew h382 w33
    have h384 : f34 bg = some (.inl (cI G, 60, .inl (fun _ => 0))) := by rw [ef34, va_up_ne _ _ (hnew h382 w33)]; exact h382
    have n385 : bg ≠ lq := hnew h384 w36
    have h386 : f37 bg = some (.inl (cI G, 60, .inl (fun _ => 0))) := by rw [ef37, va_up_ne _ _ (hnew h384 w36)]; exact h384
    have n387 : bg ≠ le := hnew h386 w39
    have h388 : f40 bg = some (.inl (cI G, 60, .inl (fun _ => 0))) := by rw [ef40, va_up_ne _ _ (hnew h386 w39)]; exact h386
    have n389 : bg ≠ lb := hnew h388 w42
    have h390 : f43 bg = some (.inl (cI G, 60, .inl (fun _ => 0))) := by rw [ef43, va_up_ne _ _ (hnew h388 w42)]; exact h388
    have n391 : bg ≠ lh := hnew h390 w45
    have h392 : f46 bg = some (.inl (cI G, 60, .inl (fun _ => 0))) := by rw [ef46, va_up_ne _ _ (hnew h390 w45)]; exact h390
    have n393 : bg ≠ lr := hnew h392 w48
    have h394 : f49 bg = some (.inl (cI G, 60, .inl (fun _ => 0))) := by rw [ef49, va_up_ne _ _ (hnew h392 w48)]; exact h392
    have n395 : bg ≠ lg := hnew h394 w51
    have h396 : f28 lx = some (.inl (cJ G, 64, .inr (.inl (fun _ => 0)))) := by rw [ef28, va_up_ne _ _ (hnew h26 w27)]; exact h26
    have h397 : f31 lx = some (.inl (cJ G, 64, .inr (.inl (fun _ => 0)))) := by rw [ef31, va_up_ne _ _ (hnew h396 w30)]; exact h396
    have h398 : f34 lx = some (.inl (cJ G, 64, .inr (.inl (fun _ => 0)))) := by rw [ef34, va_up_ne _ _ (hnew h397 w33)]; exact h397
    have h399 : f37 lx = some (.inl (cJ G, 64, .inr (.inl (fun _ => 0)))) := by rw [ef37, va_up_ne _ _ (hnew h398 w36)]; exact h398
    have h400 : f40 lx = some (.inl (cJ G, 64, .inr (.inl (fun _ => 0)))) := by rw [ef40, va_up_ne _ _ (hnew h399 w39)]; exact h399
    have n401 : lx ≠ lb := hnew h400 w42
    have h402 : f43 lx = some (.inl (cJ G, 64, .inr (.inl (fun _ => 0)))) := by rw [ef43, va_up_ne _ _ (hnew h400 w42)]; exact h400
    have n403 : lx ≠ lh := hnew h402 w45
    have h404 : f46 lx = some (.inl (cJ G, 64, .inr (.inl (fun _ => 0)))) := by rw [ef46, va_up_ne _ _ (hnew h402 w45)]; exact h402
    have n405 : lx ≠ lr := hnew h404 w48
    have h406 : f49 lx = some (.inl (cJ G, 64, .inr (.inl (fun _ => 0)))) := by rw [ef49, va_up_ne _ _ (hnew h404 w48)]; exact h404
    have n407 : lx ≠ lg := hnew h406 w51
    have h408 : f31 ly = some (.inl (cJ G, 64, .inr (.inl (fun _ => 0)))) := by rw [ef31, va_up_ne _ _ (hnew h29 w30)]; exact h29
    have h409 : f34 ly = some (.inl (cJ G, 64, .inr (.inl (fun _ => 0)))) := by rw [ef34, va_up_ne _ _ (hnew h408 w33)]; exact h408
    have h410 : f37 ly = some (.inl (cJ G, 64, .inr (.inl (fun _ => 0)))) := by rw [ef37, va_up_ne _ _ (hnew h409 w36)]; exact h409
    have h411 : f40 ly = some (.inl (cJ G, 64, .inr (.inl (fun _ => 0)))) := by rw [ef40, va_up_ne _ _ (hnew h410 w39)]; exact h410
    have n412 : ly ≠ lb := hnew h411 w42
    have h413 : f43 ly = some (.inl (cJ G, 64, .inr (.inl (fun _ => 0)))) := by rw [ef43, va_up_ne _ _ (hnew h411 w42)]; exact h411
    have n414 : ly ≠ lh := hnew h413 w45
    have h415 : f46 ly = some (.inl (cJ G, 64, .inr (.inl (fun _ => 0)))) := by rw [ef46, va_up_ne _ _ (hnew h413 w45)]; exact h413
    have n416 : ly ≠ lr := hnew h415 w48
    have h417 : f49 ly = some (.inl (cJ G, 64, .inr (.inl (fun _ => 0)))) := by rw [ef49, va_up_ne _ _ (hnew h415 w48)]; exact h415
    have n418 : ly ≠ lg := hnew h417 w51
    have h419 : f34 lw = some (.inl (cI G, 12, .inl (fun _ => 0))) := by rw [ef34, va_up_ne _ _ (hnew h32 w33)]; exact h32
    have h420 : f37 lw = some (.inl (cI G, 12, .inl (fun _ => 0))) := by rw [ef37, va_up_ne _ _ (hnew h419 w36)]; exact h419
    have h421 : f40 lw = some (.inl (cI G, 12, .inl (fun _ => 0))) := by rw [ef40, va_up_ne _ _ (hnew h420 w39)]; exact h420
    have n422 : lw ≠ lb := hnew h421 w42
    have h423 : f43 lw = some (.inl (cI G, 12, .inl (fun _ => 0))) := by rw [ef43, va_up_ne _ _ (hnew h421 w42)]; exact h421
    have n424 : lw ≠ lh := hnew h423 w45
    have h425 : f46 lw = some (.inl (cI G, 12, .inl (fun _ => 0))) := by rw [ef46, va_up_ne _ _ (hnew h423 w45)]; exact h423
    have n426 : lw ≠ lr := hnew h425 w48
    have h427 : f49 lw = some (.inl (cI G, 12, .inl (fun _ => 0))) := by rw [ef49, va_up_ne _ _ (hnew h425 w48)]; exact h425
    have n428 : lw ≠ lg := hnew h427 w51
    have h429 : f37 la = some (.inl (cI G, 12, .inl (fun _ => 0))) := by rw [ef37, va_up_ne _ _ (hnew h35 w36)]; exact h35
    have h430 : f40 la = some (.inl (cI G, 12, .inl (fun _ => 0))) := by rw [ef40, va_up_ne _ _ (hnew h429 w39)]; exact h429
    have n431 : la ≠ lb := hnew h430 w42
    have h432 : f43 la = some (.inl (cI G, 12, .inl (fun _ => 0))) := by rw [ef43, va_up_ne _ _ (hnew h430 w42)]; exact h430
    have n433 : la ≠ lh := hnew h432 w45
    have h434 : f46 la = some (.inl (cI G, 12, .inl (fun _ => 0))) := by rw [ef46, va_up_ne _ _ (hnew h432 w45)]; exact h432
    have n435 : la ≠ lr := hnew h434 w48
    have h436 : f49 la = some (.inl (cI G, 12, .inl (fun _ => 0))) := by rw [ef49, va_up_ne _ _ (hnew h434 w48)]; exact h434
    have n437 : la ≠ lg := hnew h436 w51
    have h438 : f40 lq = some (.inl (cI G, 12, .inl (fun _ => 0))) := by rw [ef40, va_up_ne _ _ (hnew h38 w39)]; exact h38
    have n439 : lq ≠ lb := hnew h438 w42
    have h440 : f43 lq = some (.inl (cI G, 12, .inl (fun _ => 0))) := by rw [ef43, va_up_ne _ _ (hnew h438 w42)]; exact h438
    have n441 : lq ≠ lh := hnew h440 w45
    have h442 : f46 lq = some (.inl (cI G, 12, .inl (fun _ => 0))) := by rw [ef46, va_up_ne _ _ (hnew h440 w45)]; exact h440
    have n443 : lq ≠ lr := hnew h442 w48
    have h444 : f49 lq = some (.inl (cI G, 12, .inl (fun _ => 0))) := by rw [ef49, va_up_ne _ _ (hnew h442 w48)]; exact h442
    have n445 : lq ≠ lg := hnew h444 w51
    have n446 : le ≠ lb := hnew h41 w42
    have h447 : f43 le = some (.inl (cI G, 16, .inl (fun _ => 0))) := by rw [ef43, va_up_ne _ _ (hnew h41 w42)]; exact h41
    have n448 : le ≠ lh := hnew h447 w45
    have h449 : f46 le = some (.inl (cI G, 16, .inl (fun _ => 0))) := by rw [ef46, va_up_ne _ _ (hnew h447 w45)]; exact h447
    have n450 : le ≠ lr := hnew h449 w48
    have h451 : f49 le = some (.inl (cI G, 16, .inl (fun _ => 0))) := by rw [ef49, va_up_ne _ _ (hnew h449 w48)]; exact h449
    have n452 : le ≠ lg := hnew h451 w51
    have n453 : lx ≠ ly := hnew h26 w27
    have n454 : lw ≠ la := hnew h32 w33
    have n455 : lw ≠ lq := hnew h419 w36
    have n456 : la ≠ lq := hnew h35 w36
    refine lv_iconst (v := 0) hx hb dL_law_65 (by decide) ?_
    refine lv_istore (lv' := [(12, .int 0), (11, .ref lg), (10, .ref lr), (9, .ref lh), (8, .ref lb), (7, .ref le), (6, .ref lq), (5, .ref la), (4, .ref lw), (3, .ref ly), (2, .ref lx), (1, .ref xo), (0, .ref b)]) hx hb dL_law_66 hl9 (by decide) rfl (fun ls hl9 => ?_)
    refine lv_iload hx hb dL_law_68 (lv_at hl9 0 rfl) ?_
    refine lv_bipush (v := 12) hx hb dL_law_70 (by decide) ?_
    refine lv_icmp_ge (tgt := 93) hx hb dL_law_72 (by decide) (fun c9 => absurd c9 (by decide)) (fun _ => ?_)
    refine lv_aload hx hb dL_law_75 (lv_at hl9 8 rfl) ?_
    refine lv_iload hx hb dL_law_77 (lv_at hl9 0 rfl) ?_
    refine lv_iconst (v := (-1)) hx hb dL_law_79 (by decide) ?_
    have h457 : f52 lw = some (.inl (cI G, 12, .inl (fun _ => 0))) := by rw [ef52, va_up_ne _ _ (hnew h427 w51)]; exact h427
    refine hp_iast B0 hw hS h457 (by unfold vp_in; decide) dL_law_80 (fun H locs f458 ef458 hw hS => ?_)
    rw [show (upd (fun _ => 0) (0 : Int32).toNatClampNeg (-1) : Nat → Int32) = (mAk 1) from (by rw [mAk_0]; exact mAk_u (k := 0) (by decide))] at ef458
    have h459 : f458 lw = some (.inl (cI G, 12, .inl (mAk 1))) := by rw [ef458, va_up_self]
    refine lv_aload hx hb dL_law_81 (lv_at hl9 6 rfl) ?_
    refine lv_iload hx hb dL_law_83 (lv_at hl9 0 rfl) ?_
    refine lv_iconst (v := (-1)) hx hb dL_law_85 (by decide) ?_
    have h460 : f52 lq = some (.inl (cI G, 12, .inl (fun _ => 0))) := by rw [ef52, va_up_ne _ _ (hnew h444 w51)]; exact h444
    have h461 : f458 lq = some (.inl (cI G, 12, .inl (fun _ => 0))) := by rw [ef458, va_up_ne _ _ (Ne.symm n455)]; exact h460
    refine hp_iast B0 hw hS h461 (by unfold vp_in; decide) dL_law_86 (fun H locs f462 ef462 hw hS => ?_)
    rw [show (upd (fun _ => 0) (0 : Int32).toNatClampNeg (-1) : Nat → Int32) = (mAk 1) from (by rw [mAk_0]; exact mAk_u (k := 0) (by decide))] at ef462
    have h463 : f462 lq = some (.inl (cI G, 12, .inl (mAk 1))) := by rw [ef462, va_up_self]
    refine lv_iinc (v := 1) (lv' := [(12, .int 1), (11, .ref lg), (10, .ref lr), (9, .ref lh), (8, .ref lb), (7, .ref le), (6, .ref lq), (5, .ref la), (4, .ref lw), (3, .ref ly), (2, .ref lx), (1, .ref xo), (0, .ref b)]) hx hb dL_law_87 hl9 (k := 0) rfl (by decide) (by decide) rfl (fun ls hl9 => ?_)
    refine lv_goto (tgt := 68) hx hb dL_law_90 (by decide) ?_
    refine lv_iload hx hb dL_law_68 (lv_at hl9 0 rfl) ?_
    refine lv_bipush (v := 12) hx hb dL_law_70 (by decide) ?_
    refine lv_icmp_ge (tgt := 93) hx hb dL_law_72 (by decide) (fun c9 => absurd c9 (by decide)) (fun _ => ?_)
    refine lv_aload hx hb dL_law_75 (lv_at hl9 8 rfl) ?_
    refine lv_iload hx hb dL_law_77 (lv_at hl9 0 rfl) ?_
    refine lv_iconst (v := (-1)) hx hb dL_law_79 (by decide) ?_
    have h464 : f462 lw = some (.inl (cI G, 12, .inl (mAk 1))) := by rw [ef462, va_up_ne _ _ n455]; exact h459
    refine hp_iast B0 hw hS h464 (by unfold vp_in; decide) dL_law_80 (fun H locs f465 ef465 hw hS => ?_)
    rw [show (upd (mAk 1) (1 : Int32).toNatClampNeg (-1) : Nat → Int32) = (mAk 2) from (mAk_u (k := 1) (by decide))] at ef465
    have h466 : f465 lw = some (.inl (cI G, 12, .inl (mAk 2))) := by rw [ef465, va_up_self]
    refine lv_aload hx hb dL_law_81 (lv_at hl9 6 rfl) ?_
    refine lv_iload hx hb dL_law_83 (lv_at hl9 0 rfl) ?_
    refine lv_iconst (v := (-1)) hx hb dL_law_85 (by decide) ?_
    have h467 : f465 lq = some (.inl (cI G, 12, .inl (mAk 1))) := by rw [ef465, va_up_ne _ _ (Ne.symm n455)]; exact h463
    refine hp_iast B0 hw hS h467 (by unfold vp_in; decide) dL_law_86 (fun H locs f468 ef468 hw hS => ?_)
    rw [show (upd (mAk 1) (1 : Int32).toNatClampNeg (-1) : Nat → Int32) = (mAk 2) from (mAk_u (k := 1) (by decide))] at ef468
    have h469 : f468 lq = some (.inl (cI G, 12, .inl (mAk 2))) := by rw [ef468, va_up_self]
    refine lv_iinc (v := 2) (lv' := [(12, .int 2), (11, .ref lg), (10, .ref lr), (9, .ref lh), (8, .ref lb), (7, .ref le), (6, .ref lq), (5, .ref la), (4, .ref lw), (3, .ref ly), (2, .ref lx), (1, .ref xo), (0, .ref b)]) hx hb dL_law_87 hl9 (k := 0) rfl (by decide) (by decide) rfl (fun ls hl9 => ?_)
    refine lv_goto (tgt := 68) hx hb dL_law_90 (by decide) ?_
    refine lv_iload hx hb dL_law_68 (lv_at hl9 0 rfl) ?_
    refine lv_bipush (v := 12) hx hb dL_law_70 (by decide) ?_
    refine lv_icmp_ge (tgt := 93) hx hb dL_law_72 (by decide) (fun c9 => absurd c9 (by decide)) (fun _ => ?_)
    refine lv_aload hx hb dL_law_75 (lv_at hl9 8 rfl) ?_
    refine lv_iload hx hb dL_law_77 (lv_at hl9 0 rfl) ?_
    refine lv_iconst (v := (-1)) hx hb dL_law_79 (by decide) ?_
    have h470 : f468 lw = some (.inl (cI G, 12, .inl (mAk 2))) := by rw [ef468, va_up_ne _ _ n455]; exact h466
    refine hp_iast B0 hw hS h470 (by unfold vp_in; decide) dL_law_80 (fun H locs f471 ef471 hw hS => ?_)
    rw [show (upd (mAk 2) (2 : Int32).toNatClampNeg (-1) : Nat → Int32) = (mAk 3) from (mAk_u (k := 2) (by decide))] at ef471
    have h472 : f471 lw = some (.inl (cI G, 12, .inl (mAk 3))) := by rw [ef471, va_up_self]
    refine lv_aload hx hb dL_law_81 (lv_at hl9 6 rfl) ?_
    refine lv_iload hx hb dL_law_83 (lv_at hl9 0 rfl) ?_
    refine lv_iconst (v := (-1)) hx hb dL_law_85 (by decide) ?_
    have h473 : f471 lq = some (.inl (cI G, 12, .inl (mAk 2))) := by rw [ef471, va_up_ne _ _ (Ne.symm n455)]; exact h469
    refine hp_iast B0 hw hS h473 (by unfold vp_in; decide) dL_law_86 (fun H locs f474 ef474 hw hS => ?_)
    rw [show (upd (mAk 2) (2 : Int32).toNatClampNeg (-1) : Nat → Int32) = (mAk 3) from (mAk_u (k := 2) (by decide))] at ef474
    have h475 : f474 lq = some (.inl (cI G, 12, .inl (mAk 3))) := by rw [ef474, va_up_self]
    refine lv_iinc (v := 3) (lv' := [(12, .int 3), (11, .ref lg), (10, .ref lr), (9, .ref lh), (8, .ref lb), (7, .ref le), (6, .ref lq), (5, .ref la), (4, .ref lw), (3, .ref ly), (2, .ref lx), (1, .ref xo), (0, .ref b)]) hx hb dL_law_87 hl9 (k := 0) rfl (by decide) (by decide) rfl (fun ls hl9 => ?_)
    refine lv_goto (tgt := 68) hx hb dL_law_90 (by decide) ?_
    refine lv_iload hx hb dL_law_68 (lv_at hl9 0 rfl) ?_
    refine lv_bipush (v := 12) hx hb dL_law_70 (by decide) ?_
    refine lv_icmp_ge (tgt := 93) hx hb dL_law_72 (by decide) (fun c9 => absurd c9 (by decide)) (fun _ => ?_)
    refine lv_aload hx hb dL_law_75 (lv_at hl9 8 rfl) ?_
    refine lv_iload hx hb dL_law_77 (lv_at hl9 0 rfl) ?_
    refine lv_iconst (v := (-1)) hx hb dL_law_79 (by decide) ?_
    have h476 : f474 lw = some (.inl (cI G, 12, .inl (mAk 3))) := by rw [ef474, va_up_ne _ _ n455]; exact h472
    refine hp_iast B0 hw hS h476 (by unfold vp_in; decide) dL_law_80 (fun H locs f477 ef477 hw hS => ?_)
    rw [show (upd (mAk 3) (3 : Int32).toNatClampNeg (-1) : Nat → Int32) = (mAk 4) from (mAk_u (k := 3) (by decide))] at ef477
    have h478 : f477 lw = some (.inl (cI G, 12, .inl (mAk 4))) := by rw [ef477, va_up_self]
    refine lv_aload hx hb dL_law_81 (lv_at hl9 6 rfl) ?_
    refine lv_iload hx hb dL_law_83 (lv_at hl9 0 rfl) ?_
    refine lv_iconst (v := (-1)) hx hb dL_law_85 (by decide) ?_
    have h479 : f477 lq = some (.inl (cI G, 12, .inl (mAk 3))) := by rw [ef477, va_up_ne _ _ (Ne.symm n455)]; exact h475
    refine hp_iast B0 hw hS h479 (by unfold vp_in; decide) dL_law_86 (fun H locs f480 ef480 hw hS => ?_)
    rw [show (upd (mAk 3) (3 : Int32).toNatClampNeg (-1) : Nat → Int32) = (mAk 4) from (mAk_u (k := 3) (by decide))] at ef480
    have h481 : f480 lq = some (.inl (cI G, 12, .inl (mAk 4))) := by rw [ef480, va_up_self]
    refine lv_iinc (v := 4) (lv' := [(12, .int 4), (11, .ref lg), (10, .ref lr), (9, .ref lh), (8, .ref lb), (7, .ref le), (6, .ref lq), (5, .ref la), (4, .ref lw), (3, .ref ly), (2, .ref lx), (1, .ref xo), (0, .ref b)]) hx hb dL_law_87 hl9 (k := 0) rfl (by decide) (by decide) rfl (fun ls hl9 => ?_)
    refine lv_goto (tgt := 68) hx hb dL_law_90 (by decide) ?_
    refine lv_iload hx hb dL_law_68 (lv_at hl9 0 rfl) ?_
    refine lv_bipush (v := 12) hx hb dL_law_70 (by decide) ?_
    refine lv_icmp_ge (tgt := 93) hx hb dL_law_72 (by decide) (fun c9 => absurd c9 (by decide)) (fun _ => ?_)
    refine lv_aload hx hb dL_law_75 (lv_at hl9 8 rfl) ?_
    refine lv_iload hx hb dL_law_77 (lv_at hl9 0 rfl) ?_
    refine lv_iconst (v := (-1)) hx hb dL_law_79 (by decide) ?_
    have h482 : f480 lw = some (.inl (cI G, 12, .inl (mAk 4))) := by rw [ef480, va_up_ne _ _ n455]; exact h478
    refine hp_iast B0 hw hS h482 (by unfold vp_in; decide) dL_law_80 (fun H locs f483 ef483 hw hS => ?_)
    rw [show (upd (mAk 4) (4 : Int32).toNatClampNeg (-1) : Nat → Int32) = (mAk 5) from (mAk_u (k := 4) (by decide))] at ef483
    have h484 : f483 lw = some (.inl (cI G, 12, .inl (mAk 5))) := by rw [ef483, va_up_self]
    refine lv_aload hx hb dL_law_81 (lv_at hl9 6 rfl) ?_
    refine lv_iload hx hb dL_law_83 (lv_at hl9 0 rfl) ?_
    refine lv_iconst (v := (-1)) hx hb dL_law_85 (by decide) ?_
    have h485 : f483 lq = some (.inl (cI G, 12, .inl (mAk 4))) := by rw [ef483, va_up_ne _ _ (Ne.symm n455)]; exact h481
    refine hp_iast B0 hw hS h485 (by unfold vp_in; decide) dL_law_86 (fun H locs f486 ef486 hw hS => ?_)
    rw [show (upd (mAk 4) (4 : Int32).toNatClampNeg (-1) : Nat → Int32) = (mAk 5) from (mAk_u (k := 4) (by decide))] at ef486
    have h487 : f486 lq = some (.inl (cI G, 12, .inl (mAk 5))) := by rw [ef486, va_up_self]
    refine lv_iinc (v := 5) (lv' := [(12, .int 5), (11, .ref lg), (10, .ref lr), (9, .ref lh), (8, .ref lb), (7, .ref le), (6, .ref lq), (5, .ref la), (4, .ref lw), (3, .ref ly), (2, .ref lx), (1, .ref xo), (0, .ref b)]) hx hb dL_law_87 hl9 (k := 0) rfl (by decide) (by decide) rfl (fun ls hl9 => ?_)
    refine lv_goto (tgt := 68) hx hb dL_law_90 (by decide) ?_
    refine lv_iload hx hb dL_law_68 (lv_at hl9 0 rfl) ?_
    refine lv_bipush (v := 12) hx hb dL_law_70 (by decide) ?_
    refine lv_icmp_ge (tgt := 93) hx hb dL_law_72 (by decide) (fun c9 => absurd c9 (by decide)) (fun _ => ?_)
    refine lv_aload hx hb dL_law_75 (lv_at hl9 8 rfl) ?_
    refine lv_iload hx hb dL_law_77 (lv_at hl9 0 rfl) ?_
    refine lv_iconst (v := (-1)) hx hb dL_law_79 (by decide) ?_
    have h488 : f486 lw = some (.inl (cI G, 12, .inl (mAk 5))) := by rw [ef486, va_up_ne _ _ n455]; exact h484
    refine hp_iast B0 hw hS h488 (by unfold vp_in; decide) dL_law_80 (fun H locs f489 ef489 hw hS => ?_)
    rw [show (upd (mAk 5) (5 : Int32).toNatClampNeg (-1) : Nat → Int32) = (mAk 6) from (mAk_u (k := 5) (by decide))] at ef489
    have h490 : f489 lw = some (.inl (cI G, 12, .inl (mAk 6))) := by rw [ef489, va_up_self]
    refine lv_aload hx hb dL_law_81 (lv_at hl9 6 rfl) ?_
    refine lv_iload hx hb dL_law_83 (lv_at hl9 0 rfl) ?_
    refine lv_iconst (v := (-1)) hx hb dL_law_85 (by decide) ?_
    have h491 : f489 lq = some (.inl (cI G, 12, .inl (mAk 5))) := by rw [ef489, va_up_ne _ _ (Ne.symm n455)]; exact h487
    refine hp_iast B0 hw hS h491 (by unfold vp_in; decide) dL_law_86 (fun H locs f492 ef492 hw hS => ?_)
    rw [show (upd (mAk 5) (5 : Int32).toNatClampNeg (-1) : Nat → Int32) = (mAk 6) from (mAk_u (k := 5) (by decide))] at ef492
    have h493 : f492 lq = some (.inl (cI G, 12, .inl (mAk 6))) := by rw [ef492, va_up_self]
    refine lv_iinc (v := 6) (lv' := [(12, .int 6), (11, .ref lg), (10, .ref lr), (9, .ref lh), (8, .ref lb), (7, .ref le), (6, .ref lq), (5, .ref la), (4, .ref lw), (3, .ref ly), (2, .ref lx), (1, .ref xo), (0, .ref b)]) hx hb dL_law_87 hl9 (k := 0) rfl (by decide) (by decide) rfl (fun ls hl9 => ?_)
    refine lv_goto (tgt := 68) hx hb dL_law_90 (by decide) ?_
    refine lv_iload hx hb dL_law_68 (lv_at hl9 0 rfl) ?_
    refine lv_bipush (v := 12) hx hb dL_law_70 (by decide) ?_
    refine lv_icmp_ge (tgt := 93) hx hb dL_law_72 (by decide) (fun c9 => absurd c9 (by decide)) (fun _ => ?_)
    refine lv_aload hx hb dL_law_75 (lv_at hl9 8 rfl) ?_
    refine lv_iload hx hb dL_law_77 (lv_at hl9 0 rfl) ?_
    refine lv_iconst (v := (-1)) hx hb dL_law_79 (by decide) ?_
    have h494 : f492 lw = some (.inl (cI G, 12, .inl (mAk 6))) := by rw [ef492, va_up_ne _ _ n455]; exact h490
    refine hp_iast B0 hw hS h494 (by unfold vp_in; decide) dL_law_80 (fun H locs f495 ef495 hw hS => ?_)
    rw [show (upd (mAk 6) (6 : Int32).toNatClampNeg (-1) : Nat → Int32) = (mAk 7) from (mAk_u (k := 6) (by decide))] at ef495
    have h496 : f495 lw = some (.inl (cI G, 12, .inl (mAk 7))) := by rw [ef495, va_up_self]
    refine lv_aload hx hb dL_law_81 (lv_at hl9 6 rfl) ?_
    refine lv_iload hx hb dL_law_83 (lv_at hl9 0 rfl) ?_
    refine lv_iconst (v := (-1)) hx hb dL_law_85 (by decide) ?_
    have h497 : f495 lq = some (.inl (cI G, 12, .inl (mAk 6))) := by rw [ef495, va_up_ne _ _ (Ne.symm n455)]; exact h493
    refine hp_iast B0 hw hS h497 (by unfold vp_in; decide) dL_law_86 (fun H locs f498 ef498 hw hS => ?_)
    rw [show (upd (mAk 6) (6 : Int32).toNatClampNeg (-1) : Nat → Int32) = (mAk 7) from (mAk_u (k := 6) (by decide))] at ef498
    have h499 : f498 lq = some (.inl (cI G, 12, .inl (mAk 7))) := by rw [ef498, va_up_self]
    refine lv_iinc (v := 7) (lv' := [(12, .int 7), (11, .ref lg), (10, .ref lr), (9, .ref lh), (8, .ref lb), (7, .ref le), (6, .ref lq), (5, .ref la), (4, .ref lw), (3, .ref ly), (2, .ref lx), (1, .ref xo), (0, .ref b)]) hx hb dL_law_87 hl9 (k := 0) rfl (by decide) (by decide) rfl (fun ls hl9 => ?_)
    refine lv_goto (tgt := 68) hx hb dL_law_90 (by decide) ?_
    refine lv_iload hx hb dL_law_68 (lv_at hl9 0 rfl) ?_
    refine lv_bipush (v := 12) hx hb dL_law_70 (by decide) ?_
    refine lv_icmp_ge (tgt := 93) hx hb dL_law_72 (by decide) (fun c9 => absurd c9 (by decide)) (fun _ => ?_)
    refine lv_aload hx hb dL_law_75 (lv_at hl9 8 rfl) ?_
    refine lv_iload hx hb dL_law_77 (lv_at hl9 0 rfl) ?_
    refine lv_iconst (v := (-1)) hx hb dL_law_79 (by decide) ?_
    have h500 : f498 lw = some (.inl (cI G, 12, .inl (mAk 7))) := by rw [ef498, va_up_ne _ _ n455]; exact h496
    refine hp_iast B0 hw hS h500 (by unfold vp_in; decide) dL_law_80 (fun H locs f501 ef501 hw hS => ?_)
    rw [show (upd (mAk 7) (7 : Int32).toNatClampNeg (-1) : Nat → Int32) = (mAk 8) from (mAk_u (k := 7) (by decide))] at ef501
    have h502 : f501 lw = some (.inl (cI G, 12, .inl (mAk 8))) := by rw [ef501, va_up_self]
    refine lv_aload hx hb dL_law_81 (lv_at hl9 6 rfl) ?_
    refine lv_iload hx hb dL_law_83 (lv_at hl9 0 rfl) ?_
    refine lv_iconst (v := (-1)) hx hb dL_law_85 (by decide) ?_
    have h503 : f501 lq = some (.inl (cI G, 12, .inl (mAk 7))) := by rw [ef501, va_up_ne _ _ (Ne.symm n455)]; exact h499
    refine hp_iast B0 hw hS h503 (by unfold vp_in; decide) dL_law_86 (fun H locs f504 ef504 hw hS => ?_)
    rw [show (upd (mAk 7) (7 : Int32).toNatClampNeg (-1) : Nat → Int32) = (mAk 8) from (mAk_u (k := 7) (by decide))] at ef504
    have h505 : f504 lq = some (.inl (cI G, 12, .inl (mAk 8))) := by rw [ef504, va_up_self]
    refine lv_iinc (v := 8) (lv' := [(12, .int 8), (11, .ref lg), (10, .ref lr), (9, .ref lh), (8, .ref lb), (7, .ref le), (6, .ref lq), (5, .ref la), (4, .ref lw), (3, .ref ly), (2, .ref lx), (1, .ref xo), (0, .ref b)]) hx hb dL_law_87 hl9 (k := 0) rfl (by decide) (by decide) rfl (fun ls hl9 => ?_)
    refine lv_goto (tgt := 68) hx hb dL_law_90 (by decide) ?_
    refine lv_iload hx hb dL_law_68 (lv_at hl9 0 rfl) ?_
    refine lv_bipush (v := 12) hx hb dL_law_70 (by decide) ?_
    refine lv_icmp_ge (tgt := 93) hx hb dL_law_72 (by decide) (fun c9 => absurd c9 (by decide)) (fun _ => ?_)
    refine lv_aload hx hb dL_law_75 (lv_at hl9 8 rfl) ?_
    refine lv_iload hx hb dL_law_77 (lv_at hl9 0 rfl) ?_
    refine lv_iconst (v := (-1)) hx hb dL_law_79 (by decide) ?_
    have h506 : f504 lw = some (.inl (cI G, 12, .inl (mAk 8))) := by rw [ef504, va_up_ne _ _ n455]; exact h502
    refine hp_iast B0 hw hS h506 (by unfold vp_in; decide) dL_law_80 (fun H locs f507 ef507 hw hS => ?_)
    rw [show (upd (mAk 8) (8 : Int32).toNatClampNeg (-1) : Nat → Int32) = (mAk 9) from (mAk_u (k := 8) (by decide))] at ef507
    have h508 : f507 lw = some (.inl (cI G, 12, .inl (mAk 9))) := by rw [ef507, va_up_self]
    refine lv_aload hx hb dL_law_81 (lv_at hl9 6 rfl) ?_
    refine lv_iload hx hb dL_law_83 (lv_at hl9 0 rfl) ?_
    refine lv_iconst (v := (-1)) hx hb dL_law_85 (by decide) ?_
    have h509 : f507 lq = some (.inl (cI G, 12, .inl (mAk 8))) := by rw [ef507, va_up_ne _ _ (Ne.symm n455)]; exact h505
    refine hp_iast B0 hw hS h509 (by unfold vp_in; decide) dL_law_86 (fun H locs f510 ef510 hw hS => ?_)
    rw [show (upd (mAk 8) (8 : Int32).toNatClampNeg (-1) : Nat → Int32) = (mAk 9) from (mAk_u (k := 8) (by decide))] at ef510
    have h511 : f510 lq = some (.inl (cI G, 12, .inl (mAk 9))) := by rw [ef510, va_up_self]
    refine lv_iinc (v := 9) (lv' := [(12, .int 9), (11, .ref lg), (10, .ref lr), (9, .ref lh), (8, .ref lb), (7, .ref le), (6, .ref lq), (5, .ref la), (4, .ref lw), (3, .ref ly), (2, .ref lx), (1, .ref xo), (0, .ref b)]) hx hb dL_law_87 hl9 (k := 0) rfl (by decide) (by decide) rfl (fun ls hl9 => ?_)
    refine lv_goto (tgt := 68) hx hb dL_law_90 (by decide) ?_
    refine lv_iload hx hb dL_law_68 (lv_at hl9 0 rfl) ?_
    refine lv_bipush (v := 12) hx hb dL_law_70 (by decide) ?_
    refine lv_icmp_ge (tgt := 93) hx hb dL_law_72 (by decide) (fun c9 => absurd c9 (by decide)) (fun _ => ?_)
    refine lv_aload hx hb dL_law_75 (lv_at hl9 8 rfl) ?_
    refine lv_iload hx hb dL_law_77 (lv_at hl9 0 rfl) ?_
    refine lv_iconst (v := (-1)) hx hb dL_law_79 (by decide) ?_
    have h512 : f510 lw = some (.inl (cI G, 12, .inl (mAk 9))) := by rw [ef510, va_up_ne _ _ n455]; exact h508
    refine hp_iast B0 hw hS h512 (by unfold vp_in; decide) dL_law_80 (fun H locs f513 ef513 hw hS => ?_)
    rw [show (upd (mAk 9) (9 : Int32).toNatClampNeg (-1) : Nat → Int32) = (mAk 10) from (mAk_u (k := 9) (by decide))] at ef513
    have h514 : f513 lw = some (.inl (cI G, 12, .inl (mAk 10))) := by rw [ef513, va_up_self]
    refine lv_aload hx hb dL_law_81 (lv_at hl9 6 rfl) ?_
    refine lv_iload hx hb dL_law_83 (lv_at hl9 0 rfl) ?_
    refine lv_iconst (v := (-1)) hx hb dL_law_85 (by decide) ?_
    have h515 : f513 lq = some (.inl (cI G, 12, .inl (mAk 9))) := by rw [ef513, va_up_ne _ _ (Ne.symm n455)]; exact h511
    refine hp_iast B0 hw hS h515 (by unfold vp_in; decide) dL_law_86 (fun H locs f516 ef516 hw hS => ?_)
    rw [show (upd (mAk 9) (9 : Int32).toNatClampNeg (-1) : Nat → Int32) = (mAk 10) from (mAk_u (k := 9) (by decide))] at ef516
    have h517 : f516 lq = some (.inl (cI G, 12, .inl (mAk 10))) := by rw [ef516, va_up_self]
    refine lv_iinc (v := 10) (lv' := [(12, .int 10), (11, .ref lg), (10, .ref lr), (9, .ref lh), (8, .ref lb), (7, .ref le), (6, .ref lq), (5, .ref la), (4, .ref lw), (3, .ref ly), (2, .ref lx), (1, .ref xo), (0, .ref b)]) hx hb dL_law_87 hl9 (k := 0) rfl (by decide) (by decide) rfl (fun ls hl9 => ?_)
    refine lv_goto (tgt := 68) hx hb dL_law_90 (by decide) ?_
    refine lv_iload hx hb dL_law_68 (lv_at hl9 0 rfl) ?_
    refine lv_bipush (v := 12) hx hb dL_law_70 (by decide) ?_
    refine lv_icmp_ge (tgt := 93) hx hb dL_law_72 (by decide) (fun c9 => absurd c9 (by decide)) (fun _ => ?_)
    refine lv_aload hx hb dL_law_75 (lv_at hl9 8 rfl) ?_
    refine lv_iload hx hb dL_law_77 (lv_at hl9 0 rfl) ?_
    refine lv_iconst (v := (-1)) hx hb dL_law_79 (by decide) ?_
    have h518 : f516 lw = some (.inl (cI G, 12, .inl (mAk 10))) := by rw [ef516, va_up_ne _ _ n455]; exact h514
    refine hp_iast B0 hw hS h518 (by unfold vp_in; decide) dL_law_80 (fun H locs f519 ef519 hw hS => ?_)
    rw [show (upd (mAk 10) (10 : Int32).toNatClampNeg (-1) : Nat → Int32) = (mAk 11) from (mAk_u (k := 10) (by decide))] at ef519
    have h520 : f519 lw = some (.inl (cI G, 12, .inl (mAk 11))) := by rw [ef519, va_up_self]
    refine lv_aload hx hb dL_law_81 (lv_at hl9 6 rfl) ?_
    refine lv_iload hx hb dL_law_83 (lv_at hl9 0 rfl) ?_
    refine lv_iconst (v := (-1)) hx hb dL_law_85 (by decide) ?_
    have h521 : f519 lq = some (.inl (cI G, 12, .inl (mAk 10))) := by rw [ef519, va_up_ne _ _ (Ne.symm n455)]; exact h517
    refine hp_iast B0 hw hS h521 (by unfold vp_in; decide) dL_law_86 (fun H locs f522 ef522 hw hS => ?_)
    rw [show (upd (mAk 10) (10 : Int32).toNatClampNeg (-1) : Nat → Int32) = (mAk 11) from (mAk_u (k := 10) (by decide))] at ef522
    have h523 : f522 lq = some (.inl (cI G, 12, .inl (mAk 11))) := by rw [ef522, va_up_self]
    refine lv_iinc (v := 11) (lv' := [(12, .int 11), (11, .ref lg), (10, .ref lr), (9, .ref lh), (8, .ref lb), (7, .ref le), (6, .ref lq), (5, .ref la), (4, .ref lw), (3, .ref ly), (2, .ref lx), (1, .ref xo), (0, .ref b)]) hx hb dL_law_87 hl9 (k := 0) rfl (by decide) (by decide) rfl (fun ls hl9 => ?_)
    refine lv_goto (tgt := 68) hx hb dL_law_90 (by decide) ?_
    refine lv_iload hx hb dL_law_68 (lv_at hl9 0 rfl) ?_
    refine lv_bipush (v := 12) hx hb dL_law_70 (by decide) ?_
    refine lv_icmp_ge (tgt := 93) hx hb dL_law_72 (by decide) (fun c9 => absurd c9 (by decide)) (fun _ => ?_)
    refine lv_aload hx hb dL_law_75 (lv_at hl9 8 rfl) ?_
    refine lv_iload hx hb dL_law_77 (lv_at hl9 0 rfl) ?_
    refine lv_iconst (v := (-1)) hx hb dL_law_79 (by decide) ?_
    have h524 : f522 lw = some (.inl (cI G, 12, .inl (mAk 11))) := by rw [ef522, va_up_ne _ _ n455]; exact h520
    refine hp_iast B0 hw hS h524 (by unfold vp_in; decide) dL_law_80 (fun H locs f525 ef525 hw hS => ?_)
    rw [show (upd (mAk 11) (11 : Int32).toNatClampNeg (-1) : Nat → Int32) = (mAk 12) from (mAk_u (k := 11) (by decide))] at ef525
    have h526 : f525 lw = some (.inl (cI G, 12, .inl (mAk 12))) := by rw [ef525, va_up_self]
    refine lv_aload hx hb dL_law_81 (lv_at hl9 6 rfl) ?_
    refine lv_iload hx hb dL_law_83 (lv_at hl9 0 rfl) ?_
    refine lv_iconst (v := (-1)) hx hb dL_law_85 (by decide) ?_
    have h527 : f525 lq = some (.inl (cI G, 12, .inl (mAk 11))) := by rw [ef525, va_up_ne _ _ (Ne.symm n455)]; exact h523
    refine hp_iast B0 hw hS h527 (by unfold vp_in; decide) dL_law_86 (fun H locs f528 ef528 hw hS => ?_)
    rw [show (upd (mAk 11) (11 : Int32).toNatClampNeg (-1) : Nat → Int32) = (mAk 12) from (mAk_u (k := 11) (by decide))] at ef528
    have h529 : f528 lq = some (.inl (cI G, 12, .inl (mAk 12))) := by rw [ef528, va_up_self]
    refine lv_iinc (v := 12) (lv' := [(12, .int 12), (11, .ref lg), (10, .ref lr), (9, .ref lh), (8, .ref lb), (7, .ref le), (6, .ref lq), (5, .ref la), (4, .ref lw), (3, .ref ly), (2, .ref lx), (1, .ref xo), (0, .ref b)]) hx hb dL_law_87 hl9 (k := 0) rfl (by decide) (by decide) rfl (fun ls hl9 => ?_)
    refine lv_goto (tgt := 68) hx hb dL_law_90 (by decide) ?_
    refine lv_iload hx hb dL_law_68 (lv_at hl9 0 rfl) ?_
    refine lv_bipush (v := 12) hx hb dL_law_70 (by decide) ?_
    refine lv_icmp_ge (tgt := 93) hx hb dL_law_72 (by decide) (fun _ => ?_) (fun c9 => absurd (by decide) c9)
    refine lv_aload hx hb dL_law_93 (lv_at hl9 5 rfl) ?_
    refine lv_iconst (v := 1) hx hb dL_law_95 (by decide) ?_
    refine lv_iconst (v := (-1)) hx hb dL_law_96 (by decide) ?_
    have h530 : f52 le = some (.inl (cI G, 16, .inl (fun _ => 0))) := by rw [ef52, va_up_ne _ _ (hnew h451 w51)]; exact h451
    have n532 : lw ≠ le := hnew h420 w39
    have h531 : f458 le = some (.inl (cI G, 16, .inl (fun _ => 0))) := by rw [ef458, va_up_ne _ _ (Ne.symm n532)]; exact h530
    have n534 : lq ≠ le := hnew h38 w39
    have h533 : f462 le = some (.inl (cI G, 16, .inl (fun _ => 0))) := by rw [ef462, va_up_ne _ _ (Ne.symm n534)]; exact h531
    have h535 : f465 le = some (.inl (cI G, 16, .inl (fun _ => 0))) := by rw [ef465, va_up_ne _ _ (Ne.symm n532)]; exact h533
    have h536 : f468 le = some (.inl (cI G, 16, .inl (fun _ => 0))) := by rw [ef468, va_up_ne _ _ (Ne.symm n534)]; exact h535
    have h537 : f471 le = some (.inl (cI G, 16, .inl (fun _ => 0))) := by rw [ef471, va_up_ne _ _ (Ne.symm n532)]; exact h536
    have h538 : f474 le = some (.inl (cI G, 16, .inl (fun _ => 0))) := by rw [ef474, va_up_ne _ _ (Ne.symm n534)]; exact h537
    have h539 : f477 le = some (.inl (cI G, 16, .inl (fun _ => 0))) := by rw [ef477, va_up_ne _ _ (Ne.symm n532)]; exact h538
    have h540 : f480 le = some (.inl (cI G, 16, .inl (fun _ => 0))) := by rw [ef480, va_up_ne _ _ (Ne.symm n534)]; exact h539
    have h541 : f483 le = some (.inl (cI G, 16, .inl (fun _ => 0))) := by rw [ef483, va_up_ne _ _ (Ne.symm n532)]; exact h540
    have h542 : f486 le = some (.inl (cI G, 16, .inl (fun _ => 0))) := by rw [ef486, va_up_ne _ _ (Ne.symm n534)]; exact h541
    have h543 : f489 le = some (.inl (cI G, 16, .inl (fun _ => 0))) := by rw [ef489, va_up_ne _ _ (Ne.symm n532)]; exact h542
    have h544 : f492 le = some (.inl (cI G, 16, .inl (fun _ => 0))) := by rw [ef492, va_up_ne _ _ (Ne.symm n534)]; exact h543
    have h545 : f495 le = some (.inl (cI G, 16, .inl (fun _ => 0))) := by rw [ef495, va_up_ne _ _ (Ne.symm n532)]; exact h544
    have h546 : f498 le = some (.inl (cI G, 16, .inl (fun _ => 0))) := by rw [ef498, va_up_ne _ _ (Ne.symm n534)]; exact h545
    have h547 : f501 le = some (.inl (cI G, 16, .inl (fun _ => 0))) := by rw [ef501, va_up_ne _ _ (Ne.symm n532)]; exact h546
    have h548 : f504 le = some (.inl (cI G, 16, .inl (fun _ => 0))) := by rw [ef504, va_up_ne _ _ (Ne.symm n534)]; exact h547
    have h549 : f507 le = some (.inl (cI G, 16, .inl (fun _ => 0))) := by rw [ef507, va_up_ne _ _ (Ne.symm n532)]; exact h548
    have h550 : f510 le = some (.inl (cI G, 16, .inl (fun _ => 0))) := by rw [ef510, va_up_ne _ _ (Ne.symm n534)]; exact h549
    have h551 : f513 le = some (.inl (cI G, 16, .inl (fun _ => 0))) := by rw [ef513, va_up_ne _ _ (Ne.symm n532)]; exact h550
    have h552 : f516 le = some (.inl (cI G, 16, .inl (fun _ => 0))) := by rw [ef516, va_up_ne _ _ (Ne.symm n534)]; exact h551
    have h553 : f519 le = some (.inl (cI G, 16, .inl (fun _ => 0))) := by rw [ef519, va_up_ne _ _ (Ne.symm n532)]; exact h552
    have h554 : f522 le = some (.inl (cI G, 16, .inl (fun _ => 0))) := by rw [ef522, va_up_ne _ _ (Ne.symm n534)]; exact h553
    have h555 : f525 le = some (.inl (cI G, 16, .inl (fun _ => 0))) := by rw [ef525, va_up_ne _ _ (Ne.symm n532)]; exact h554
    have h556 : f528 le = some (.inl (cI G, 16, .inl (fun _ => 0))) := by rw [ef528, va_up_ne _ _ (Ne.symm n534)]; exact h555
    refine hp_iast B0 hw hS h556 (by unfold vp_in; decide) dL_law_97 (fun H locs f557 ef557 hw hS => ?_)
    have h558 : f557 le = some (.inl (cI G, 16, .inl (upd (fun _ => 0) (1 : Int32).toNatClampNeg (-1)))) := by rw [ef557, va_up_self]
    refine lv_aload hx hb dL_law_98 (lv_at hl9 5 rfl) ?_
    refine lv_bipush (v := 9) hx hb dL_law_100 (by decide) ?_
    refine lv_iconst (v := (-1)) hx hb dL_law_102 (by decide) ?_
    refine hp_iast B0 hw hS h558 (by unfold vp_in; decide) dL_law_103 (fun H locs f559 ef559 hw hS => ?_)
    have e560 : f559 = va_up f528 le (some (.inl (cI G, 16, .inl (upd (upd (fun _ => 0) (1 : Int32).toNatClampNeg (-1)) (9 : Int32).toNatClampNeg (-1))))) := by rw [ef559, ef557, bx_uu]
    have h561 : f559 le = some (.inl (cI G, 16, .inl (upd (upd (fun _ => 0) (1 : Int32).toNatClampNeg (-1)) (9 : Int32).toNatClampNeg (-1)))) := by rw [ef559, va_up_self]
    refine lv_aload hx hb dL_law_104 (lv_at hl9 5 rfl) ?_
    refine lv_bipush (v := 14) hx hb dL_law_106 (by decide) ?_
    refine lv_iconst (v := 1) hx hb dL_law_108 (by decide) ?_
    refine hp_iast B0 hw hS h561 (by unfold vp_in; decide) dL_law_109 (fun H locs f562 ef562 hw hS => ?_)
    have e563 : f562 = va_up f528 le (some (.inl (cI G, 16, .inl (upd (upd (upd (fun _ => 0) (1 : Int32).toNatClampNeg (-1)) (9 : Int32).toNatClampNeg (-1)) (14 : Int32).toNatClampNeg 1)))) := by rw [ef562, e560, bx_uu]
    have h564 : f562 le = some (.inl (cI G, 16, .inl (upd (upd (upd (fun _ => 0) (1 : Int32).toNatClampNeg (-1)) (9 : Int32).toNatClampNeg (-1)) (14 : Int32).toNatClampNeg 1))) := by rw [ef562, va_up_self]
    refine lv_iconst (v := 3) hx hb dL_law_110 (by decide) ?_
    refine lv_istore (lv' := [(12, .int 3), (11, .ref lg), (10, .ref lr), (9, .ref lh), (8, .ref lb), (7, .ref le), (6, .ref lq), (5, .ref la), (4, .ref lw), (3, .ref ly), (2, .ref lx), (1, .ref xo), (0, .ref b)]) hx hb dL_law_111 hl9 (by decide) rfl (fun ls hl9 => ?_)
    refine lv_iload hx hb dL_law_113 (lv_at hl9 0 rfl) ?_
    refine lv_bipush (v := 6) hx hb dL_law_115 (by decide) ?_
    refine lv_icmp_ge (tgt := 132) hx hb dL_law_117 (by decide) (fun c9 => absurd c9 (by decide)) (fun _ => ?_)
    refine lv_aload hx hb dL_law_120 (lv_at hl9 1 rfl) ?_
    refine lv_iload hx hb dL_law_122 (lv_at hl9 0 rfl) ?_
    refine lv_iconst (v := (-1)) hx hb dL_law_124 (by decide) ?_
    have h565 : f458 lg = some (.inl (cI G, 10, .inl (fun _ => 0))) := by rw [ef458, va_up_ne _ _ (Ne.symm n428)]; exact h53
    have h566 : f462 lg = some (.inl (cI G, 10, .inl (fun _ => 0))) := by rw [ef462, va_up_ne _ _ (Ne.symm n445)]; exact h565
    have h567 : f465 lg = some (.inl (cI G, 10, .inl (fun _ => 0))) := by rw [ef465, va_up_ne _ _ (Ne.symm n428)]; exact h566
    have h568 : f468 lg = some (.inl (cI G, 10, .inl (fun _ => 0))) := by rw [ef468, va_up_ne _ _ (Ne.symm n445)]; exact h567
    have h569 : f471 lg = some (.inl (cI G, 10, .inl (fun _ => 0))) := by rw [ef471, va_up_ne _ _ (Ne.symm n428)]; exact h568
    have h570 : f474 lg = some (.inl (cI G, 10, .inl (fun _ => 0))) := by rw [ef474, va_up_ne _ _ (Ne.symm n445)]; exact h569
    have h571 : f477 lg = some (.inl (cI G, 10, .inl (fun _ => 0))) := by rw [ef477, va_up_ne _ _ (Ne.symm n428)]; exact h570
    have h572 : f480 lg = some (.inl (cI G, 10, .inl (fun _ => 0))) := by rw [ef480, va_up_ne _ _ (Ne.symm n445)]; exact h571
    have h573 : f483 lg = some (.inl (cI G, 10, .inl (fun _ => 0))) := by rw [ef483, va_up_ne _ _ (Ne.symm n428)]; exact h572
    have h574 : f486 lg = some (.inl (cI G, 10, .inl (fun _ => 0))) := by rw [ef486, va_up_ne _ _ (Ne.symm n445)]; exact h573
    have h575 : f489 lg = some (.inl (cI G, 10, .inl (fun _ => 0))) := by rw [ef489, va_up_ne _ _ (Ne.symm n428)]; exact h574
    have h576 : f492 lg = some (.inl (cI G, 10, .inl (fun _ => 0))) := by rw [ef492, va_up_ne _ _ (Ne.symm n445)]; exact h575
    have h577 : f495 lg = some (.inl (cI G, 10, .inl (fun _ => 0))) := by rw [ef495, va_up_ne _ _ (Ne.symm n428)]; exact h576
    have h578 : f498 lg = some (.inl (cI G, 10, .inl (fun _ => 0))) := by rw [ef498, va_up_ne _ _ (Ne.symm n445)]; exact h577
    have h579 : f501 lg = some (.inl (cI G, 10, .inl (fun _ => 0))) := by rw [ef501, va_up_ne _ _ (Ne.symm n428)]; exact h578
    have h580 : f504 lg = some (.inl (cI G, 10, .inl (fun _ => 0))) := by rw [ef504, va_up_ne _ _ (Ne.symm n445)]; exact h579
    have h581 : f507 lg = some (.inl (cI G, 10, .inl (fun _ => 0))) := by rw [ef507, va_up_ne _ _ (Ne.symm n428)]; exact h580
    have h582 : f510 lg = some (.inl (cI G, 10, .inl (fun _ => 0))) := by rw [ef510, va_up_ne _ _ (Ne.symm n445)]; exact h581
    have h583 : f513 lg = some (.inl (cI G, 10, .inl (fun _ => 0))) := by rw [ef513, va_up_ne _ _ (Ne.symm n428)]; exact h582
    have h584 : f516 lg = some (.inl (cI G, 10, .inl (fun _ => 0))) := by rw [ef516, va_up_ne _ _ (Ne.symm n445)]; exact h583
    have h585 : f519 lg = some (.inl (cI G, 10, .inl (fun _ => 0))) := by rw [ef519, va_up_ne _ _ (Ne.symm n428)]; exact h584
    have h586 : f522 lg = some (.inl (cI G, 10, .inl (fun _ => 0))) := by rw [ef522, va_up_ne _ _ (Ne.symm n445)]; exact h585
    have h587 : f525 lg = some (.inl (cI G, 10, .inl (fun _ => 0))) := by rw [ef525, va_up_ne _ _ (Ne.symm n428)]; exact h586
    have h588 : f528 lg = some (.inl (cI G, 10, .inl (fun _ => 0))) := by rw [ef528, va_up_ne _ _ (Ne.symm n445)]; exact h587
    have h589 : f562 lg = some (.inl (cI G, 10, .inl (fun _ => 0))) := by rw [e563, va_up_ne _ _ (Ne.symm n452)]; exact h588
    refine hp_iast B0 hw hS h589 (by unfold vp_in; decide) dL_law_125 (fun H locs f590 ef590 hw hS => ?_)
    have h591 : f590 lg = some (.inl (cI G, 10, .inl (upd (fun _ => 0) (3 : Int32).toNatClampNeg (-1)))) := by rw [ef590, va_up_self]
    refine lv_iinc (v := 4) (lv' := [(12, .int 4), (11, .ref lg), (10, .ref lr), (9, .ref lh), (8, .ref lb), (7, .ref le), (6, .ref lq), (5, .ref la), (4, .ref lw), (3, .ref ly), (2, .ref lx), (1, .ref xo), (0, .ref b)]) hx hb dL_law_126 hl9 (k := 0) rfl (by decide) (by decide) rfl (fun ls hl9 => ?_)
    refine lv_goto (tgt := 113) hx hb dL_law_129 (by decide) ?_
    refine lv_iload hx hb dL_law_113 (lv_at hl9 0 rfl) ?_
    refine lv_bipush (v := 6) hx hb dL_law_115 (by decide) ?_
    refine lv_icmp_ge (tgt := 132) hx hb dL_law_117 (by decide) (fun c9 => absurd c9 (by decide)) (fun _ => ?_)
    refine lv_aload hx hb dL_law_120 (lv_at hl9 1 rfl) ?_
    refine lv_iload hx hb dL_law_122 (lv_at hl9 0 rfl) ?_
    refine lv_iconst (v := (-1)) hx hb dL_law_124 (by decide) ?_
    refine hp_iast B0 hw hS h591 (by unfold vp_in; decide) dL_law_125 (fun H locs f592 ef592 hw hS => ?_)
    have e593 : f592 = va_up f562 lg (some (.inl (cI G, 10, .inl (upd (upd (fun _ => 0) (3 : Int32).toNatClampNeg (-1)) (4 : Int32).toNatClampNeg (-1))))) := by rw [ef592, ef590, bx_uu]
    have h594 : f592 lg = some (.inl (cI G, 10, .inl (upd (upd (fun _ => 0) (3 : Int32).toNatClampNeg (-1)) (4 : Int32).toNatClampNeg (-1)))) := by rw [ef592, va_up_self]
    refine lv_iinc (v := 5) (lv' := [(12, .int 5), (11, .ref lg), (10, .ref lr), (9, .ref lh), (8, .ref lb), (7, .ref le), (6, .ref lq), (5, .ref la), (4, .ref lw), (3, .ref ly), (2, .ref lx), (1, .ref xo), (0, .ref b)]) hx hb dL_law_126 hl9 (k := 0) rfl (by decide) (by decide) rfl (fun ls hl9 => ?_)
    refine lv_goto (tgt := 113) hx hb dL_law_129 (by decide) ?_
    refine lv_iload hx hb dL_law_113 (lv_at hl9 0 rfl) ?_
    refine lv_bipush (v := 6) hx hb dL_law_115 (by decide) ?_
    refine lv_icmp_ge (tgt := 132) hx hb dL_law_117 (by decide) (fun c9 => absurd c9 (by decide)) (fun _ => ?_)
    refine lv_aload hx hb dL_law_120 (lv_at hl9 1 rfl) ?_
    refine lv_iload hx hb dL_law_122 (lv_at hl9 0 rfl) ?_
    refine lv_iconst (v := (-1)) hx hb dL_law_124 (by decide) ?_
    refine hp_iast B0 hw hS h594 (by unfold vp_in; decide) dL_law_125 (fun H locs f595 ef595 hw hS => ?_)
    have e596 : f595 = va_up f562 lg (some (.inl (cI G, 10, .inl (upd (upd (upd (fun _ => 0) (3 : Int32).toNatClampNeg (-1)) (4 : Int32).toNatClampNeg (-1)) (5 : Int32).toNatClampNeg (-1))))) := by rw [ef595, e593, bx_uu]
    have h597 : f595 lg = some (.inl (cI G, 10, .inl (upd (upd (upd (fun _ => 0) (3 : Int32).toNatClampNeg (-1)) (4 : Int32).toNatClampNeg (-1)) (5 : Int32).toNatClampNeg (-1)))) := by rw [ef595, va_up_self]
    refine lv_iinc (v := 6) (lv' := [(12, .int 6), (11, .ref lg), (10, .ref lr), (9, .ref lh), (8, .ref lb), (7, .ref le), (6, .ref lq), (5, .ref la), (4, .ref lw), (3, .ref ly), (2, .ref lx), (1, .ref xo), (0, .ref b)]) hx hb dL_law_126 hl9 (k := 0) rfl (by decide) (by decide) rfl (fun ls hl9 => ?_)
    refine lv_goto (tgt := 113) hx hb dL_law_129 (by decide) ?_
    refine lv_iload hx hb dL_law_113 (lv_at hl9 0 rfl) ?_
    refine lv_bipush (v := 6) hx hb dL_law_115 (by decide) ?_
    refine lv_icmp_ge (tgt := 132) hx hb dL_law_117 (by decide) (fun _ => ?_) (fun c9 => absurd (by decide) c9)
    refine lv_aload_n hx hb dL_law_132 rfl (lv_at hl9 11 rfl) ?_
    refine lv_aload hx hb dL_law_133 (lv_at hl9 6 rfl) ?_
    refine lv_aload hx hb dL_law_135 (lv_at hl9 5 rfl) ?_
    refine lv_aload hx hb dL_law_137 (lv_at hl9 2 rfl) ?_
    refine lv_aload hx hb dL_law_139 (lv_at hl9 1 rfl) ?_
    have hdis : ∀ p, p ∈ [xo, ez, eo, bu, nw0, na0, nq0, nr0, nw1, na1, nq1, nr1, bs, bp, bh, bf, bl, bg] → p ∉ [lx, ly, lw, la, lq, le, lb, lh, lr, lg] := by
      intro p hp
      simp only [List.mem_cons, List.not_mem_nil, or_false] at hp
      rcases hp with hp | hp | hp | hp | hp | hp | hp | hp | hp | hp | hp | hp | hp | hp | hp | hp | hp | hp
      · rw [hp]; exact (ninc n54 (ninc n56 (ninc n58 (ninc n60 (ninc n62 (ninc n64 (ninc n66 (ninc n68 (ninc n70 (ninc n72 nin0))))))))))
      · rw [hp]; exact (ninc n73 (ninc n75 (ninc n77 (ninc n79 (ninc n81 (ninc n83 (ninc n85 (ninc n87 (ninc n89 (ninc n91 nin0))))))))))
      · rw [hp]; exact (ninc n92 (ninc n94 (ninc n96 (ninc n98 (ninc n100 (ninc n102 (ninc n104 (ninc n106 (ninc n108 (ninc n110 nin0))))))))))
      · rw [hp]; exact (ninc n111 (ninc n113 (ninc n115 (ninc n117 (ninc n119 (ninc n121 (ninc n123 (ninc n125 (ninc n127 (ninc n129 nin0))))))))))
      · rw [hp]; exact (ninc n130 (ninc n132 (ninc n134 (ninc n136 (ninc n138 (ninc n140 (ninc n142 (ninc n144 (ninc n146 (ninc n148 nin0))))))))))
      · rw [hp]; exact (ninc n149 (ninc n151 (ninc n153 (ninc n155 (ninc n157 (ninc n159 (ninc n161 (ninc n163 (ninc n165 (ninc n167 nin0))))))))))
      · rw [hp]; exact (ninc n168 (ninc n170 (ninc n172 (ninc n174 (ninc n176 (ninc n178 (ninc n180 (ninc n182 (ninc n184 (ninc n186 nin0))))))))))
      · rw [hp]; exact (ninc n187 (ninc n189 (ninc n191 (ninc n193 (ninc n195 (ninc n197 (ninc n199 (ninc n201 (ninc n203 (ninc n205 nin0))))))))))
      · rw [hp]; exact (ninc n206 (ninc n208 (ninc n210 (ninc n212 (ninc n214 (ninc n216 (ninc n218 (ninc n220 (ninc n222 (ninc n224 nin0))))))))))
      · rw [hp]; exact (ninc n225 (ninc n227 (ninc n229 (ninc n231 (ninc n233 (ninc n235 (ninc n237 (ninc n239 (ninc n241 (ninc n243 nin0))))))))))
      · rw [hp]; exact (ninc n244 (ninc n246 (ninc n248 (ninc n250 (ninc n252 (ninc n254 (ninc n256 (ninc n258 (ninc n260 (ninc n262 nin0))))))))))
      · rw [hp]; exact (ninc n263 (ninc n265 (ninc n267 (ninc n269 (ninc n271 (ninc n273 (ninc n275 (ninc n277 (ninc n279 (ninc n281 nin0))))))))))
      · rw [hp]; exact (ninc n282 (ninc n284 (ninc n286 (ninc n288 (ninc n290 (ninc n292 (ninc n294 (ninc n296 (ninc n298 (ninc n300 nin0))))))))))
      · rw [hp]; exact (ninc n301 (ninc n303 (ninc n305 (ninc n307 (ninc n309 (ninc n311 (ninc n313 (ninc n315 (ninc n317 (ninc n319 nin0))))))))))
      · rw [hp]; exact (ninc n320 (ninc n322 (ninc n324 (ninc n326 (ninc n328 (ninc n330 (ninc n332 (ninc n334 (ninc n336 (ninc n338 nin0))))))))))
      · rw [hp]; exact (ninc n339 (ninc n341 (ninc n343 (ninc n345 (ninc n347 (ninc n349 (ninc n351 (ninc n353 (ninc n355 (ninc n357 nin0))))))))))
      · rw [hp]; exact (ninc n358 (ninc n360 (ninc n362 (ninc n364 (ninc n366 (ninc n368 (ninc n370 (ninc n372 (ninc n374 (ninc n376 nin0))))))))))
      · rw [hp]; exact (ninc n377 (ninc n379 (ninc n381 (ninc n383 (ninc n385 (ninc n387 (ninc n389 (ninc n391 (ninc n393 (ninc n395 nin0))))))))))
    have hdos : ∀ p, p ∈ [lx, ly, lw, la, lq, le, lb, lh, lr, lg] → p ∉ [xo, ez, eo, bu, nw0, na0, nq0, nr0, nw1, na1, nq1, nr1, bs, bp, bh, bf, bl, bg] := by
      intro p hp
      simp only [List.mem_cons, List.not_mem_nil, or_false] at hp
      rcases hp with hp | hp | hp | hp | hp | hp | hp | hp | hp | hp
      · rw [hp]; exact (ninc (Ne.symm n54) (ninc (Ne.symm n73) (ninc (Ne.symm n92) (ninc (Ne.symm n111) (ninc (Ne.symm n130) (ninc (Ne.symm n149) (ninc (Ne.symm n168) (ninc (Ne.symm n187) (ninc (Ne.symm n206) (ninc (Ne.symm n225) (ninc (Ne.symm n244) (ninc (Ne.symm n263) (ninc (Ne.symm n282) (ninc (Ne.symm n301) (ninc (Ne.symm n320) (ninc (Ne.symm n339) (ninc (Ne.symm n358) (ninc (Ne.symm n377) nin0))))))))))))))))))
      · rw [hp]; exact (ninc (Ne.symm n56) (ninc (Ne.symm n75) (ninc (Ne.symm n94) (ninc (Ne.symm n113) (ninc (Ne.symm n132) (ninc (Ne.symm n151) (ninc (Ne.symm n170) (ninc (Ne.symm n189) (ninc (Ne.symm n208) (ninc (Ne.symm n227) (ninc (Ne.symm n246) (ninc (Ne.symm n265) (ninc (Ne.symm n284) (ninc (Ne.symm n303) (ninc (Ne.symm n322) (ninc (Ne.symm n341) (ninc (Ne.symm n360) (ninc (Ne.symm n379) nin0))))))))))))))))))
      · rw [hp]; exact (ninc (Ne.symm n58) (ninc (Ne.symm n77) (ninc (Ne.symm n96) (ninc (Ne.symm n115) (ninc (Ne.symm n134) (ninc (Ne.symm n153) (ninc (Ne.symm n172) (ninc (Ne.symm n191) (ninc (Ne.symm n210) (ninc (Ne.symm n229) (ninc (Ne.symm n248) (ninc (Ne.symm n267) (ninc (Ne.symm n286) (ninc (Ne.symm n305) (ninc (Ne.symm n324) (ninc (Ne.symm n343) (ninc (Ne.symm n362) (ninc (Ne.symm n381) nin0))))))))))))))))))
      · rw [hp]; exact (ninc (Ne.symm n60) (ninc (Ne.symm n79) (ninc (Ne.symm n98) (ninc (Ne.symm n117) (ninc (Ne.symm n136) (ninc (Ne.symm n155) (ninc (Ne.symm n174) (ninc (Ne.symm n193) (ninc (Ne.symm n212) (ninc (Ne.symm n231) (ninc (Ne.symm n250) (ninc (Ne.symm n269) (ninc (Ne.symm n288) (ninc (Ne.symm n307) (ninc (Ne.symm n326) (ninc (Ne.symm n345) (ninc (Ne.symm n364) (ninc (Ne.symm n383) nin0))))))))))))))))))
      · rw [hp]; exact (ninc (Ne.symm n62) (ninc (Ne.symm n81) (ninc (Ne.symm n100) (ninc (Ne.symm n119) (ninc (Ne.symm n138) (ninc (Ne.symm n157) (ninc (Ne.symm n176) (ninc (Ne.symm n195) (ninc (Ne.symm n214) (ninc (Ne.symm n233) (ninc (Ne.symm n252) (ninc (Ne.symm n271) (ninc (Ne.symm n290) (ninc (Ne.symm n309) (ninc (Ne.symm n328) (ninc (Ne.symm n347) (ninc (Ne.symm n366) (ninc (Ne.symm n385) nin0))))))))))))))))))
      · rw [hp]; exact (ninc (Ne.symm n64) (ninc (Ne.symm n83) (ninc (Ne.symm n102) (ninc (Ne.symm n121) (ninc (Ne.symm n140) (ninc (Ne.symm n159) (ninc (Ne.symm n178) (ninc (Ne.symm n197) (ninc (Ne.symm n216) (ninc (Ne.symm n235) (ninc (Ne.symm n254) (ninc (Ne.symm n273) (ninc (Ne.symm n292) (ninc (Ne.symm n311) (ninc (Ne.symm n330) (ninc (Ne.symm n349) (ninc (Ne.symm n368) (ninc (Ne.symm n387) nin0))))))))))))))))))
      · rw [hp]; exact (ninc (Ne.symm n66) (ninc (Ne.symm n85) (ninc (Ne.symm n104) (ninc (Ne.symm n123) (ninc (Ne.symm n142) (ninc (Ne.symm n161) (ninc (Ne.symm n180) (ninc (Ne.symm n199) (ninc (Ne.symm n218) (ninc (Ne.symm n237) (ninc (Ne.symm n256) (ninc (Ne.symm n275) (ninc (Ne.symm n294) (ninc (Ne.symm n313) (ninc (Ne.symm n332) (ninc (Ne.symm n351) (ninc (Ne.symm n370) (ninc (Ne.symm n389) nin0))))))))))))))))))
      · rw [hp]; exact (ninc (Ne.symm n68) (ninc (Ne.symm n87) (ninc (Ne.symm n106) (ninc (Ne.symm n125) (ninc (Ne.symm n144) (ninc (Ne.symm n163) (ninc (Ne.symm n182) (ninc (Ne.symm n201) (ninc (Ne.symm n220) (ninc (Ne.symm n239) (ninc (Ne.symm n258) (ninc (Ne.symm n277) (ninc (Ne.symm n296) (ninc (Ne.symm n315) (ninc (Ne.symm n334) (ninc (Ne.symm n353) (ninc (Ne.symm n372) (ninc (Ne.symm n391) nin0))))))))))))))))))
      · rw [hp]; exact (ninc (Ne.symm n70) (ninc (Ne.symm n89) (ninc (Ne.symm n108) (ninc (Ne.symm n127) (ninc (Ne.symm n146) (ninc (Ne.symm n165) (ninc (Ne.symm n184) (ninc (Ne.symm n203) (ninc (Ne.symm n222) (ninc (Ne.symm n241) (ninc (Ne.symm n260) (ninc (Ne.symm n279) (ninc (Ne.symm n298) (ninc (Ne.symm n317) (ninc (Ne.symm n336) (ninc (Ne.symm n355) (ninc (Ne.symm n374) (ninc (Ne.symm n393) nin0))))))))))))))))))
      · rw [hp]; exact (ninc (Ne.symm n72) (ninc (Ne.symm n91) (ninc (Ne.symm n110) (ninc (Ne.symm n129) (ninc (Ne.symm n148) (ninc (Ne.symm n167) (ninc (Ne.symm n186) (ninc (Ne.symm n205) (ninc (Ne.symm n224) (ninc (Ne.symm n243) (ninc (Ne.symm n262) (ninc (Ne.symm n281) (ninc (Ne.symm n300) (ninc (Ne.symm n319) (ninc (Ne.symm n338) (ninc (Ne.symm n357) (ninc (Ne.symm n376) (ninc (Ne.symm n395) nin0))))))))))))))))))
    have hlb : ∀ p, p ∈ [lx, ly, lw, la, lq, le] → p ∉ [lb, lh, lr, lg] := by
      intro p hp
      simp only [List.mem_cons, List.not_mem_nil, or_false] at hp
      rcases hp with hp | hp | hp | hp | hp | hp
      · rw [hp]; exact (ninc n401 (ninc n403 (ninc n405 (ninc n407 nin0))))
      · rw [hp]; exact (ninc n412 (ninc n414 (ninc n416 (ninc n418 nin0))))
      · rw [hp]; exact (ninc n422 (ninc n424 (ninc n426 (ninc n428 nin0))))
      · rw [hp]; exact (ninc n431 (ninc n433 (ninc n435 (ninc n437 nin0))))
      · rw [hp]; exact (ninc n439 (ninc n441 (ninc n443 (ninc n445 nin0))))
      · rw [hp]; exact (ninc n446 (ninc n448 (ninc n450 (ninc n452 nin0))))
    have hbl9 : ∀ p, p ∈ [lb, lh, lr, lg] → p ∉ [lx, ly, lw, la, lq, le] := by
      intro p hp
      simp only [List.mem_cons, List.not_mem_nil, or_false] at hp
      rcases hp with hp | hp | hp | hp
      · rw [hp]; exact (ninc (Ne.symm n401) (ninc (Ne.symm n412) (ninc (Ne.symm n422) (ninc (Ne.symm n431) (ninc (Ne.symm n439) (ninc (Ne.symm n446) nin0))))))
      · rw [hp]; exact (ninc (Ne.symm n403) (ninc (Ne.symm n414) (ninc (Ne.symm n424) (ninc (Ne.symm n433) (ninc (Ne.symm n441) (ninc (Ne.symm n448) nin0))))))
      · rw [hp]; exact (ninc (Ne.symm n405) (ninc (Ne.symm n416) (ninc (Ne.symm n426) (ninc (Ne.symm n435) (ninc (Ne.symm n443) (ninc (Ne.symm n450) nin0))))))
      · rw [hp]; exact (ninc (Ne.symm n407) (ninc (Ne.symm n418) (ninc (Ne.symm n428) (ninc (Ne.symm n437) (ninc (Ne.symm n445) (ninc (Ne.symm n452) nin0))))))
    have n_lx_ly : lx ≠ ly := n453
    have n_lw_la : lw ≠ la := n454
    have n_lw_lq : lw ≠ lq := n455
    have n_la_lq : la ≠ lq := n456
    have h598 : f52 xo = some (.inr (4, [.ref ez, .ref eo, .ref bu])) := by rw [ef52, va_up_ne _ _ (hnew h71 w51)]; exact h71
    have h599 : f458 xo = some (.inr (4, [.ref ez, .ref eo, .ref bu])) := by rw [ef458, va_up_ne _ _ n58]; exact h598
    have h600 : f462 xo = some (.inr (4, [.ref ez, .ref eo, .ref bu])) := by rw [ef462, va_up_ne _ _ n62]; exact h599
    have h601 : f465 xo = some (.inr (4, [.ref ez, .ref eo, .ref bu])) := by rw [ef465, va_up_ne _ _ n58]; exact h600
    have h602 : f468 xo = some (.inr (4, [.ref ez, .ref eo, .ref bu])) := by rw [ef468, va_up_ne _ _ n62]; exact h601
    have h603 : f471 xo = some (.inr (4, [.ref ez, .ref eo, .ref bu])) := by rw [ef471, va_up_ne _ _ n58]; exact h602
    have h604 : f474 xo = some (.inr (4, [.ref ez, .ref eo, .ref bu])) := by rw [ef474, va_up_ne _ _ n62]; exact h603
    have h605 : f477 xo = some (.inr (4, [.ref ez, .ref eo, .ref bu])) := by rw [ef477, va_up_ne _ _ n58]; exact h604
    have h606 : f480 xo = some (.inr (4, [.ref ez, .ref eo, .ref bu])) := by rw [ef480, va_up_ne _ _ n62]; exact h605
    have h607 : f483 xo = some (.inr (4, [.ref ez, .ref eo, .ref bu])) := by rw [ef483, va_up_ne _ _ n58]; exact h606
    have h608 : f486 xo = some (.inr (4, [.ref ez, .ref eo, .ref bu])) := by rw [ef486, va_up_ne _ _ n62]; exact h607
    have h609 : f489 xo = some (.inr (4, [.ref ez, .ref eo, .ref bu])) := by rw [ef489, va_up_ne _ _ n58]; exact h608
    have h610 : f492 xo = some (.inr (4, [.ref ez, .ref eo, .ref bu])) := by rw [ef492, va_up_ne _ _ n62]; exact h609
    have h611 : f495 xo = some (.inr (4, [.ref ez, .ref eo, .ref bu])) := by rw [ef495, va_up_ne _ _ n58]; exact h610
    have h612 : f498 xo = some (.inr (4, [.ref ez, .ref eo, .ref bu])) := by rw [ef498, va_up_ne _ _ n62]; exact h611
    have h613 : f501 xo = some (.inr (4, [.ref ez, .ref eo, .ref bu])) := by rw [ef501, va_up_ne _ _ n58]; exact h612
    have h614 : f504 xo = some (.inr (4, [.ref ez, .ref eo, .ref bu])) := by rw [ef504, va_up_ne _ _ n62]; exact h613
    have h615 : f507 xo = some (.inr (4, [.ref ez, .ref eo, .ref bu])) := by rw [ef507, va_up_ne _ _ n58]; exact h614
    have h616 : f510 xo = some (.inr (4, [.ref ez, .ref eo, .ref bu])) := by rw [ef510, va_up_ne _ _ n62]; exact h615
    have h617 : f513 xo = some (.inr (4, [.ref ez, .ref eo, .ref bu])) := by rw [ef513, va_up_ne _ _ n58]; exact h616
    have h618 : f516 xo = some (.inr (4, [.ref ez, .ref eo, .ref bu])) := by rw [ef516, va_up_ne _ _ n62]; exact h617
    have h619 : f519 xo = some (.inr (4, [.ref ez, .ref eo, .ref bu])) := by rw [ef519, va_up_ne _ _ n58]; exact h618
    have h620 : f522 xo = some (.inr (4, [.ref ez, .ref eo, .ref bu])) := by rw [ef522, va_up_ne _ _ n62]; exact h619
    have h621 : f525 xo = some (.inr (4, [.ref ez, .ref eo, .ref bu])) := by rw [ef525, va_up_ne _ _ n58]; exact h620
    have h622 : f528 xo = some (.inr (4, [.ref ez, .ref eo, .ref bu])) := by rw [ef528, va_up_ne _ _ n62]; exact h621
    have h623 : f562 xo = some (.inr (4, [.ref ez, .ref eo, .ref bu])) := by rw [e563, va_up_ne _ _ n64]; exact h622
    have h624 : f595 xo = some (.inr (4, [.ref ez, .ref eo, .ref bu])) := by rw [e596, va_up_ne _ _ n72]; exact h623
    have h625 : f52 ez = some (.inr (1, [.ref nw0, .ref na0, .ref nq0, .ref nr0, .int 1, .int 0, .int 0, .int 0, .int (-1), .int 0, .int 0])) := by rw [ef52, va_up_ne _ _ (hnew h90 w51)]; exact h90
    have h626 : f458 ez = some (.inr (1, [.ref nw0, .ref na0, .ref nq0, .ref nr0, .int 1, .int 0, .int 0, .int 0, .int (-1), .int 0, .int 0])) := by rw [ef458, va_up_ne _ _ n77]; exact h625
    have h627 : f462 ez = some (.inr (1, [.ref nw0, .ref na0, .ref nq0, .ref nr0, .int 1, .int 0, .int 0, .int 0, .int (-1), .int 0, .int 0])) := by rw [ef462, va_up_ne _ _ n81]; exact h626
    have h628 : f465 ez = some (.inr (1, [.ref nw0, .ref na0, .ref nq0, .ref nr0, .int 1, .int 0, .int 0, .int 0, .int (-1), .int 0, .int 0])) := by rw [ef465, va_up_ne _ _ n77]; exact h627
    have h629 : f468 ez = some (.inr (1, [.ref nw0, .ref na0, .ref nq0, .ref nr0, .int 1, .int 0, .int 0, .int 0, .int (-1), .int 0, .int 0])) := by rw [ef468, va_up_ne _ _ n81]; exact h628
    have h630 : f471 ez = some (.inr (1, [.ref nw0, .ref na0, .ref nq0, .ref nr0, .int 1, .int 0, .int 0, .int 0, .int (-1), .int 0, .int 0])) := by rw [ef471, va_up_ne _ _ n77]; exact h629
    have h631 : f474 ez = some (.inr (1, [.ref nw0, .ref na0, .ref nq0, .ref nr0, .int 1, .int 0, .int 0, .int 0, .int (-1), .int 0, .int 0])) := by rw [ef474, va_up_ne _ _ n81]; exact h630
    have h632 : f477 ez = some (.inr (1, [.ref nw0, .ref na0, .ref nq0, .ref nr0, .int 1, .int 0, .int 0, .int 0, .int (-1), .int 0, .int 0])) := by rw [ef477, va_up_ne _ _ n77]; exact h631
    have h633 : f480 ez = some (.inr (1, [.ref nw0, .ref na0, .ref nq0, .ref nr0, .int 1, .int 0, .int 0, .int 0, .int (-1), .int 0, .int 0])) := by rw [ef480, va_up_ne _ _ n81]; exact h632
    have h634 : f483 ez = some (.inr (1, [.ref nw0, .ref na0, .ref nq0, .ref nr0, .int 1, .int 0, .int 0, .int 0, .int (-1), .int 0, .int 0])) := by rw [ef483, va_up_ne _ _ n77]; exact h633
    have h635 : f486 ez = some (.inr (1, [.ref nw0, .ref na0, .ref nq0, .ref nr0, .int 1, .int 0, .int 0, .int 0, .int (-1), .int 0, .int 0])) := by rw [ef486, va_up_ne _ _ n81]; exact h634
    have h636 : f489 ez = some (.inr (1, [.ref nw0, .ref na0, .ref nq0, .ref nr0, .int 1, .int 0, .int 0, .int 0, .int (-1), .int 0, .int 0])) := by rw [ef489, va_up_ne _ _ n77]; exact h635
    have h637 : f492 ez = some (.inr (1, [.ref nw0, .ref na0, .ref nq0, .ref nr0, .int 1, .int 0, .int 0, .int 0, .int (-1), .int 0, .int 0])) := by rw [ef492, va_up_ne _ _ n81]; exact h636
    have h638 : f495 ez = some (.inr (1, [.ref nw0, .ref na0, .ref nq0, .ref nr0, .int 1, .int 0, .int 0, .int 0, .int (-1), .int 0, .int 0])) := by rw [ef495, va_up_ne _ _ n77]; exact h637
    have h639 : f498 ez = some (.inr (1, [.ref nw0, .ref na0, .ref nq0, .ref nr0, .int 1, .int 0, .int 0, .int 0, .int (-1), .int 0, .int 0])) := by rw [ef498, va_up_ne _ _ n81]; exact h638
    have h640 : f501 ez = some (.inr (1, [.ref nw0, .ref na0, .ref nq0, .ref nr0, .int 1, .int 0, .int 0, .int 0, .int (-1), .int 0, .int 0])) := by rw [ef501, va_up_ne _ _ n77]; exact h639
    have h641 : f504 ez = some (.inr (1, [.ref nw0, .ref na0, .ref nq0, .ref nr0, .int 1, .int 0, .int 0, .int 0, .int (-1), .int 0, .int 0])) := by rw [ef504, va_up_ne _ _ n81]; exact h640
    have h642 : f507 ez = some (.inr (1, [.ref nw0, .ref na0, .ref nq0, .ref nr0, .int 1, .int 0, .int 0, .int 0, .int (-1), .int 0, .int 0])) := by rw [ef507, va_up_ne _ _ n77]; exact h641
    have h643 : f510 ez = some (.inr (1, [.ref nw0, .ref na0, .ref nq0, .ref nr0, .int 1, .int 0, .int 0, .int 0, .int (-1), .int 0, .int 0])) := by rw [ef510, va_up_ne _ _ n81]; exact h642
    have h644 : f513 ez = some (.inr (1, [.ref nw0, .ref na0, .ref nq0, .ref nr0, .int 1, .int 0, .int 0, .int 0, .int (-1), .int 0, .int 0])) := by rw [ef513, va_up_ne _ _ n77]; exact h643
    have h645 : f516 ez = some (.inr (1, [.ref nw0, .ref na0, .ref nq0, .ref nr0, .int 1, .int 0, .int 0, .int 0, .int (-1), .int 0, .int 0])) := by rw [ef516, va_up_ne _ _ n81]; exact h644
    have h646 : f519 ez = some (.inr (1, [.ref nw0, .ref na0, .ref nq0, .ref nr0, .int 1, .int 0, .int 0, .int 0, .int (-1), .int 0, .int 0])) := by rw [ef519, va_up_ne _ _ n77]; exact h645
    have h647 : f522 ez = some (.inr (1, [.ref nw0, .ref na0, .ref nq0, .ref nr0, .int 1, .int 0, .int 0, .int 0, .int (-1), .int 0, .int 0])) := by rw [ef522, va_up_ne _ _ n81]; exact h646
    have h648 : f525 ez = some (.inr (1, [.ref nw0, .ref na0, .ref nq0, .ref nr0, .int 1, .int 0, .int 0, .int 0, .int (-1), .int 0, .int 0])) := by rw [ef525, va_up_ne _ _ n77]; exact h647
    have h649 : f528 ez = some (.inr (1, [.ref nw0, .ref na0, .ref nq0, .ref nr0, .int 1, .int 0, .int 0, .int 0, .int (-1), .int 0, .int 0])) := by rw [ef528, va_up_ne _ _ n81]; exact h648
    have h650 : f562 ez = some (.inr (1, [.ref nw0, .ref na0, .ref nq0, .ref nr0, .int 1, .int 0, .int 0, .int 0, .int (-1), .int 0, .int 0])) := by rw [e563, va_up_ne _ _ n83]; exact h649
    have h651 : f595 ez = some (.inr (1, [.ref nw0, .ref na0, .ref nq0, .ref nr0, .int 1, .int 0, .int 0, .int 0, .int (-1), .int 0, .int 0])) := by rw [e596, va_up_ne _ _ n91]; exact h650
    have h652 : f52 nq0 = some (.inl (cI G, 6, .inl (fun j => if j < 6 then (-1) else (fun _ => 0) j))) := by rw [ef52, va_up_ne _ _ (hnew h185 w51)]; exact h185
    have h653 : f458 nq0 = some (.inl (cI G, 6, .inl (fun j => if j < 6 then (-1) else (fun _ => 0) j))) := by rw [ef458, va_up_ne _ _ n172]; exact h652
    have h654 : f462 nq0 = some (.inl (cI G, 6, .inl (fun j => if j < 6 then (-1) else (fun _ => 0) j))) := by rw [ef462, va_up_ne _ _ n176]; exact h653
    have h655 : f465 nq0 = some (.inl (cI G, 6, .inl (fun j => if j < 6 then (-1) else (fun _ => 0) j))) := by rw [ef465, va_up_ne _ _ n172]; exact h654
    have h656 : f468 nq0 = some (.inl (cI G, 6, .inl (fun j => if j < 6 then (-1) else (fun _ => 0) j))) := by rw [ef468, va_up_ne _ _ n176]; exact h655
    have h657 : f471 nq0 = some (.inl (cI G, 6, .inl (fun j => if j < 6 then (-1) else (fun _ => 0) j))) := by rw [ef471, va_up_ne _ _ n172]; exact h656
    have h658 : f474 nq0 = some (.inl (cI G, 6, .inl (fun j => if j < 6 then (-1) else (fun _ => 0) j))) := by rw [ef474, va_up_ne _ _ n176]; exact h657
    have h659 : f477 nq0 = some (.inl (cI G, 6, .inl (fun j => if j < 6 then (-1) else (fun _ => 0) j))) := by rw [ef477, va_up_ne _ _ n172]; exact h658
    have h660 : f480 nq0 = some (.inl (cI G, 6, .inl (fun j => if j < 6 then (-1) else (fun _ => 0) j))) := by rw [ef480, va_up_ne _ _ n176]; exact h659
    have h661 : f483 nq0 = some (.inl (cI G, 6, .inl (fun j => if j < 6 then (-1) else (fun _ => 0) j))) := by rw [ef483, va_up_ne _ _ n172]; exact h660
    have h662 : f486 nq0 = some (.inl (cI G, 6, .inl (fun j => if j < 6 then (-1) else (fun _ => 0) j))) := by rw [ef486, va_up_ne _ _ n176]; exact h661
    have h663 : f489 nq0 = some (.inl (cI G, 6, .inl (fun j => if j < 6 then (-1) else (fun _ => 0) j))) := by rw [ef489, va_up_ne _ _ n172]; exact h662
    have h664 : f492 nq0 = some (.inl (cI G, 6, .inl (fun j => if j < 6 then (-1) else (fun _ => 0) j))) := by rw [ef492, va_up_ne _ _ n176]; exact h663
    have h665 : f495 nq0 = some (.inl (cI G, 6, .inl (fun j => if j < 6 then (-1) else (fun _ => 0) j))) := by rw [ef495, va_up_ne _ _ n172]; exact h664
    have h666 : f498 nq0 = some (.inl (cI G, 6, .inl (fun j => if j < 6 then (-1) else (fun _ => 0) j))) := by rw [ef498, va_up_ne _ _ n176]; exact h665
    have h667 : f501 nq0 = some (.inl (cI G, 6, .inl (fun j => if j < 6 then (-1) else (fun _ => 0) j))) := by rw [ef501, va_up_ne _ _ n172]; exact h666
    have h668 : f504 nq0 = some (.inl (cI G, 6, .inl (fun j => if j < 6 then (-1) else (fun _ => 0) j))) := by rw [ef504, va_up_ne _ _ n176]; exact h667
    have h669 : f507 nq0 = some (.inl (cI G, 6, .inl (fun j => if j < 6 then (-1) else (fun _ => 0) j))) := by rw [ef507, va_up_ne _ _ n172]; exact h668
    have h670 : f510 nq0 = some (.inl (cI G, 6, .inl (fun j => if j < 6 then (-1) else (fun _ => 0) j))) := by rw [ef510, va_up_ne _ _ n176]; exact h669
    have h671 : f513 nq0 = some (.inl (cI G, 6, .inl (fun j => if j < 6 then (-1) else (fun _ => 0) j))) := by rw [ef513, va_up_ne _ _ n172]; exact h670
    have h672 : f516 nq0 = some (.inl (cI G, 6, .inl (fun j => if j < 6 then (-1) else (fun _ => 0) j))) := by rw [ef516, va_up_ne _ _ n176]; exact h671
    have h673 : f519 nq0 = some (.inl (cI G, 6, .inl (fun j => if j < 6 then (-1) else (fun _ => 0) j))) := by rw [ef519, va_up_ne _ _ n172]; exact h672
    have h674 : f522 nq0 = some (.inl (cI G, 6, .inl (fun j => if j < 6 then (-1) else (fun _ => 0) j))) := by rw [ef522, va_up_ne _ _ n176]; exact h673
    have h675 : f525 nq0 = some (.inl (cI G, 6, .inl (fun j => if j < 6 then (-1) else (fun _ => 0) j))) := by rw [ef525, va_up_ne _ _ n172]; exact h674
    have h676 : f528 nq0 = some (.inl (cI G, 6, .inl (fun j => if j < 6 then (-1) else (fun _ => 0) j))) := by rw [ef528, va_up_ne _ _ n176]; exact h675
    have h677 : f562 nq0 = some (.inl (cI G, 6, .inl (fun j => if j < 6 then (-1) else (fun _ => 0) j))) := by rw [e563, va_up_ne _ _ n178]; exact h676
    have h678 : f595 nq0 = some (.inl (cI G, 6, .inl (fun j => if j < 6 then (-1) else (fun _ => 0) j))) := by rw [e596, va_up_ne _ _ n186]; exact h677
    have h679 : f52 nr0 = some (.inr (3, [.null, .null, .int 0])) := by rw [ef52, va_up_ne _ _ (hnew h204 w51)]; exact h204
    have h680 : f458 nr0 = some (.inr (3, [.null, .null, .int 0])) := by rw [ef458, va_up_ne _ _ n191]; exact h679
    have h681 : f462 nr0 = some (.inr (3, [.null, .null, .int 0])) := by rw [ef462, va_up_ne _ _ n195]; exact h680
    have h682 : f465 nr0 = some (.inr (3, [.null, .null, .int 0])) := by rw [ef465, va_up_ne _ _ n191]; exact h681
    have h683 : f468 nr0 = some (.inr (3, [.null, .null, .int 0])) := by rw [ef468, va_up_ne _ _ n195]; exact h682
    have h684 : f471 nr0 = some (.inr (3, [.null, .null, .int 0])) := by rw [ef471, va_up_ne _ _ n191]; exact h683
    have h685 : f474 nr0 = some (.inr (3, [.null, .null, .int 0])) := by rw [ef474, va_up_ne _ _ n195]; exact h684
    have h686 : f477 nr0 = some (.inr (3, [.null, .null, .int 0])) := by rw [ef477, va_up_ne _ _ n191]; exact h685
    have h687 : f480 nr0 = some (.inr (3, [.null, .null, .int 0])) := by rw [ef480, va_up_ne _ _ n195]; exact h686
    have h688 : f483 nr0 = some (.inr (3, [.null, .null, .int 0])) := by rw [ef483, va_up_ne _ _ n191]; exact h687
    have h689 : f486 nr0 = some (.inr (3, [.null, .null, .int 0])) := by rw [ef486, va_up_ne _ _ n195]; exact h688
    have h690 : f489 nr0 = some (.inr (3, [.null, .null, .int 0])) := by rw [ef489, va_up_ne _ _ n191]; exact h689
    have h691 : f492 nr0 = some (.inr (3, [.null, .null, .int 0])) := by rw [ef492, va_up_ne _ _ n195]; exact h690
    have h692 : f495 nr0 = some (.inr (3, [.null, .null, .int 0])) := by rw [ef495, va_up_ne _ _ n191]; exact h691
    have h693 : f498 nr0 = some (.inr (3, [.null, .null, .int 0])) := by rw [ef498, va_up_ne _ _ n195]; exact h692
    have h694 : f501 nr0 = some (.inr (3, [.null, .null, .int 0])) := by rw [ef501, va_up_ne _ _ n191]; exact h693
    have h695 : f504 nr0 = some (.inr (3, [.null, .null, .int 0])) := by rw [ef504, va_up_ne _ _ n195]; exact h694
    have h696 : f507 nr0 = some (.inr (3, [.null, .null, .int 0])) := by rw [ef507, va_up_ne _ _ n191]; exact h695
    have h697 : f510 nr0 = some (.inr (3, [.null, .null, .int 0])) := by rw [ef510, va_up_ne _ _ n195]; exact h696
    have h698 : f513 nr0 = some (.inr (3, [.null, .null, .int 0])) := by rw [ef513, va_up_ne _ _ n191]; exact h697
    have h699 : f516 nr0 = some (.inr (3, [.null, .null, .int 0])) := by rw [ef516, va_up_ne _ _ n195]; exact h698
    have h700 : f519 nr0 = some (.inr (3, [.null, .null, .int 0])) := by rw [ef519, va_up_ne _ _ n191]; exact h699
    have h701 : f522 nr0 = some (.inr (3, [.null, .null, .int 0])) := by rw [ef522, va_up_ne _ _ n195]; exact h700
    have h702 : f525 nr0 = some (.inr (3, [.null, .null, .int 0])) := by rw [ef525, va_up_ne _ _ n191]; exact h701
    have h703 : f528 nr0 = some (.inr (3, [.null, .null, .int 0])) := by rw [ef528, va_up_ne _ _ n195]; exact h702
    have h704 : f562 nr0 = some (.inr (3, [.null, .null, .int 0])) := by rw [e563, va_up_ne _ _ n197]; exact h703
    have h705 : f595 nr0 = some (.inr (3, [.null, .null, .int 0])) := by rw [e596, va_up_ne _ _ n205]; exact h704
    have h706 : f52 eo = some (.inr (1, [.ref nw1, .ref na1, .ref nq1, .ref nr1, .int 2, .int 0, .int 0, .int 0, .int (-1), .int 0, .int 0])) := by rw [ef52, va_up_ne _ _ (hnew h109 w51)]; exact h109
    have h707 : f458 eo = some (.inr (1, [.ref nw1, .ref na1, .ref nq1, .ref nr1, .int 2, .int 0, .int 0, .int 0, .int (-1), .int 0, .int 0])) := by rw [ef458, va_up_ne _ _ n96]; exact h706
    have h708 : f462 eo = some (.inr (1, [.ref nw1, .ref na1, .ref nq1, .ref nr1, .int 2, .int 0, .int 0, .int 0, .int (-1), .int 0, .int 0])) := by rw [ef462, va_up_ne _ _ n100]; exact h707
    have h709 : f465 eo = some (.inr (1, [.ref nw1, .ref na1, .ref nq1, .ref nr1, .int 2, .int 0, .int 0, .int 0, .int (-1), .int 0, .int 0])) := by rw [ef465, va_up_ne _ _ n96]; exact h708
    have h710 : f468 eo = some (.inr (1, [.ref nw1, .ref na1, .ref nq1, .ref nr1, .int 2, .int 0, .int 0, .int 0, .int (-1), .int 0, .int 0])) := by rw [ef468, va_up_ne _ _ n100]; exact h709
    have h711 : f471 eo = some (.inr (1, [.ref nw1, .ref na1, .ref nq1, .ref nr1, .int 2, .int 0, .int 0, .int 0, .int (-1), .int 0, .int 0])) := by rw [ef471, va_up_ne _ _ n96]; exact h710
    have h712 : f474 eo = some (.inr (1, [.ref nw1, .ref na1, .ref nq1, .ref nr1, .int 2, .int 0, .int 0, .int 0, .int (-1), .int 0, .int 0])) := by rw [ef474, va_up_ne _ _ n100]; exact h711
    have h713 : f477 eo = some (.inr (1, [.ref nw1, .ref na1, .ref nq1, .ref nr1, .int 2, .int 0, .int 0, .int 0, .int (-1), .int 0, .int 0])) := by rw [ef477, va_up_ne _ _ n96]; exact h712
    have h714 : f480 eo = some (.inr (1, [.ref nw1, .ref na1, .ref nq1, .ref nr1, .int 2, .int 0, .int 0, .int 0, .int (-1), .int 0, .int 0])) := by rw [ef480, va_up_ne _ _ n100]; exact h713
    have h715 : f483 eo = some (.inr (1, [.ref nw1, .ref na1, .ref nq1, .ref nr1, .int 2, .int 0, .int 0, .int 0, .int (-1), .int 0, .int 0])) := by rw [ef483, va_up_ne _ _ n96]; exact h714
    have h716 : f486 eo = some (.inr (1, [.ref nw1, .ref na1, .ref nq1, .ref nr1, .int 2, .int 0, .int 0, .int 0, .int (-1), .int 0, .int 0])) := by rw [ef486, va_up_ne _ _ n100]; exact h715
    have h717 : f489 eo = some (.inr (1, [.ref nw1, .ref na1, .ref nq1, .ref nr1, .int 2, .int 0, .int 0, .int 0, .int (-1), .int 0, .int 0])) := by rw [ef489, va_up_ne _ _ n96]; exact h716
    have h718 : f492 eo = some (.inr (1, [.ref nw1, .ref na1, .ref nq1, .ref nr1, .int 2, .int 0, .int 0, .int 0, .int (-1), .int 0, .int 0])) := by rw [ef492, va_up_ne _ _ n100]; exact h717
    have h719 : f495 eo = some (.inr (1, [.ref nw1, .ref na1, .ref nq1, .ref nr1, .int 2, .int 0, .int 0, .int 0, .int (-1), .int 0, .int 0])) := by rw [ef495, va_up_ne _ _ n96]; exact h718
    have h720 : f498 eo = some (.inr (1, [.ref nw1, .ref na1, .ref nq1, .ref nr1, .int 2, .int 0, .int 0, .int 0, .int (-1), .int 0, .int 0])) := by rw [ef498, va_up_ne _ _ n100]; exact h719
    have h721 : f501 eo = some (.inr (1, [.ref nw1, .ref na1, .ref nq1, .ref nr1, .int 2, .int 0, .int 0, .int 0, .int (-1), .int 0, .int 0])) := by rw [ef501, va_up_ne _ _ n96]; exact h720
    have h722 : f504 eo = some (.inr (1, [.ref nw1, .ref na1, .ref nq1, .ref nr1, .int 2, .int 0, .int 0, .int 0, .int (-1), .int 0, .int 0])) := by rw [ef504, va_up_ne _ _ n100]; exact h721
    have h723 : f507 eo = some (.inr (1, [.ref nw1, .ref na1, .ref nq1, .ref nr1, .int 2, .int 0, .int 0, .int 0, .int (-1), .int 0, .int 0])) := by rw [ef507, va_up_ne _ _ n96]; exact h722
    have h724 : f510 eo = some (.inr (1, [.ref nw1, .ref na1, .ref nq1, .ref nr1, .int 2, .int 0, .int 0, .int 0, .int (-1), .int 0, .int 0])) := by rw [ef510, va_up_ne _ _ n100]; exact h723
    have h725 : f513 eo = some (.inr (1, [.ref nw1, .ref na1, .ref nq1, .ref nr1, .int 2, .int 0, .int 0, .int 0, .int (-1), .int 0, .int 0])) := by rw [ef513, va_up_ne _ _ n96]; exact h724
    have h726 : f516 eo = some (.inr (1, [.ref nw1, .ref na1, .ref nq1, .ref nr1, .int 2, .int 0, .int 0, .int 0, .int (-1), .int 0, .int 0])) := by rw [ef516, va_up_ne _ _ n100]; exact h725
    have h727 : f519 eo = some (.inr (1, [.ref nw1, .ref na1, .ref nq1, .ref nr1, .int 2, .int 0, .int 0, .int 0, .int (-1), .int 0, .int 0])) := by rw [ef519, va_up_ne _ _ n96]; exact h726
    have h728 : f522 eo = some (.inr (1, [.ref nw1, .ref na1, .ref nq1, .ref nr1, .int 2, .int 0, .int 0, .int 0, .int (-1), .int 0, .int 0])) := by rw [ef522, va_up_ne _ _ n100]; exact h727
    have h729 : f525 eo = some (.inr (1, [.ref nw1, .ref na1, .ref nq1, .ref nr1, .int 2, .int 0, .int 0, .int 0, .int (-1), .int 0, .int 0])) := by rw [ef525, va_up_ne _ _ n96]; exact h728
    have h730 : f528 eo = some (.inr (1, [.ref nw1, .ref na1, .ref nq1, .ref nr1, .int 2, .int 0, .int 0, .int 0, .int (-1), .int 0, .int 0])) := by rw [ef528, va_up_ne _ _ n100]; exact h729
    have h731 : f562 eo = some (.inr (1, [.ref nw1, .ref na1, .ref nq1, .ref nr1, .int 2, .int 0, .int 0, .int 0, .int (-1), .int 0, .int 0])) := by rw [e563, va_up_ne _ _ n102]; exact h730
    have h732 : f595 eo = some (.inr (1, [.ref nw1, .ref na1, .ref nq1, .ref nr1, .int 2, .int 0, .int 0, .int 0, .int (-1), .int 0, .int 0])) := by rw [e596, va_up_ne _ _ n110]; exact h731
    have h733 : f52 nq1 = some (.inl (cI G, 6, .inl (fun j => if j < 6 then (-1) else (fun _ => 0) j))) := by rw [ef52, va_up_ne _ _ (hnew h261 w51)]; exact h261
    have h734 : f458 nq1 = some (.inl (cI G, 6, .inl (fun j => if j < 6 then (-1) else (fun _ => 0) j))) := by rw [ef458, va_up_ne _ _ n248]; exact h733
    have h735 : f462 nq1 = some (.inl (cI G, 6, .inl (fun j => if j < 6 then (-1) else (fun _ => 0) j))) := by rw [ef462, va_up_ne _ _ n252]; exact h734
    have h736 : f465 nq1 = some (.inl (cI G, 6, .inl (fun j => if j < 6 then (-1) else (fun _ => 0) j))) := by rw [ef465, va_up_ne _ _ n248]; exact h735
    have h737 : f468 nq1 = some (.inl (cI G, 6, .inl (fun j => if j < 6 then (-1) else (fun _ => 0) j))) := by rw [ef468, va_up_ne _ _ n252]; exact h736
    have h738 : f471 nq1 = some (.inl (cI G, 6, .inl (fun j => if j < 6 then (-1) else (fun _ => 0) j))) := by rw [ef471, va_up_ne _ _ n248]; exact h737
    have h739 : f474 nq1 = some (.inl (cI G, 6, .inl (fun j => if j < 6 then (-1) else (fun _ => 0) j))) := by rw [ef474, va_up_ne _ _ n252]; exact h738
    have h740 : f477 nq1 = some (.inl (cI G, 6, .inl (fun j => if j < 6 then (-1) else (fun _ => 0) j))) := by rw [ef477, va_up_ne _ _ n248]; exact h739
    have h741 : f480 nq1 = some (.inl (cI G, 6, .inl (fun j => if j < 6 then (-1) else (fun _ => 0) j))) := by rw [ef480, va_up_ne _ _ n252]; exact h740
    have h742 : f483 nq1 = some (.inl (cI G, 6, .inl (fun j => if j < 6 then (-1) else (fun _ => 0) j))) := by rw [ef483, va_up_ne _ _ n248]; exact h741
    have h743 : f486 nq1 = some (.inl (cI G, 6, .inl (fun j => if j < 6 then (-1) else (fun _ => 0) j))) := by rw [ef486, va_up_ne _ _ n252]; exact h742
    have h744 : f489 nq1 = some (.inl (cI G, 6, .inl (fun j => if j < 6 then (-1) else (fun _ => 0) j))) := by rw [ef489, va_up_ne _ _ n248]; exact h743
    have h745 : f492 nq1 = some (.inl (cI G, 6, .inl (fun j => if j < 6 then (-1) else (fun _ => 0) j))) := by rw [ef492, va_up_ne _ _ n252]; exact h744
    have h746 : f495 nq1 = some (.inl (cI G, 6, .inl (fun j => if j < 6 then (-1) else (fun _ => 0) j))) := by rw [ef495, va_up_ne _ _ n248]; exact h745
    have h747 : f498 nq1 = some (.inl (cI G, 6, .inl (fun j => if j < 6 then (-1) else (fun _ => 0) j))) := by rw [ef498, va_up_ne _ _ n252]; exact h746
    have h748 : f501 nq1 = some (.inl (cI G, 6, .inl (fun j => if j < 6 then (-1) else (fun _ => 0) j))) := by rw [ef501, va_up_ne _ _ n248]; exact h747
    have h749 : f504 nq1 = some (.inl (cI G, 6, .inl (fun j => if j < 6 then (-1) else (fun _ => 0) j))) := by rw [ef504, va_up_ne _ _ n252]; exact h748
    have h750 : f507 nq1 = some (.inl (cI G, 6, .inl (fun j => if j < 6 then (-1) else (fun _ => 0) j))) := by rw [ef507, va_up_ne _ _ n248]; exact h749
    have h751 : f510 nq1 = some (.inl (cI G, 6, .inl (fun j => if j < 6 then (-1) else (fun _ => 0) j))) := by rw [ef510, va_up_ne _ _ n252]; exact h750
    have h752 : f513 nq1 = some (.inl (cI G, 6, .inl (fun j => if j < 6 then (-1) else (fun _ => 0) j))) := by rw [ef513, va_up_ne _ _ n248]; exact h751
    have h753 : f516 nq1 = some (.inl (cI G, 6, .inl (fun j => if j < 6 then (-1) else (fun _ => 0) j))) := by rw [ef516, va_up_ne _ _ n252]; exact h752
    have h754 : f519 nq1 = some (.inl (cI G, 6, .inl (fun j => if j < 6 then (-1) else (fun _ => 0) j))) := by rw [ef519, va_up_ne _ _ n248]; exact h753
    have h755 : f522 nq1 = some (.inl (cI G, 6, .inl (fun j => if j < 6 then (-1) else (fun _ => 0) j))) := by rw [ef522, va_up_ne _ _ n252]; exact h754
    have h756 : f525 nq1 = some (.inl (cI G, 6, .inl (fun j => if j < 6 then (-1) else (fun _ => 0) j))) := by rw [ef525, va_up_ne _ _ n248]; exact h755
    have h757 : f528 nq1 = some (.inl (cI G, 6, .inl (fun j => if j < 6 then (-1) else (fun _ => 0) j))) := by rw [ef528, va_up_ne _ _ n252]; exact h756
    have h758 : f562 nq1 = some (.inl (cI G, 6, .inl (fun j => if j < 6 then (-1) else (fun _ => 0) j))) := by rw [e563, va_up_ne _ _ n254]; exact h757
    have h759 : f595 nq1 = some (.inl (cI G, 6, .inl (fun j => if j < 6 then (-1) else (fun _ => 0) j))) := by rw [e596, va_up_ne _ _ n262]; exact h758
    have h760 : f52 nr1 = some (.inr (3, [.null, .null, .int 0])) := by rw [ef52, va_up_ne _ _ (hnew h280 w51)]; exact h280
    have h761 : f458 nr1 = some (.inr (3, [.null, .null, .int 0])) := by rw [ef458, va_up_ne _ _ n267]; exact h760
    have h762 : f462 nr1 = some (.inr (3, [.null, .null, .int 0])) := by rw [ef462, va_up_ne _ _ n271]; exact h761
    have h763 : f465 nr1 = some (.inr (3, [.null, .null, .int 0])) := by rw [ef465, va_up_ne _ _ n267]; exact h762
    have h764 : f468 nr1 = some (.inr (3, [.null, .null, .int 0])) := by rw [ef468, va_up_ne _ _ n271]; exact h763
    have h765 : f471 nr1 = some (.inr (3, [.null, .null, .int 0])) := by rw [ef471, va_up_ne _ _ n267]; exact h764
    have h766 : f474 nr1 = some (.inr (3, [.null, .null, .int 0])) := by rw [ef474, va_up_ne _ _ n271]; exact h765
    have h767 : f477 nr1 = some (.inr (3, [.null, .null, .int 0])) := by rw [ef477, va_up_ne _ _ n267]; exact h766
    have h768 : f480 nr1 = some (.inr (3, [.null, .null, .int 0])) := by rw [ef480, va_up_ne _ _ n271]; exact h767
    have h769 : f483 nr1 = some (.inr (3, [.null, .null, .int 0])) := by rw [ef483, va_up_ne _ _ n267]; exact h768
    have h770 : f486 nr1 = some (.inr (3, [.null, .null, .int 0])) := by rw [ef486, va_up_ne _ _ n271]; exact h769
    have h771 : f489 nr1 = some (.inr (3, [.null, .null, .int 0])) := by rw [ef489, va_up_ne _ _ n267]; exact h770
    have h772 : f492 nr1 = some (.inr (3, [.null, .null, .int 0])) := by rw [ef492, va_up_ne _ _ n271]; exact h771
    have h773 : f495 nr1 = some (.inr (3, [.null, .null, .int 0])) := by rw [ef495, va_up_ne _ _ n267]; exact h772
    have h774 : f498 nr1 = some (.inr (3, [.null, .null, .int 0])) := by rw [ef498, va_up_ne _ _ n271]; exact h773
    have h775 : f501 nr1 = some (.inr (3, [.null, .null, .int 0])) := by rw [ef501, va_up_ne _ _ n267]; exact h774
    have h776 : f504 nr1 = some (.inr (3, [.null, .null, .int 0])) := by rw [ef504, va_up_ne _ _ n271]; exact h775
    have h777 : f507 nr1 = some (.inr (3, [.null, .null, .int 0])) := by rw [ef507, va_up_ne _ _ n267]; exact h776
    have h778 : f510 nr1 = some (.inr (3, [.null, .null, .int 0])) := by rw [ef510, va_up_ne _ _ n271]; exact h777
    have h779 : f513 nr1 = some (.inr (3, [.null, .null, .int 0])) := by rw [ef513, va_up_ne _ _ n267]; exact h778
    have h780 : f516 nr1 = some (.inr (3, [.null, .null, .int 0])) := by rw [ef516, va_up_ne _ _ n271]; exact h779
    have h781 : f519 nr1 = some (.inr (3, [.null, .null, .int 0])) := by rw [ef519, va_up_ne _ _ n267]; exact h780
    have h782 : f522 nr1 = some (.inr (3, [.null, .null, .int 0])) := by rw [ef522, va_up_ne _ _ n271]; exact h781
    have h783 : f525 nr1 = some (.inr (3, [.null, .null, .int 0])) := by rw [ef525, va_up_ne _ _ n267]; exact h782
    have h784 : f528 nr1 = some (.inr (3, [.null, .null, .int 0])) := by rw [ef528, va_up_ne _ _ n271]; exact h783
    have h785 : f562 nr1 = some (.inr (3, [.null, .null, .int 0])) := by rw [e563, va_up_ne _ _ n273]; exact h784
    have h786 : f595 nr1 = some (.inr (3, [.null, .null, .int 0])) := by rw [e596, va_up_ne _ _ n281]; exact h785
    have h787 : f52 nw0 = some (.inl (cI G, 6, .inl (fun j => if j < 6 then (-1) else (fun _ => 0) j))) := by rw [ef52, va_up_ne _ _ (hnew h147 w51)]; exact h147
    have h788 : f458 nw0 = some (.inl (cI G, 6, .inl (fun j => if j < 6 then (-1) else (fun _ => 0) j))) := by rw [ef458, va_up_ne _ _ n134]; exact h787
    have h789 : f462 nw0 = some (.inl (cI G, 6, .inl (fun j => if j < 6 then (-1) else (fun _ => 0) j))) := by rw [ef462, va_up_ne _ _ n138]; exact h788
    have h790 : f465 nw0 = some (.inl (cI G, 6, .inl (fun j => if j < 6 then (-1) else (fun _ => 0) j))) := by rw [ef465, va_up_ne _ _ n134]; exact h789
    have h791 : f468 nw0 = some (.inl (cI G, 6, .inl (fun j => if j < 6 then (-1) else (fun _ => 0) j))) := by rw [ef468, va_up_ne _ _ n138]; exact h790
    have h792 : f471 nw0 = some (.inl (cI G, 6, .inl (fun j => if j < 6 then (-1) else (fun _ => 0) j))) := by rw [ef471, va_up_ne _ _ n134]; exact h791
    have h793 : f474 nw0 = some (.inl (cI G, 6, .inl (fun j => if j < 6 then (-1) else (fun _ => 0) j))) := by rw [ef474, va_up_ne _ _ n138]; exact h792
    have h794 : f477 nw0 = some (.inl (cI G, 6, .inl (fun j => if j < 6 then (-1) else (fun _ => 0) j))) := by rw [ef477, va_up_ne _ _ n134]; exact h793
    have h795 : f480 nw0 = some (.inl (cI G, 6, .inl (fun j => if j < 6 then (-1) else (fun _ => 0) j))) := by rw [ef480, va_up_ne _ _ n138]; exact h794
    have h796 : f483 nw0 = some (.inl (cI G, 6, .inl (fun j => if j < 6 then (-1) else (fun _ => 0) j))) := by rw [ef483, va_up_ne _ _ n134]; exact h795
    have h797 : f486 nw0 = some (.inl (cI G, 6, .inl (fun j => if j < 6 then (-1) else (fun _ => 0) j))) := by rw [ef486, va_up_ne _ _ n138]; exact h796
    have h798 : f489 nw0 = some (.inl (cI G, 6, .inl (fun j => if j < 6 then (-1) else (fun _ => 0) j))) := by rw [ef489, va_up_ne _ _ n134]; exact h797
    have h799 : f492 nw0 = some (.inl (cI G, 6, .inl (fun j => if j < 6 then (-1) else (fun _ => 0) j))) := by rw [ef492, va_up_ne _ _ n138]; exact h798
    have h800 : f495 nw0 = some (.inl (cI G, 6, .inl (fun j => if j < 6 then (-1) else (fun _ => 0) j))) := by rw [ef495, va_up_ne _ _ n134]; exact h799
    have h801 : f498 nw0 = some (.inl (cI G, 6, .inl (fun j => if j < 6 then (-1) else (fun _ => 0) j))) := by rw [ef498, va_up_ne _ _ n138]; exact h800
    have h802 : f501 nw0 = some (.inl (cI G, 6, .inl (fun j => if j < 6 then (-1) else (fun _ => 0) j))) := by rw [ef501, va_up_ne _ _ n134]; exact h801
    have h803 : f504 nw0 = some (.inl (cI G, 6, .inl (fun j => if j < 6 then (-1) else (fun _ => 0) j))) := by rw [ef504, va_up_ne _ _ n138]; exact h802
    have h804 : f507 nw0 = some (.inl (cI G, 6, .inl (fun j => if j < 6 then (-1) else (fun _ => 0) j))) := by rw [ef507, va_up_ne _ _ n134]; exact h803
    have h805 : f510 nw0 = some (.inl (cI G, 6, .inl (fun j => if j < 6 then (-1) else (fun _ => 0) j))) := by rw [ef510, va_up_ne _ _ n138]; exact h804
    have h806 : f513 nw0 = some (.inl (cI G, 6, .inl (fun j => if j < 6 then (-1) else (fun _ => 0) j))) := by rw [ef513, va_up_ne _ _ n134]; exact h805
    have h807 : f516 nw0 = some (.inl (cI G, 6, .inl (fun j => if j < 6 then (-1) else (fun _ => 0) j))) := by rw [ef516, va_up_ne _ _ n138]; exact h806
    have h808 : f519 nw0 = some (.inl (cI G, 6, .inl (fun j => if j < 6 then (-1) else (fun _ => 0) j))) := by rw [ef519, va_up_ne _ _ n134]; exact h807
    have h809 : f522 nw0 = some (.inl (cI G, 6, .inl (fun j => if j < 6 then (-1) else (fun _ => 0) j))) := by rw [ef522, va_up_ne _ _ n138]; exact h808
    have h810 : f525 nw0 = some (.inl (cI G, 6, .inl (fun j => if j < 6 then (-1) else (fun _ => 0) j))) := by rw [ef525, va_up_ne _ _ n134]; exact h809
    have h811 : f528 nw0 = some (.inl (cI G, 6, .inl (fun j => if j < 6 then (-1) else (fun _ => 0) j))) := by rw [ef528, va_up_ne _ _ n138]; exact h810
    have h812 : f562 nw0 = some (.inl (cI G, 6, .inl (fun j => if j < 6 then (-1) else (fun _ => 0) j))) := by rw [e563, va_up_ne _ _ n140]; exact h811
    have h813 : f595 nw0 = some (.inl (cI G, 6, .inl (fun j => if j < 6 then (-1) else (fun _ => 0) j))) := by rw [e596, va_up_ne _ _ n148]; exact h812
    have h814 : f52 na0 = some (.inl (cI G, 6, .inl (fun _ => 0))) := by rw [ef52, va_up_ne _ _ (hnew h166 w51)]; exact h166
    have h815 : f458 na0 = some (.inl (cI G, 6, .inl (fun _ => 0))) := by rw [ef458, va_up_ne _ _ n153]; exact h814
    have h816 : f462 na0 = some (.inl (cI G, 6, .inl (fun _ => 0))) := by rw [ef462, va_up_ne _ _ n157]; exact h815
    have h817 : f465 na0 = some (.inl (cI G, 6, .inl (fun _ => 0))) := by rw [ef465, va_up_ne _ _ n153]; exact h816
    have h818 : f468 na0 = some (.inl (cI G, 6, .inl (fun _ => 0))) := by rw [ef468, va_up_ne _ _ n157]; exact h817
    have h819 : f471 na0 = some (.inl (cI G, 6, .inl (fun _ => 0))) := by rw [ef471, va_up_ne _ _ n153]; exact h818
    have h820 : f474 na0 = some (.inl (cI G, 6, .inl (fun _ => 0))) := by rw [ef474, va_up_ne _ _ n157]; exact h819
    have h821 : f477 na0 = some (.inl (cI G, 6, .inl (fun _ => 0))) := by rw [ef477, va_up_ne _ _ n153]; exact h820
    have h822 : f480 na0 = some (.inl (cI G, 6, .inl (fun _ => 0))) := by rw [ef480, va_up_ne _ _ n157]; exact h821
    have h823 : f483 na0 = some (.inl (cI G, 6, .inl (fun _ => 0))) := by rw [ef483, va_up_ne _ _ n153]; exact h822
    have h824 : f486 na0 = some (.inl (cI G, 6, .inl (fun _ => 0))) := by rw [ef486, va_up_ne _ _ n157]; exact h823
    have h825 : f489 na0 = some (.inl (cI G, 6, .inl (fun _ => 0))) := by rw [ef489, va_up_ne _ _ n153]; exact h824
    have h826 : f492 na0 = some (.inl (cI G, 6, .inl (fun _ => 0))) := by rw [ef492, va_up_ne _ _ n157]; exact h825
    have h827 : f495 na0 = some (.inl (cI G, 6, .inl (fun _ => 0))) := by rw [ef495, va_up_ne _ _ n153]; exact h826
    have h828 : f498 na0 = some (.inl (cI G, 6, .inl (fun _ => 0))) := by rw [ef498, va_up_ne _ _ n157]; exact h827
    have h829 : f501 na0 = some (.inl (cI G, 6, .inl (fun _ => 0))) := by rw [ef501, va_up_ne _ _ n153]; exact h828
    have h830 : f504 na0 = some (.inl (cI G, 6, .inl (fun _ => 0))) := by rw [ef504, va_up_ne _ _ n157]; exact h829
    have h831 : f507 na0 = some (.inl (cI G, 6, .inl (fun _ => 0))) := by rw [ef507, va_up_ne _ _ n153]; exact h830
    have h832 : f510 na0 = some (.inl (cI G, 6, .inl (fun _ => 0))) := by rw [ef510, va_up_ne _ _ n157]; exact h831
    have h833 : f513 na0 = some (.inl (cI G, 6, .inl (fun _ => 0))) := by rw [ef513, va_up_ne _ _ n153]; exact h832
    have h834 : f516 na0 = some (.inl (cI G, 6, .inl (fun _ => 0))) := by rw [ef516, va_up_ne _ _ n157]; exact h833
    have h835 : f519 na0 = some (.inl (cI G, 6, .inl (fun _ => 0))) := by rw [ef519, va_up_ne _ _ n153]; exact h834
    have h836 : f522 na0 = some (.inl (cI G, 6, .inl (fun _ => 0))) := by rw [ef522, va_up_ne _ _ n157]; exact h835
    have h837 : f525 na0 = some (.inl (cI G, 6, .inl (fun _ => 0))) := by rw [ef525, va_up_ne _ _ n153]; exact h836
    have h838 : f528 na0 = some (.inl (cI G, 6, .inl (fun _ => 0))) := by rw [ef528, va_up_ne _ _ n157]; exact h837
    have h839 : f562 na0 = some (.inl (cI G, 6, .inl (fun _ => 0))) := by rw [e563, va_up_ne _ _ n159]; exact h838
    have h840 : f595 na0 = some (.inl (cI G, 6, .inl (fun _ => 0))) := by rw [e596, va_up_ne _ _ n167]; exact h839
    have h841 : f52 nw1 = some (.inl (cI G, 6, .inl (fun j => if j < 6 then (-1) else (fun _ => 0) j))) := by rw [ef52, va_up_ne _ _ (hnew h223 w51)]; exact h223
    have h842 : f458 nw1 = some (.inl (cI G, 6, .inl (fun j => if j < 6 then (-1) else (fun _ => 0) j))) := by rw [ef458, va_up_ne _ _ n210]; exact h841
    have h843 : f462 nw1 = some (.inl (cI G, 6, .inl (fun j => if j < 6 then (-1) else (fun _ => 0) j))) := by rw [ef462, va_up_ne _ _ n214]; exact h842
    have h844 : f465 nw1 = some (.inl (cI G, 6, .inl (fun j => if j < 6 then (-1) else (fun _ => 0) j))) := by rw [ef465, va_up_ne _ _ n210]; exact h843
    have h845 : f468 nw1 = some (.inl (cI G, 6, .inl (fun j => if j < 6 then (-1) else (fun _ => 0) j))) := by rw [ef468, va_up_ne _ _ n214]; exact h844
    have h846 : f471 nw1 = some (.inl (cI G, 6, .inl (fun j => if j < 6 then (-1) else (fun _ => 0) j))) := by rw [ef471, va_up_ne _ _ n210]; exact h845
    have h847 : f474 nw1 = some (.inl (cI G, 6, .inl (fun j => if j < 6 then (-1) else (fun _ => 0) j))) := by rw [ef474, va_up_ne _ _ n214]; exact h846
    have h848 : f477 nw1 = some (.inl (cI G, 6, .inl (fun j => if j < 6 then (-1) else (fun _ => 0) j))) := by rw [ef477, va_up_ne _ _ n210]; exact h847
    have h849 : f480 nw1 = some (.inl (cI G, 6, .inl (fun j => if j < 6 then (-1) else (fun _ => 0) j))) := by rw [ef480, va_up_ne _ _ n214]; exact h848
    have h850 : f483 nw1 = some (.inl (cI G, 6, .inl (fun j => if j < 6 then (-1) else (fun _ => 0) j))) := by rw [ef483, va_up_ne _ _ n210]; exact h849
    have h851 : f486 nw1 = some (.inl (cI G, 6, .inl (fun j => if j < 6 then (-1) else (fun _ => 0) j))) := by rw [ef486, va_up_ne _ _ n214]; exact h850
    have h852 : f489 nw1 = some (.inl (cI G, 6, .inl (fun j => if j < 6 then (-1) else (fun _ => 0) j))) := by rw [ef489, va_up_ne _ _ n210]; exact h851
    have h853 : f492 nw1 = some (.inl (cI G, 6, .inl (fun j => if j < 6 then (-1) else (fun _ => 0) j))) := by rw [ef492, va_up_ne _ _ n214]; exact h852
    have h854 : f495 nw1 = some (.inl (cI G, 6, .inl (fun j => if j < 6 then (-1) else (fun _ => 0) j))) := by rw [ef495, va_up_ne _ _ n210]; exact h853
    have h855 : f498 nw1 = some (.inl (cI G, 6, .inl (fun j => if j < 6 then (-1) else (fun _ => 0) j))) := by rw [ef498, va_up_ne _ _ n214]; exact h854
    have h856 : f501 nw1 = some (.inl (cI G, 6, .inl (fun j => if j < 6 then (-1) else (fun _ => 0) j))) := by rw [ef501, va_up_ne _ _ n210]; exact h855
    have h857 : f504 nw1 = some (.inl (cI G, 6, .inl (fun j => if j < 6 then (-1) else (fun _ => 0) j))) := by rw [ef504, va_up_ne _ _ n214]; exact h856
    have h858 : f507 nw1 = some (.inl (cI G, 6, .inl (fun j => if j < 6 then (-1) else (fun _ => 0) j))) := by rw [ef507, va_up_ne _ _ n210]; exact h857
    have h859 : f510 nw1 = some (.inl (cI G, 6, .inl (fun j => if j < 6 then (-1) else (fun _ => 0) j))) := by rw [ef510, va_up_ne _ _ n214]; exact h858
    have h860 : f513 nw1 = some (.inl (cI G, 6, .inl (fun j => if j < 6 then (-1) else (fun _ => 0) j))) := by rw [ef513, va_up_ne _ _ n210]; exact h859
    have h861 : f516 nw1 = some (.inl (cI G, 6, .inl (fun j => if j < 6 then (-1) else (fun _ => 0) j))) := by rw [ef516, va_up_ne _ _ n214]; exact h860
    have h862 : f519 nw1 = some (.inl (cI G, 6, .inl (fun j => if j < 6 then (-1) else (fun _ => 0) j))) := by rw [ef519, va_up_ne _ _ n210]; exact h861
    have h863 : f522 nw1 = some (.inl (cI G, 6, .inl (fun j => if j < 6 then (-1) else (fun _ => 0) j))) := by rw [ef522, va_up_ne _ _ n214]; exact h862
    have h864 : f525 nw1 = some (.inl (cI G, 6, .inl (fun j => if j < 6 then (-1) else (fun _ => 0) j))) := by rw [ef525, va_up_ne _ _ n210]; exact h863
    have h865 : f528 nw1 = some (.inl (cI G, 6, .inl (fun j => if j < 6 then (-1) else (fun _ => 0) j))) := by rw [ef528, va_up_ne _ _ n214]; exact h864
    have h866 : f562 nw1 = some (.inl (cI G, 6, .inl (fun j => if j < 6 then (-1) else (fun _ => 0) j))) := by rw [e563, va_up_ne _ _ n216]; exact h865
    have h867 : f595 nw1 = some (.inl (cI G, 6, .inl (fun j => if j < 6 then (-1) else (fun _ => 0) j))) := by rw [e596, va_up_ne _ _ n224]; exact h866
    have h868 : f52 na1 = some (.inl (cI G, 6, .inl (fun _ => 0))) := by rw [ef52, va_up_ne _ _ (hnew h242 w51)]; exact h242
    have h869 : f458 na1 = some (.inl (cI G, 6, .inl (fun _ => 0))) := by rw [ef458, va_up_ne _ _ n229]; exact h868
    have h870 : f462 na1 = some (.inl (cI G, 6, .inl (fun _ => 0))) := by rw [ef462, va_up_ne _ _ n233]; exact h869
    have h871 : f465 na1 = some (.inl (cI G, 6, .inl (fun _ => 0))) := by rw [ef465, va_up_ne _ _ n229]; exact h870
    have h872 : f468 na1 = some (.inl (cI G, 6, .inl (fun _ => 0))) := by rw [ef468, va_up_ne _ _ n233]; exact h871
    have h873 : f471 na1 = some (.inl (cI G, 6, .inl (fun _ => 0))) := by rw [ef471, va_up_ne _ _ n229]; exact h872
    have h874 : f474 na1 = some (.inl (cI G, 6, .inl (fun _ => 0))) := by rw [ef474, va_up_ne _ _ n233]; exact h873
    have h875 : f477 na1 = some (.inl (cI G, 6, .inl (fun _ => 0))) := by rw [ef477, va_up_ne _ _ n229]; exact h874
    have h876 : f480 na1 = some (.inl (cI G, 6, .inl (fun _ => 0))) := by rw [ef480, va_up_ne _ _ n233]; exact h875
    have h877 : f483 na1 = some (.inl (cI G, 6, .inl (fun _ => 0))) := by rw [ef483, va_up_ne _ _ n229]; exact h876
    have h878 : f486 na1 = some (.inl (cI G, 6, .inl (fun _ => 0))) := by rw [ef486, va_up_ne _ _ n233]; exact h877
    have h879 : f489 na1 = some (.inl (cI G, 6, .inl (fun _ => 0))) := by rw [ef489, va_up_ne _ _ n229]; exact h878
    have h880 : f492 na1 = some (.inl (cI G, 6, .inl (fun _ => 0))) := by rw [ef492, va_up_ne _ _ n233]; exact h879
    have h881 : f495 na1 = some (.inl (cI G, 6, .inl (fun _ => 0))) := by rw [ef495, va_up_ne _ _ n229]; exact h880
    have h882 : f498 na1 = some (.inl (cI G, 6, .inl (fun _ => 0))) := by rw [ef498, va_up_ne _ _ n233]; exact h881
    have h883 : f501 na1 = some (.inl (cI G, 6, .inl (fun _ => 0))) := by rw [ef501, va_up_ne _ _ n229]; exact h882
    have h884 : f504 na1 = some (.inl (cI G, 6, .inl (fun _ => 0))) := by rw [ef504, va_up_ne _ _ n233]; exact h883
    have h885 : f507 na1 = some (.inl (cI G, 6, .inl (fun _ => 0))) := by rw [ef507, va_up_ne _ _ n229]; exact h884
    have h886 : f510 na1 = some (.inl (cI G, 6, .inl (fun _ => 0))) := by rw [ef510, va_up_ne _ _ n233]; exact h885
    have h887 : f513 na1 = some (.inl (cI G, 6, .inl (fun _ => 0))) := by rw [ef513, va_up_ne _ _ n229]; exact h886
    have h888 : f516 na1 = some (.inl (cI G, 6, .inl (fun _ => 0))) := by rw [ef516, va_up_ne _ _ n233]; exact h887
    have h889 : f519 na1 = some (.inl (cI G, 6, .inl (fun _ => 0))) := by rw [ef519, va_up_ne _ _ n229]; exact h888
    have h890 : f522 na1 = some (.inl (cI G, 6, .inl (fun _ => 0))) := by rw [ef522, va_up_ne _ _ n233]; exact h889
    have h891 : f525 na1 = some (.inl (cI G, 6, .inl (fun _ => 0))) := by rw [ef525, va_up_ne _ _ n229]; exact h890
    have h892 : f528 na1 = some (.inl (cI G, 6, .inl (fun _ => 0))) := by rw [ef528, va_up_ne _ _ n233]; exact h891
    have h893 : f562 na1 = some (.inl (cI G, 6, .inl (fun _ => 0))) := by rw [e563, va_up_ne _ _ n235]; exact h892
    have h894 : f595 na1 = some (.inl (cI G, 6, .inl (fun _ => 0))) := by rw [e596, va_up_ne _ _ n243]; exact h893
    have h895 : f52 bu = some (.inr (0, [.ref bs, .ref bp, .ref bh, .ref bf, .ref bl, .ref bg, .int 0, .int 0, .int 0])) := by rw [ef52, va_up_ne _ _ (hnew h128 w51)]; exact h128
    have h896 : f458 bu = some (.inr (0, [.ref bs, .ref bp, .ref bh, .ref bf, .ref bl, .ref bg, .int 0, .int 0, .int 0])) := by rw [ef458, va_up_ne _ _ n115]; exact h895
    have h897 : f462 bu = some (.inr (0, [.ref bs, .ref bp, .ref bh, .ref bf, .ref bl, .ref bg, .int 0, .int 0, .int 0])) := by rw [ef462, va_up_ne _ _ n119]; exact h896
    have h898 : f465 bu = some (.inr (0, [.ref bs, .ref bp, .ref bh, .ref bf, .ref bl, .ref bg, .int 0, .int 0, .int 0])) := by rw [ef465, va_up_ne _ _ n115]; exact h897
    have h899 : f468 bu = some (.inr (0, [.ref bs, .ref bp, .ref bh, .ref bf, .ref bl, .ref bg, .int 0, .int 0, .int 0])) := by rw [ef468, va_up_ne _ _ n119]; exact h898
    have h900 : f471 bu = some (.inr (0, [.ref bs, .ref bp, .ref bh, .ref bf, .ref bl, .ref bg, .int 0, .int 0, .int 0])) := by rw [ef471, va_up_ne _ _ n115]; exact h899
    have h901 : f474 bu = some (.inr (0, [.ref bs, .ref bp, .ref bh, .ref bf, .ref bl, .ref bg, .int 0, .int 0, .int 0])) := by rw [ef474, va_up_ne _ _ n119]; exact h900
    have h902 : f477 bu = some (.inr (0, [.ref bs, .ref bp, .ref bh, .ref bf, .ref bl, .ref bg, .int 0, .int 0, .int 0])) := by rw [ef477, va_up_ne _ _ n115]; exact h901
    have h903 : f480 bu = some (.inr (0, [.ref bs, .ref bp, .ref bh, .ref bf, .ref bl, .ref bg, .int 0, .int 0, .int 0])) := by rw [ef480, va_up_ne _ _ n119]; exact h902
    have h904 : f483 bu = some (.inr (0, [.ref bs, .ref bp, .ref bh, .ref bf, .ref bl, .ref bg, .int 0, .int 0, .int 0])) := by rw [ef483, va_up_ne _ _ n115]; exact h903
    have h905 : f486 bu = some (.inr (0, [.ref bs, .ref bp, .ref bh, .ref bf, .ref bl, .ref bg, .int 0, .int 0, .int 0])) := by rw [ef486, va_up_ne _ _ n119]; exact h904
    have h906 : f489 bu = some (.inr (0, [.ref bs, .ref bp, .ref bh, .ref bf, .ref bl, .ref bg, .int 0, .int 0, .int 0])) := by rw [ef489, va_up_ne _ _ n115]; exact h905
    have h907 : f492 bu = some (.inr (0, [.ref bs, .ref bp, .ref bh, .ref bf, .ref bl, .ref bg, .int 0, .int 0, .int 0])) := by rw [ef492, va_up_ne _ _ n119]; exact h906
    have h908 : f495 bu = some (.inr (0, [.ref bs, .ref bp, .ref bh, .ref bf, .ref bl, .ref bg, .int 0, .int 0, .int 0])) := by rw [ef495, va_up_ne _ _ n115]; exact h907
    have h909 : f498 bu = some (.inr (0, [.ref bs, .ref bp, .ref bh, .ref bf, .ref bl, .ref bg, .int 0, .int 0, .int 0])) := by rw [ef498, va_up_ne _ _ n119]; exact h908
    have h910 : f501 bu = some (.inr (0, [.ref bs, .ref bp, .ref bh, .ref bf, .ref bl, .ref bg, .int 0, .int 0, .int 0])) := by rw [ef501, va_up_ne _ _ n115]; exact h909
    have h911 : f504 bu = some (.inr (0, [.ref bs, .ref bp, .ref bh, .ref bf, .ref bl, .ref bg, .int 0, .int 0, .int 0])) := by rw [ef504, va_up_ne _ _ n119]; exact h910
    have h912 : f507 bu = some (.inr (0, [.ref bs, .ref bp, .ref bh, .ref bf, .ref bl, .ref bg, .int 0, .int 0, .int 0])) := by rw [ef507, va_up_ne _ _ n115]; exact h911
    have h913 : f510 bu = some (.inr (0, [.ref bs, .ref bp, .ref bh, .ref bf, .ref bl, .ref bg, .int 0, .int 0, .int 0])) := by rw [ef510, va_up_ne _ _ n119]; exact h912
    have h914 : f513 bu = some (.inr (0, [.ref bs, .ref bp, .ref bh, .ref bf, .ref bl, .ref bg, .int 0, .int 0, .int 0])) := by rw [ef513, va_up_ne _ _ n115]; exact h913
    have h915 : f516 bu = some (.inr (0, [.ref bs, .ref bp, .ref bh, .ref bf, .ref bl, .ref bg, .int 0, .int 0, .int 0])) := by rw [ef516, va_up_ne _ _ n119]; exact h914
    have h916 : f519 bu = some (.inr (0, [.ref bs, .ref bp, .ref bh, .ref bf, .ref bl, .ref bg, .int 0, .int 0, .int 0])) := by rw [ef519, va_up_ne _ _ n115]; exact h915
    have h917 : f522 bu = some (.inr (0, [.ref bs, .ref bp, .ref bh, .ref bf, .ref bl, .ref bg, .int 0, .int 0, .int 0])) := by rw [ef522, va_up_ne _ _ n119]; exact h916
    have h918 : f525 bu = some (.inr (0, [.ref bs, .ref bp, .ref bh, .ref bf, .ref bl, .ref bg, .int 0, .int 0, .int 0])) := by rw [ef525, va_up_ne _ _ n115]; exact h917
    have h919 : f528 bu = some (.inr (0, [.ref bs, .ref bp, .ref bh, .ref bf, .ref bl, .ref bg, .int 0, .int 0, .int 0])) := by rw [ef528, va_up_ne _ _ n119]; exact h918
    have h920 : f562 bu = some (.inr (0, [.ref bs, .ref bp, .ref bh, .ref bf, .ref bl, .ref bg, .int 0, .int 0, .int 0])) := by rw [e563, va_up_ne _ _ n121]; exact h919
    have h921 : f595 bu = some (.inr (0, [.ref bs, .ref bp, .ref bh, .ref bf, .ref bl, .ref bg, .int 0, .int 0, .int 0])) := by rw [e596, va_up_ne _ _ n129]; exact h920
    have h922 : f52 bs = some (.inl (cI G, 61, .inl (fun _ => 0))) := by rw [ef52, va_up_ne _ _ (hnew h299 w51)]; exact h299
    have h923 : f458 bs = some (.inl (cI G, 61, .inl (fun _ => 0))) := by rw [ef458, va_up_ne _ _ n286]; exact h922
    have h924 : f462 bs = some (.inl (cI G, 61, .inl (fun _ => 0))) := by rw [ef462, va_up_ne _ _ n290]; exact h923
    have h925 : f465 bs = some (.inl (cI G, 61, .inl (fun _ => 0))) := by rw [ef465, va_up_ne _ _ n286]; exact h924
    have h926 : f468 bs = some (.inl (cI G, 61, .inl (fun _ => 0))) := by rw [ef468, va_up_ne _ _ n290]; exact h925
    have h927 : f471 bs = some (.inl (cI G, 61, .inl (fun _ => 0))) := by rw [ef471, va_up_ne _ _ n286]; exact h926
    have h928 : f474 bs = some (.inl (cI G, 61, .inl (fun _ => 0))) := by rw [ef474, va_up_ne _ _ n290]; exact h927
    have h929 : f477 bs = some (.inl (cI G, 61, .inl (fun _ => 0))) := by rw [ef477, va_up_ne _ _ n286]; exact h928
    have h930 : f480 bs = some (.inl (cI G, 61, .inl (fun _ => 0))) := by rw [ef480, va_up_ne _ _ n290]; exact h929
    have h931 : f483 bs = some (.inl (cI G, 61, .inl (fun _ => 0))) := by rw [ef483, va_up_ne _ _ n286]; exact h930
    have h932 : f486 bs = some (.inl (cI G, 61, .inl (fun _ => 0))) := by rw [ef486, va_up_ne _ _ n290]; exact h931
    have h933 : f489 bs = some (.inl (cI G, 61, .inl (fun _ => 0))) := by rw [ef489, va_up_ne _ _ n286]; exact h932
    have h934 : f492 bs = some (.inl (cI G, 61, .inl (fun _ => 0))) := by rw [ef492, va_up_ne _ _ n290]; exact h933
    have h935 : f495 bs = some (.inl (cI G, 61, .inl (fun _ => 0))) := by rw [ef495, va_up_ne _ _ n286]; exact h934
    have h936 : f498 bs = some (.inl (cI G, 61, .inl (fun _ => 0))) := by rw [ef498, va_up_ne _ _ n290]; exact h935
    have h937 : f501 bs = some (.inl (cI G, 61, .inl (fun _ => 0))) := by rw [ef501, va_up_ne _ _ n286]; exact h936
    have h938 : f504 bs = some (.inl (cI G, 61, .inl (fun _ => 0))) := by rw [ef504, va_up_ne _ _ n290]; exact h937
    have h939 : f507 bs = some (.inl (cI G, 61, .inl (fun _ => 0))) := by rw [ef507, va_up_ne _ _ n286]; exact h938
    have h940 : f510 bs = some (.inl (cI G, 61, .inl (fun _ => 0))) := by rw [ef510, va_up_ne _ _ n290]; exact h939
    have h941 : f513 bs = some (.inl (cI G, 61, .inl (fun _ => 0))) := by rw [ef513, va_up_ne _ _ n286]; exact h940
    have h942 : f516 bs = some (.inl (cI G, 61, .inl (fun _ => 0))) := by rw [ef516, va_up_ne _ _ n290]; exact h941
    have h943 : f519 bs = some (.inl (cI G, 61, .inl (fun _ => 0))) := by rw [ef519, va_up_ne _ _ n286]; exact h942
    have h944 : f522 bs = some (.inl (cI G, 61, .inl (fun _ => 0))) := by rw [ef522, va_up_ne _ _ n290]; exact h943
    have h945 : f525 bs = some (.inl (cI G, 61, .inl (fun _ => 0))) := by rw [ef525, va_up_ne _ _ n286]; exact h944
    have h946 : f528 bs = some (.inl (cI G, 61, .inl (fun _ => 0))) := by rw [ef528, va_up_ne _ _ n290]; exact h945
    have h947 : f562 bs = some (.inl (cI G, 61, .inl (fun _ => 0))) := by rw [e563, va_up_ne _ _ n292]; exact h946
    have h948 : f595 bs = some (.inl (cI G, 61, .inl (fun _ => 0))) := by rw [e596, va_up_ne _ _ n300]; exact h947
    have h949 : f52 bp = some (.inl (cI G, 240, .inl (fun _ => 0))) := by rw [ef52, va_up_ne _ _ (hnew h318 w51)]; exact h318
    have h950 : f458 bp = some (.inl (cI G, 240, .inl (fun _ => 0))) := by rw [ef458, va_up_ne _ _ n305]; exact h949
    have h951 : f462 bp = some (.inl (cI G, 240, .inl (fun _ => 0))) := by rw [ef462, va_up_ne _ _ n309]; exact h950
    have h952 : f465 bp = some (.inl (cI G, 240, .inl (fun _ => 0))) := by rw [ef465, va_up_ne _ _ n305]; exact h951
    have h953 : f468 bp = some (.inl (cI G, 240, .inl (fun _ => 0))) := by rw [ef468, va_up_ne _ _ n309]; exact h952
    have h954 : f471 bp = some (.inl (cI G, 240, .inl (fun _ => 0))) := by rw [ef471, va_up_ne _ _ n305]; exact h953
    have h955 : f474 bp = some (.inl (cI G, 240, .inl (fun _ => 0))) := by rw [ef474, va_up_ne _ _ n309]; exact h954
    have h956 : f477 bp = some (.inl (cI G, 240, .inl (fun _ => 0))) := by rw [ef477, va_up_ne _ _ n305]; exact h955
    have h957 : f480 bp = some (.inl (cI G, 240, .inl (fun _ => 0))) := by rw [ef480, va_up_ne _ _ n309]; exact h956
    have h958 : f483 bp = some (.inl (cI G, 240, .inl (fun _ => 0))) := by rw [ef483, va_up_ne _ _ n305]; exact h957
    have h959 : f486 bp = some (.inl (cI G, 240, .inl (fun _ => 0))) := by rw [ef486, va_up_ne _ _ n309]; exact h958
    have h960 : f489 bp = some (.inl (cI G, 240, .inl (fun _ => 0))) := by rw [ef489, va_up_ne _ _ n305]; exact h959
    have h961 : f492 bp = some (.inl (cI G, 240, .inl (fun _ => 0))) := by rw [ef492, va_up_ne _ _ n309]; exact h960
    have h962 : f495 bp = some (.inl (cI G, 240, .inl (fun _ => 0))) := by rw [ef495, va_up_ne _ _ n305]; exact h961
    have h963 : f498 bp = some (.inl (cI G, 240, .inl (fun _ => 0))) := by rw [ef498, va_up_ne _ _ n309]; exact h962
    have h964 : f501 bp = some (.inl (cI G, 240, .inl (fun _ => 0))) := by rw [ef501, va_up_ne _ _ n305]; exact h963
    have h965 : f504 bp = some (.inl (cI G, 240, .inl (fun _ => 0))) := by rw [ef504, va_up_ne _ _ n309]; exact h964
    have h966 : f507 bp = some (.inl (cI G, 240, .inl (fun _ => 0))) := by rw [ef507, va_up_ne _ _ n305]; exact h965
    have h967 : f510 bp = some (.inl (cI G, 240, .inl (fun _ => 0))) := by rw [ef510, va_up_ne _ _ n309]; exact h966
    have h968 : f513 bp = some (.inl (cI G, 240, .inl (fun _ => 0))) := by rw [ef513, va_up_ne _ _ n305]; exact h967
    have h969 : f516 bp = some (.inl (cI G, 240, .inl (fun _ => 0))) := by rw [ef516, va_up_ne _ _ n309]; exact h968
    have h970 : f519 bp = some (.inl (cI G, 240, .inl (fun _ => 0))) := by rw [ef519, va_up_ne _ _ n305]; exact h969
    have h971 : f522 bp = some (.inl (cI G, 240, .inl (fun _ => 0))) := by rw [ef522, va_up_ne _ _ n309]; exact h970
    have h972 : f525 bp = some (.inl (cI G, 240, .inl (fun _ => 0))) := by rw [ef525, va_up_ne _ _ n305]; exact h971
    have h973 : f528 bp = some (.inl (cI G, 240, .inl (fun _ => 0))) := by rw [ef528, va_up_ne _ _ n309]; exact h972
    have h974 : f562 bp = some (.inl (cI G, 240, .inl (fun _ => 0))) := by rw [e563, va_up_ne _ _ n311]; exact h973
    have h975 : f595 bp = some (.inl (cI G, 240, .inl (fun _ => 0))) := by rw [e596, va_up_ne _ _ n319]; exact h974
    have h976 : f52 bh = some (.inl (cZ G, 240, .inl (fun _ => 0))) := by rw [ef52, va_up_ne _ _ (hnew h337 w51)]; exact h337
    have h977 : f458 bh = some (.inl (cZ G, 240, .inl (fun _ => 0))) := by rw [ef458, va_up_ne _ _ n324]; exact h976
    have h978 : f462 bh = some (.inl (cZ G, 240, .inl (fun _ => 0))) := by rw [ef462, va_up_ne _ _ n328]; exact h977
    have h979 : f465 bh = some (.inl (cZ G, 240, .inl (fun _ => 0))) := by rw [ef465, va_up_ne _ _ n324]; exact h978
    have h980 : f468 bh = some (.inl (cZ G, 240, .inl (fun _ => 0))) := by rw [ef468, va_up_ne _ _ n328]; exact h979
    have h981 : f471 bh = some (.inl (cZ G, 240, .inl (fun _ => 0))) := by rw [ef471, va_up_ne _ _ n324]; exact h980
    have h982 : f474 bh = some (.inl (cZ G, 240, .inl (fun _ => 0))) := by rw [ef474, va_up_ne _ _ n328]; exact h981
    have h983 : f477 bh = some (.inl (cZ G, 240, .inl (fun _ => 0))) := by rw [ef477, va_up_ne _ _ n324]; exact h982
    have h984 : f480 bh = some (.inl (cZ G, 240, .inl (fun _ => 0))) := by rw [ef480, va_up_ne _ _ n328]; exact h983
    have h985 : f483 bh = some (.inl (cZ G, 240, .inl (fun _ => 0))) := by rw [ef483, va_up_ne _ _ n324]; exact h984
    have h986 : f486 bh = some (.inl (cZ G, 240, .inl (fun _ => 0))) := by rw [ef486, va_up_ne _ _ n328]; exact h985
    have h987 : f489 bh = some (.inl (cZ G, 240, .inl (fun _ => 0))) := by rw [ef489, va_up_ne _ _ n324]; exact h986
    have h988 : f492 bh = some (.inl (cZ G, 240, .inl (fun _ => 0))) := by rw [ef492, va_up_ne _ _ n328]; exact h987
    have h989 : f495 bh = some (.inl (cZ G, 240, .inl (fun _ => 0))) := by rw [ef495, va_up_ne _ _ n324]; exact h988
    have h990 : f498 bh = some (.inl (cZ G, 240, .inl (fun _ => 0))) := by rw [ef498, va_up_ne _ _ n328]; exact h989
    have h991 : f501 bh = some (.inl (cZ G, 240, .inl (fun _ => 0))) := by rw [ef501, va_up_ne _ _ n324]; exact h990
    have h992 : f504 bh = some (.inl (cZ G, 240, .inl (fun _ => 0))) := by rw [ef504, va_up_ne _ _ n328]; exact h991
    have h993 : f507 bh = some (.inl (cZ G, 240, .inl (fun _ => 0))) := by rw [ef507, va_up_ne _ _ n324]; exact h992
    have h994 : f510 bh = some (.inl (cZ G, 240, .inl (fun _ => 0))) := by rw [ef510, va_up_ne _ _ n328]; exact h993
    have h995 : f513 bh = some (.inl (cZ G, 240, .inl (fun _ => 0))) := by rw [ef513, va_up_ne _ _ n324]; exact h994
    have h996 : f516 bh = some (.inl (cZ G, 240, .inl (fun _ => 0))) := by rw [ef516, va_up_ne _ _ n328]; exact h995
    have h997 : f519 bh = some (.inl (cZ G, 240, .inl (fun _ => 0))) := by rw [ef519, va_up_ne _ _ n324]; exact h996
    have h998 : f522 bh = some (.inl (cZ G, 240, .inl (fun _ => 0))) := by rw [ef522, va_up_ne _ _ n328]; exact h997
    have h999 : f525 bh = some (.inl (cZ G, 240, .inl (fun _ => 0))) := by rw [ef525, va_up_ne _ _ n324]; exact h998
    have h1000 : f528 bh = some (.inl (cZ G, 240, .inl (fun _ => 0))) := by rw [ef528, va_up_ne _ _ n328]; exact h999
    have h1001 : f562 bh = some (.inl (cZ G, 240, .inl (fun _ => 0))) := by rw [e563, va_up_ne _ _ n330]; exact h1000
    have h1002 : f595 bh = some (.inl (cZ G, 240, .inl (fun _ => 0))) := by rw [e596, va_up_ne _ _ n338]; exact h1001
    have h1003 : f52 bf = some (.inl (cI G, 3, .inl (upd (upd (upd (fun _ => 0) (0 : Int32).toNatClampNeg 0) (1 : Int32).toNatClampNeg 1) (2 : Int32).toNatClampNeg 2))) := by rw [ef52, va_up_ne _ _ (hnew h356 w51)]; exact h356
    have h1004 : f458 bf = some (.inl (cI G, 3, .inl (upd (upd (upd (fun _ => 0) (0 : Int32).toNatClampNeg 0) (1 : Int32).toNatClampNeg 1) (2 : Int32).toNatClampNeg 2))) := by rw [ef458, va_up_ne _ _ n343]; exact h1003
    have h1005 : f462 bf = some (.inl (cI G, 3, .inl (upd (upd (upd (fun _ => 0) (0 : Int32).toNatClampNeg 0) (1 : Int32).toNatClampNeg 1) (2 : Int32).toNatClampNeg 2))) := by rw [ef462, va_up_ne _ _ n347]; exact h1004
    have h1006 : f465 bf = some (.inl (cI G, 3, .inl (upd (upd (upd (fun _ => 0) (0 : Int32).toNatClampNeg 0) (1 : Int32).toNatClampNeg 1) (2 : Int32).toNatClampNeg 2))) := by rw [ef465, va_up_ne _ _ n343]; exact h1005
    have h1007 : f468 bf = some (.inl (cI G, 3, .inl (upd (upd (upd (fun _ => 0) (0 : Int32).toNatClampNeg 0) (1 : Int32).toNatClampNeg 1) (2 : Int32).toNatClampNeg 2))) := by rw [ef468, va_up_ne _ _ n347]; exact h1006
    have h1008 : f471 bf = some (.inl (cI G, 3, .inl (upd (upd (upd (fun _ => 0) (0 : Int32).toNatClampNeg 0) (1 : Int32).toNatClampNeg 1) (2 : Int32).toNatClampNeg 2))) := by rw [ef471, va_up_ne _ _ n343]; exact h1007
    have h1009 : f474 bf = some (.inl (cI G, 3, .inl (upd (upd (upd (fun _ => 0) (0 : Int32).toNatClampNeg 0) (1 : Int32).toNatClampNeg 1) (2 : Int32).toNatClampNeg 2))) := by rw [ef474, va_up_ne _ _ n347]; exact h1008
    have h1010 : f477 bf = some (.inl (cI G, 3, .inl (upd (upd (upd (fun _ => 0) (0 : Int32).toNatClampNeg 0) (1 : Int32).toNatClampNeg 1) (2 : Int32).toNatClampNeg 2))) := by rw [ef477, va_up_ne _ _ n343]; exact h1009
    have h1011 : f480 bf = some (.inl (cI G, 3, .inl (upd (upd (upd (fun _ => 0) (0 : Int32).toNatClampNeg 0) (1 : Int32).toNatClampNeg 1) (2 : Int32).toNatClampNeg 2))) := by rw [ef480, va_up_ne _ _ n347]; exact h1010
    have h1012 : f483 bf = some (.inl (cI G, 3, .inl (upd (upd (upd (fun _ => 0) (0 : Int32).toNatClampNeg 0) (1 : Int32).toNatClampNeg 1) (2 : Int32).toNatClampNeg 2))) := by rw [ef483, va_up_ne _ _ n343]; exact h1011
    have h1013 : f486 bf = some (.inl (cI G, 3, .inl (upd (upd (upd (fun _ => 0) (0 : Int32).toNatClampNeg 0) (1 : Int32).toNatClampNeg 1) (2 : Int32).toNatClampNeg 2))) := by rw [ef486, va_up_ne _ _ n347]; exact h1012
    have h1014 : f489 bf = some (.inl (cI G, 3, .inl (upd (upd (upd (fun _ => 0) (0 : Int32).toNatClampNeg 0) (1 : Int32).toNatClampNeg 1) (2 : Int32).toNatClampNeg 2))) := by rw [ef489, va_up_ne _ _ n343]; exact h1013
    have h1015 : f492 bf = some (.inl (cI G, 3, .inl (upd (upd (upd (fun _ => 0) (0 : Int32).toNatClampNeg 0) (1 : Int32).toNatClampNeg 1) (2 : Int32).toNatClampNeg 2))) := by rw [ef492, va_up_ne _ _ n347]; exact h1014
    have h1016 : f495 bf = some (.inl (cI G, 3, .inl (upd (upd (upd (fun _ => 0) (0 : Int32).toNatClampNeg 0) (1 : Int32).toNatClampNeg 1) (2 : Int32).toNatClampNeg 2))) := by rw [ef495, va_up_ne _ _ n343]; exact h1015
    have h1017 : f498 bf = some (.inl (cI G, 3, .inl (upd (upd (upd (fun _ => 0) (0 : Int32).toNatClampNeg 0) (1 : Int32).toNatClampNeg 1) (2 : Int32).toNatClampNeg 2))) := by rw [ef498, va_up_ne _ _ n347]; exact h1016
    have h1018 : f501 bf = some (.inl (cI G, 3, .inl (upd (upd (upd (fun _ => 0) (0 : Int32).toNatClampNeg 0) (1 : Int32).toNatClampNeg 1) (2 : Int32).toNatClampNeg 2))) := by rw [ef501, va_up_ne _ _ n343]; exact h1017
    have h1019 : f504 bf = some (.inl (cI G, 3, .inl (upd (upd (upd (fun _ => 0) (0 : Int32).toNatClampNeg 0) (1 : Int32).toNatClampNeg 1) (2 : Int32).toNatClampNeg 2))) := by rw [ef504, va_up_ne _ _ n347]; exact h1018
    have h1020 : f507 bf = some (.inl (cI G, 3, .inl (upd (upd (upd (fun _ => 0) (0 : Int32).toNatClampNeg 0) (1 : Int32).toNatClampNeg 1) (2 : Int32).toNatClampNeg 2))) := by rw [ef507, va_up_ne _ _ n343]; exact h1019
    have h1021 : f510 bf = some (.inl (cI G, 3, .inl (upd (upd (upd (fun _ => 0) (0 : Int32).toNatClampNeg 0) (1 : Int32).toNatClampNeg 1) (2 : Int32).toNatClampNeg 2))) := by rw [ef510, va_up_ne _ _ n347]; exact h1020
    have h1022 : f513 bf = some (.inl (cI G, 3, .inl (upd (upd (upd (fun _ => 0) (0 : Int32).toNatClampNeg 0) (1 : Int32).toNatClampNeg 1) (2 : Int32).toNatClampNeg 2))) := by rw [ef513, va_up_ne _ _ n343]; exact h1021
    have h1023 : f516 bf = some (.inl (cI G, 3, .inl (upd (upd (upd (fun _ => 0) (0 : Int32).toNatClampNeg 0) (1 : Int32).toNatClampNeg 1) (2 : Int32).toNatClampNeg 2))) := by rw [ef516, va_up_ne _ _ n347]; exact h1022
    have h1024 : f519 bf = some (.inl (cI G, 3, .inl (upd (upd (upd (fun _ => 0) (0 : Int32).toNatClampNeg 0) (1 : Int32).toNatClampNeg 1) (2 : Int32).toNatClampNeg 2))) := by rw [ef519, va_up_ne _ _ n343]; exact h1023
    have h1025 : f522 bf = some (.inl (cI G, 3, .inl (upd (upd (upd (fun _ => 0) (0 : Int32).toNatClampNeg 0) (1 : Int32).toNatClampNeg 1) (2 : Int32).toNatClampNeg 2))) := by rw [ef522, va_up_ne _ _ n347]; exact h1024
    have h1026 : f525 bf = some (.inl (cI G, 3, .inl (upd (upd (upd (fun _ => 0) (0 : Int32).toNatClampNeg 0) (1 : Int32).toNatClampNeg 1) (2 : Int32).toNatClampNeg 2))) := by rw [ef525, va_up_ne _ _ n343]; exact h1025
    have h1027 : f528 bf = some (.inl (cI G, 3, .inl (upd (upd (upd (fun _ => 0) (0 : Int32).toNatClampNeg 0) (1 : Int32).toNatClampNeg 1) (2 : Int32).toNatClampNeg 2))) := by rw [ef528, va_up_ne _ _ n347]; exact h1026
    have h1028 : f562 bf = some (.inl (cI G, 3, .inl (upd (upd (upd (fun _ => 0) (0 : Int32).toNatClampNeg 0) (1 : Int32).toNatClampNeg 1) (2 : Int32).toNatClampNeg 2))) := by rw [e563, va_up_ne _ _ n349]; exact h1027
    have h1029 : f595 bf = some (.inl (cI G, 3, .inl (upd (upd (upd (fun _ => 0) (0 : Int32).toNatClampNeg 0) (1 : Int32).toNatClampNeg 1) (2 : Int32).toNatClampNeg 2))) := by rw [e596, va_up_ne _ _ n357]; exact h1028
    have h1030 : f52 bl = some (.inl (cI G, 3, .inl (fun j => if j < 3 then (-1) else (fun _ => 0) j))) := by rw [ef52, va_up_ne _ _ (hnew h375 w51)]; exact h375
    have h1031 : f458 bl = some (.inl (cI G, 3, .inl (fun j => if j < 3 then (-1) else (fun _ => 0) j))) := by rw [ef458, va_up_ne _ _ n362]; exact h1030
    have h1032 : f462 bl = some (.inl (cI G, 3, .inl (fun j => if j < 3 then (-1) else (fun _ => 0) j))) := by rw [ef462, va_up_ne _ _ n366]; exact h1031
    have h1033 : f465 bl = some (.inl (cI G, 3, .inl (fun j => if j < 3 then (-1) else (fun _ => 0) j))) := by rw [ef465, va_up_ne _ _ n362]; exact h1032
    have h1034 : f468 bl = some (.inl (cI G, 3, .inl (fun j => if j < 3 then (-1) else (fun _ => 0) j))) := by rw [ef468, va_up_ne _ _ n366]; exact h1033
    have h1035 : f471 bl = some (.inl (cI G, 3, .inl (fun j => if j < 3 then (-1) else (fun _ => 0) j))) := by rw [ef471, va_up_ne _ _ n362]; exact h1034
    have h1036 : f474 bl = some (.inl (cI G, 3, .inl (fun j => if j < 3 then (-1) else (fun _ => 0) j))) := by rw [ef474, va_up_ne _ _ n366]; exact h1035
    have h1037 : f477 bl = some (.inl (cI G, 3, .inl (fun j => if j < 3 then (-1) else (fun _ => 0) j))) := by rw [ef477, va_up_ne _ _ n362]; exact h1036
    have h1038 : f480 bl = some (.inl (cI G, 3, .inl (fun j => if j < 3 then (-1) else (fun _ => 0) j))) := by rw [ef480, va_up_ne _ _ n366]; exact h1037
    have h1039 : f483 bl = some (.inl (cI G, 3, .inl (fun j => if j < 3 then (-1) else (fun _ => 0) j))) := by rw [ef483, va_up_ne _ _ n362]; exact h1038
    have h1040 : f486 bl = some (.inl (cI G, 3, .inl (fun j => if j < 3 then (-1) else (fun _ => 0) j))) := by rw [ef486, va_up_ne _ _ n366]; exact h1039
    have h1041 : f489 bl = some (.inl (cI G, 3, .inl (fun j => if j < 3 then (-1) else (fun _ => 0) j))) := by rw [ef489, va_up_ne _ _ n362]; exact h1040
    have h1042 : f492 bl = some (.inl (cI G, 3, .inl (fun j => if j < 3 then (-1) else (fun _ => 0) j))) := by rw [ef492, va_up_ne _ _ n366]; exact h1041
    have h1043 : f495 bl = some (.inl (cI G, 3, .inl (fun j => if j < 3 then (-1) else (fun _ => 0) j))) := by rw [ef495, va_up_ne _ _ n362]; exact h1042
    have h1044 : f498 bl = some (.inl (cI G, 3, .inl (fun j => if j < 3 then (-1) else (fun _ => 0) j))) := by rw [ef498, va_up_ne _ _ n366]; exact h1043
    have h1045 : f501 bl = some (.inl (cI G, 3, .inl (fun j => if j < 3 then (-1) else (fun _ => 0) j))) := by rw [ef501, va_up_ne _ _ n362]; exact h1044
    have h1046 : f504 bl = some (.inl (cI G, 3, .inl (fun j => if j < 3 then (-1) else (fun _ => 0) j))) := by rw [ef504, va_up_ne _ _ n366]; exact h1045
    have h1047 : f507 bl = some (.inl (cI G, 3, .inl (fun j => if j < 3 then (-1) else (fun _ => 0) j))) := by rw [ef507, va_up_ne _ _ n362]; exact h1046
    have h1048 : f510 bl = some (.inl (cI G, 3, .inl (fun j => if j < 3 then (-1) else (fun _ => 0) j))) := by rw [ef510, va_up_ne _ _ n366]; exact h1047
    have h1049 : f513 bl = some (.inl (cI G, 3, .inl (fun j => if j < 3 then (-1) else (fun _ => 0) j))) := by rw [ef513, va_up_ne _ _ n362]; exact h1048
    have h1050 : f516 bl = some (.inl (cI G, 3, .inl (fun j => if j < 3 then (-1) else (fun _ => 0) j))) := by rw [ef516, va_up_ne _ _ n366]; exact h1049
    have h1051 : f519 bl = some (.inl (cI G, 3, .inl (fun j => if j < 3 then (-1) else (fun _ => 0) j))) := by rw [ef519, va_up_ne _ _ n362]; exact h1050
    have h1052 : f522 bl = some (.inl (cI G, 3, .inl (fun j => if j < 3 then (-1) else (fun _ => 0) j))) := by rw [ef522, va_up_ne _ _ n366]; exact h1051
    have h1053 : f525 bl = some (.inl (cI G, 3, .inl (fun j => if j < 3 then (-1) else (fun _ => 0) j))) := by rw [ef525, va_up_ne _ _ n362]; exact h1052
    have h1054 : f528 bl = some (.inl (cI G, 3, .inl (fun j => if j < 3 then (-1) else (fun _ => 0) j))) := by rw [ef528, va_up_ne _ _ n366]; exact h1053
    have h1055 : f562 bl = some (.inl (cI G, 3, .inl (fun j => if j < 3 then (-1) else (fun _ => 0) j))) := by rw [e563, va_up_ne _ _ n368]; exact h1054
    have h1056 : f595 bl = some (.inl (cI G, 3, .inl (fun j => if j < 3 then (-1) else (fun _ => 0) j))) := by rw [e596, va_up_ne _ _ n376]; exact h1055
    have h1057 : f52 bg = some (.inl (cI G, 60, .inl (fun _ => 0))) := by rw [ef52, va_up_ne _ _ (hnew h394 w51)]; exact h394
    have h1058 : f458 bg = some (.inl (cI G, 60, .inl (fun _ => 0))) := by rw [ef458, va_up_ne _ _ n381]; exact h1057
    have h1059 : f462 bg = some (.inl (cI G, 60, .inl (fun _ => 0))) := by rw [ef462, va_up_ne _ _ n385]; exact h1058
    have h1060 : f465 bg = some (.inl (cI G, 60, .inl (fun _ => 0))) := by rw [ef465, va_up_ne _ _ n381]; exact h1059
    have h1061 : f468 bg = some (.inl (cI G, 60, .inl (fun _ => 0))) := by rw [ef468, va_up_ne _ _ n385]; exact h1060
    have h1062 : f471 bg = some (.inl (cI G, 60, .inl (fun _ => 0))) := by rw [ef471, va_up_ne _ _ n381]; exact h1061
    have h1063 : f474 bg = some (.inl (cI G, 60, .inl (fun _ => 0))) := by rw [ef474, va_up_ne _ _ n385]; exact h1062
    have h1064 : f477 bg = some (.inl (cI G, 60, .inl (fun _ => 0))) := by rw [ef477, va_up_ne _ _ n381]; exact h1063
    have h1065 : f480 bg = some (.inl (cI G, 60, .inl (fun _ => 0))) := by rw [ef480, va_up_ne _ _ n385]; exact h1064
    have h1066 : f483 bg = some (.inl (cI G, 60, .inl (fun _ => 0))) := by rw [ef483, va_up_ne _ _ n381]; exact h1065
    have h1067 : f486 bg = some (.inl (cI G, 60, .inl (fun _ => 0))) := by rw [ef486, va_up_ne _ _ n385]; exact h1066
    have h1068 : f489 bg = some (.inl (cI G, 60, .inl (fun _ => 0))) := by rw [ef489, va_up_ne _ _ n381]; exact h1067
    have h1069 : f492 bg = some (.inl (cI G, 60, .inl (fun _ => 0))) := by rw [ef492, va_up_ne _ _ n385]; exact h1068
    have h1070 : f495 bg = some (.inl (cI G, 60, .inl (fun _ => 0))) := by rw [ef495, va_up_ne _ _ n381]; exact h1069
    have h1071 : f498 bg = some (.inl (cI G, 60, .inl (fun _ => 0))) := by rw [ef498, va_up_ne _ _ n385]; exact h1070
    have h1072 : f501 bg = some (.inl (cI G, 60, .inl (fun _ => 0))) := by rw [ef501, va_up_ne _ _ n381]; exact h1071
    have h1073 : f504 bg = some (.inl (cI G, 60, .inl (fun _ => 0))) := by rw [ef504, va_up_ne _ _ n385]; exact h1072
    have h1074 : f507 bg = some (.inl (cI G, 60, .inl (fun _ => 0))) := by rw [ef507, va_up_ne _ _ n381]; exact h1073
    have h1075 : f510 bg = some (.inl (cI G, 60, .inl (fun _ => 0))) := by rw [ef510, va_up_ne _ _ n385]; exact h1074
    have h1076 : f513 bg = some (.inl (cI G, 60, .inl (fun _ => 0))) := by rw [ef513, va_up_ne _ _ n381]; exact h1075
    have h1077 : f516 bg = some (.inl (cI G, 60, .inl (fun _ => 0))) := by rw [ef516, va_up_ne _ _ n385]; exact h1076
    have h1078 : f519 bg = some (.inl (cI G, 60, .inl (fun _ => 0))) := by rw [ef519, va_up_ne _ _ n381]; exact h1077
    have h1079 : f522 bg = some (.inl (cI G, 60, .inl (fun _ => 0))) := by rw [ef522, va_up_ne _ _ n385]; exact h1078
    have h1080 : f525 bg = some (.inl (cI G, 60, .inl (fun _ => 0))) := by rw [ef525, va_up_ne _ _ n381]; exact h1079
    have h1081 : f528 bg = some (.inl (cI G, 60, .inl (fun _ => 0))) := by rw [ef528, va_up_ne _ _ n385]; exact h1080
    have h1082 : f562 bg = some (.inl (cI G, 60, .inl (fun _ => 0))) := by rw [e563, va_up_ne _ _ n387]; exact h1081
    have h1083 : f595 bg = some (.inl (cI G, 60, .inl (fun _ => 0))) := by rw [e596, va_up_ne _ _ n395]; exact h1082
    have hC0 : CXW G f595 xo ez eo bu nw0 na0 nq0 nr0 nw1 na1 nq1 nr1 bs bp bh bf bl bg S00 S01 N6 (fun _ => 0) N6 (fun _ => 0) 0 0 0 0 (fun _ => 0) (fun _ => 0) fl0 (fun _ => 0) (fun _ => 0) (fun j => if j < 3 then (-1) else (fun _ => 0) j) := ⟨[], [], h624, EX_0 (mg := 1) (by decide) h651 h678 h705, EX_0 (mg := 2) (by decide) h732 h759 h786, h813, h840, h867, h894, h921, h948, h975, h1002, (by rw [← F3_fl]; exact h1029), h1056, h1083, BOK_0, fl0_ok, nd_ez_eo, nd_nr0_nr1, nd_nw0_na0, nd_nw0_nq0, nd_nw0_nw1, nd_nw0_na1, nd_nw0_nq1, nd_na0_nq0, nd_na0_nw1, nd_na0_na1, nd_na0_nq1, nd_nq0_nw1, nd_nq0_na1, nd_nq0_nq1, nd_nw1_na1, nd_nw1_nq1, nd_na1_nq1, nd_bh_bp, nd_bf_bl, (fun c9 h9 => (nomatch h9)), (fun c9 h9 => absurd h9 List.not_mem_nil)⟩
    have h1084 : f562 lq = some (.inl (cI G, 12, .inl (mAk 12))) := by rw [e563, va_up_ne _ _ n534]; exact h529
    have h1085 : f595 lq = some (.inl (cI G, 12, .inl (mAk 12))) := by rw [e596, va_up_ne _ _ n445]; exact h1084
    have k_lq : f595 lq = some (.inl (cI G, 12, .inl (j6 N6 N6))) := by rw [← mAk_12]; exact h1085
    have h1086 : f528 lw = some (.inl (cI G, 12, .inl (mAk 12))) := by rw [ef528, va_up_ne _ _ n455]; exact h526
    have h1087 : f562 lw = some (.inl (cI G, 12, .inl (mAk 12))) := by rw [e563, va_up_ne _ _ n532]; exact h1086
    have h1088 : f595 lw = some (.inl (cI G, 12, .inl (mAk 12))) := by rw [e596, va_up_ne _ _ n428]; exact h1087
    have k_lw : f595 lw = some (.inl (cI G, 12, .inl (j6 N6 N6))) := by rw [← mAk_12]; exact h1088
    have h1089 : f52 la = some (.inl (cI G, 12, .inl (fun _ => 0))) := by rw [ef52, va_up_ne _ _ (hnew h436 w51)]; exact h436
    have h1090 : f458 la = some (.inl (cI G, 12, .inl (fun _ => 0))) := by rw [ef458, va_up_ne _ _ (Ne.symm n454)]; exact h1089
    have h1091 : f462 la = some (.inl (cI G, 12, .inl (fun _ => 0))) := by rw [ef462, va_up_ne _ _ n456]; exact h1090
    have h1092 : f465 la = some (.inl (cI G, 12, .inl (fun _ => 0))) := by rw [ef465, va_up_ne _ _ (Ne.symm n454)]; exact h1091
    have h1093 : f468 la = some (.inl (cI G, 12, .inl (fun _ => 0))) := by rw [ef468, va_up_ne _ _ n456]; exact h1092
    have h1094 : f471 la = some (.inl (cI G, 12, .inl (fun _ => 0))) := by rw [ef471, va_up_ne _ _ (Ne.symm n454)]; exact h1093
    have h1095 : f474 la = some (.inl (cI G, 12, .inl (fun _ => 0))) := by rw [ef474, va_up_ne _ _ n456]; exact h1094
    have h1096 : f477 la = some (.inl (cI G, 12, .inl (fun _ => 0))) := by rw [ef477, va_up_ne _ _ (Ne.symm n454)]; exact h1095
    have h1097 : f480 la = some (.inl (cI G, 12, .inl (fun _ => 0))) := by rw [ef480, va_up_ne _ _ n456]; exact h1096
    have h1098 : f483 la = some (.inl (cI G, 12, .inl (fun _ => 0))) := by rw [ef483, va_up_ne _ _ (Ne.symm n454)]; exact h1097
    have h1099 : f486 la = some (.inl (cI G, 12, .inl (fun _ => 0))) := by rw [ef486, va_up_ne _ _ n456]; exact h1098
    have h1100 : f489 la = some (.inl (cI G, 12, .inl (fun _ => 0))) := by rw [ef489, va_up_ne _ _ (Ne.symm n454)]; exact h1099
    have h1101 : f492 la = some (.inl (cI G, 12, .inl (fun _ => 0))) := by rw [ef492, va_up_ne _ _ n456]; exact h1100
    have h1102 : f495 la = some (.inl (cI G, 12, .inl (fun _ => 0))) := by rw [ef495, va_up_ne _ _ (Ne.symm n454)]; exact h1101
    have h1103 : f498 la = some (.inl (cI G, 12, .inl (fun _ => 0))) := by rw [ef498, va_up_ne _ _ n456]; exact h1102
    have h1104 : f501 la = some (.inl (cI G, 12, .inl (fun _ => 0))) := by rw [ef501, va_up_ne _ _ (Ne.symm n454)]; exact h1103
    have h1105 : f504 la = some (.inl (cI G, 12, .inl (fun _ => 0))) := by rw [ef504, va_up_ne _ _ n456]; exact h1104
    have h1106 : f507 la = some (.inl (cI G, 12, .inl (fun _ => 0))) := by rw [ef507, va_up_ne _ _ (Ne.symm n454)]; exact h1105
    have h1107 : f510 la = some (.inl (cI G, 12, .inl (fun _ => 0))) := by rw [ef510, va_up_ne _ _ n456]; exact h1106
    have h1108 : f513 la = some (.inl (cI G, 12, .inl (fun _ => 0))) := by rw [ef513, va_up_ne _ _ (Ne.symm n454)]; exact h1107
    have h1109 : f516 la = some (.inl (cI G, 12, .inl (fun _ => 0))) := by rw [ef516, va_up_ne _ _ n456]; exact h1108
    have h1110 : f519 la = some (.inl (cI G, 12, .inl (fun _ => 0))) := by rw [ef519, va_up_ne _ _ (Ne.symm n454)]; exact h1109
    have h1111 : f522 la = some (.inl (cI G, 12, .inl (fun _ => 0))) := by rw [ef522, va_up_ne _ _ n456]; exact h1110
    have h1112 : f525 la = some (.inl (cI G, 12, .inl (fun _ => 0))) := by rw [ef525, va_up_ne _ _ (Ne.symm n454)]; exact h1111
    have h1113 : f528 la = some (.inl (cI G, 12, .inl (fun _ => 0))) := by rw [ef528, va_up_ne _ _ n456]; exact h1112
    have n1115 : la ≠ le := hnew h429 w39
    have h1114 : f562 la = some (.inl (cI G, 12, .inl (fun _ => 0))) := by rw [e563, va_up_ne _ _ n1115]; exact h1113
    have h1116 : f595 la = some (.inl (cI G, 12, .inl (fun _ => 0))) := by rw [e596, va_up_ne _ _ n437]; exact h1114
    have k_la : f595 la = some (.inl (cI G, 12, .inl (j6 (fun _ => 0) (fun _ => 0)))) := by rw [← j6_zero]; exact h1116
    have h1117 : f595 le = some (.inl (cI G, 16, .inl (upd (upd (upd (fun _ => 0) (1 : Int32).toNatClampNeg (-1)) (9 : Int32).toNatClampNeg (-1)) (14 : Int32).toNatClampNeg 1))) := by rw [e596, va_up_ne _ _ n452]; exact h564
    have k_le : f595 le = some (.inl (cI G, 16, .inl (jE (eS S00) (eS S01)))) := by rw [← le_0]; exact h1117
    have k_lg : f595 lg = some (.inl (cI G, 10, .inl (g10 (fun _ => 0) (fun j => if j < 3 then (-1) else (fun _ => 0) j) 0 0 0 0))) := by rw [← lg_0]; exact h597
    have h1118 : f52 lx = some (.inl (cJ G, 64, .inr (.inl (fun _ => 0)))) := by rw [ef52, va_up_ne _ _ (hnew h406 w51)]; exact h406
    have n1120 : lx ≠ lw := hnew h396 w30
    have h1119 : f458 lx = some (.inl (cJ G, 64, .inr (.inl (fun _ => 0)))) := by rw [ef458, va_up_ne _ _ n1120]; exact h1118
    have n1122 : lx ≠ lq := hnew h398 w36
    have h1121 : f462 lx = some (.inl (cJ G, 64, .inr (.inl (fun _ => 0)))) := by rw [ef462, va_up_ne _ _ n1122]; exact h1119
    have h1123 : f465 lx = some (.inl (cJ G, 64, .inr (.inl (fun _ => 0)))) := by rw [ef465, va_up_ne _ _ n1120]; exact h1121
    have h1124 : f468 lx = some (.inl (cJ G, 64, .inr (.inl (fun _ => 0)))) := by rw [ef468, va_up_ne _ _ n1122]; exact h1123
    have h1125 : f471 lx = some (.inl (cJ G, 64, .inr (.inl (fun _ => 0)))) := by rw [ef471, va_up_ne _ _ n1120]; exact h1124
    have h1126 : f474 lx = some (.inl (cJ G, 64, .inr (.inl (fun _ => 0)))) := by rw [ef474, va_up_ne _ _ n1122]; exact h1125
    have h1127 : f477 lx = some (.inl (cJ G, 64, .inr (.inl (fun _ => 0)))) := by rw [ef477, va_up_ne _ _ n1120]; exact h1126
    have h1128 : f480 lx = some (.inl (cJ G, 64, .inr (.inl (fun _ => 0)))) := by rw [ef480, va_up_ne _ _ n1122]; exact h1127
    have h1129 : f483 lx = some (.inl (cJ G, 64, .inr (.inl (fun _ => 0)))) := by rw [ef483, va_up_ne _ _ n1120]; exact h1128
    have h1130 : f486 lx = some (.inl (cJ G, 64, .inr (.inl (fun _ => 0)))) := by rw [ef486, va_up_ne _ _ n1122]; exact h1129
    have h1131 : f489 lx = some (.inl (cJ G, 64, .inr (.inl (fun _ => 0)))) := by rw [ef489, va_up_ne _ _ n1120]; exact h1130
    have h1132 : f492 lx = some (.inl (cJ G, 64, .inr (.inl (fun _ => 0)))) := by rw [ef492, va_up_ne _ _ n1122]; exact h1131
    have h1133 : f495 lx = some (.inl (cJ G, 64, .inr (.inl (fun _ => 0)))) := by rw [ef495, va_up_ne _ _ n1120]; exact h1132
    have h1134 : f498 lx = some (.inl (cJ G, 64, .inr (.inl (fun _ => 0)))) := by rw [ef498, va_up_ne _ _ n1122]; exact h1133
    have h1135 : f501 lx = some (.inl (cJ G, 64, .inr (.inl (fun _ => 0)))) := by rw [ef501, va_up_ne _ _ n1120]; exact h1134
    have h1136 : f504 lx = some (.inl (cJ G, 64, .inr (.inl (fun _ => 0)))) := by rw [ef504, va_up_ne _ _ n1122]; exact h1135
    have h1137 : f507 lx = some (.inl (cJ G, 64, .inr (.inl (fun _ => 0)))) := by rw [ef507, va_up_ne _ _ n1120]; exact h1136
    have h1138 : f510 lx = some (.inl (cJ G, 64, .inr (.inl (fun _ => 0)))) := by rw [ef510, va_up_ne _ _ n1122]; exact h1137
    have h1139 : f513 lx = some (.inl (cJ G, 64, .inr (.inl (fun _ => 0)))) := by rw [ef513, va_up_ne _ _ n1120]; exact h1138
    have h1140 : f516 lx = some (.inl (cJ G, 64, .inr (.inl (fun _ => 0)))) := by rw [ef516, va_up_ne _ _ n1122]; exact h1139
    have h1141 : f519 lx = some (.inl (cJ G, 64, .inr (.inl (fun _ => 0)))) := by rw [ef519, va_up_ne _ _ n1120]; exact h1140
    have h1142 : f522 lx = some (.inl (cJ G, 64, .inr (.inl (fun _ => 0)))) := by rw [ef522, va_up_ne _ _ n1122]; exact h1141
    have h1143 : f525 lx = some (.inl (cJ G, 64, .inr (.inl (fun _ => 0)))) := by rw [ef525, va_up_ne _ _ n1120]; exact h1142
    have h1144 : f528 lx = some (.inl (cJ G, 64, .inr (.inl (fun _ => 0)))) := by rw [ef528, va_up_ne _ _ n1122]; exact h1143
    have n1146 : lx ≠ le := hnew h399 w39
    have h1145 : f562 lx = some (.inl (cJ G, 64, .inr (.inl (fun _ => 0)))) := by rw [e563, va_up_ne _ _ n1146]; exact h1144
    have h1147 : f595 lx = some (.inl (cJ G, 64, .inr (.inl (fun _ => 0)))) := by rw [e596, va_up_ne _ _ n407]; exact h1145
    have h1148 : f52 ly = some (.inl (cJ G, 64, .inr (.inl (fun _ => 0)))) := by rw [ef52, va_up_ne _ _ (hnew h417 w51)]; exact h417
    have n1150 : ly ≠ lw := hnew h29 w30
    have h1149 : f458 ly = some (.inl (cJ G, 64, .inr (.inl (fun _ => 0)))) := by rw [ef458, va_up_ne _ _ n1150]; exact h1148
    have n1152 : ly ≠ lq := hnew h409 w36
    have h1151 : f462 ly = some (.inl (cJ G, 64, .inr (.inl (fun _ => 0)))) := by rw [ef462, va_up_ne _ _ n1152]; exact h1149
    have h1153 : f465 ly = some (.inl (cJ G, 64, .inr (.inl (fun _ => 0)))) := by rw [ef465, va_up_ne _ _ n1150]; exact h1151
    have h1154 : f468 ly = some (.inl (cJ G, 64, .inr (.inl (fun _ => 0)))) := by rw [ef468, va_up_ne _ _ n1152]; exact h1153
    have h1155 : f471 ly = some (.inl (cJ G, 64, .inr (.inl (fun _ => 0)))) := by rw [ef471, va_up_ne _ _ n1150]; exact h1154
    have h1156 : f474 ly = some (.inl (cJ G, 64, .inr (.inl (fun _ => 0)))) := by rw [ef474, va_up_ne _ _ n1152]; exact h1155
    have h1157 : f477 ly = some (.inl (cJ G, 64, .inr (.inl (fun _ => 0)))) := by rw [ef477, va_up_ne _ _ n1150]; exact h1156
    have h1158 : f480 ly = some (.inl (cJ G, 64, .inr (.inl (fun _ => 0)))) := by rw [ef480, va_up_ne _ _ n1152]; exact h1157
    have h1159 : f483 ly = some (.inl (cJ G, 64, .inr (.inl (fun _ => 0)))) := by rw [ef483, va_up_ne _ _ n1150]; exact h1158
    have h1160 : f486 ly = some (.inl (cJ G, 64, .inr (.inl (fun _ => 0)))) := by rw [ef486, va_up_ne _ _ n1152]; exact h1159
    have h1161 : f489 ly = some (.inl (cJ G, 64, .inr (.inl (fun _ => 0)))) := by rw [ef489, va_up_ne _ _ n1150]; exact h1160
    have h1162 : f492 ly = some (.inl (cJ G, 64, .inr (.inl (fun _ => 0)))) := by rw [ef492, va_up_ne _ _ n1152]; exact h1161
    have h1163 : f495 ly = some (.inl (cJ G, 64, .inr (.inl (fun _ => 0)))) := by rw [ef495, va_up_ne _ _ n1150]; exact h1162
    have h1164 : f498 ly = some (.inl (cJ G, 64, .inr (.inl (fun _ => 0)))) := by rw [ef498, va_up_ne _ _ n1152]; exact h1163
    have h1165 : f501 ly = some (.inl (cJ G, 64, .inr (.inl (fun _ => 0)))) := by rw [ef501, va_up_ne _ _ n1150]; exact h1164
    have h1166 : f504 ly = some (.inl (cJ G, 64, .inr (.inl (fun _ => 0)))) := by rw [ef504, va_up_ne _ _ n1152]; exact h1165
    have h1167 : f507 ly = some (.inl (cJ G, 64, .inr (.inl (fun _ => 0)))) := by rw [ef507, va_up_ne _ _ n1150]; exact h1166
    have h1168 : f510 ly = some (.inl (cJ G, 64, .inr (.inl (fun _ => 0)))) := by rw [ef510, va_up_ne _ _ n1152]; exact h1167
    have h1169 : f513 ly = some (.inl (cJ G, 64, .inr (.inl (fun _ => 0)))) := by rw [ef513, va_up_ne _ _ n1150]; exact h1168
    have h1170 : f516 ly = some (.inl (cJ G, 64, .inr (.inl (fun _ => 0)))) := by rw [ef516, va_up_ne _ _ n1152]; exact h1169
    have h1171 : f519 ly = some (.inl (cJ G, 64, .inr (.inl (fun _ => 0)))) := by rw [ef519, va_up_ne _ _ n1150]; exact h1170
    have h1172 : f522 ly = some (.inl (cJ G, 64, .inr (.inl (fun _ => 0)))) := by rw [ef522, va_up_ne _ _ n1152]; exact h1171
    have h1173 : f525 ly = some (.inl (cJ G, 64, .inr (.inl (fun _ => 0)))) := by rw [ef525, va_up_ne _ _ n1150]; exact h1172
    have h1174 : f528 ly = some (.inl (cJ G, 64, .inr (.inl (fun _ => 0)))) := by rw [ef528, va_up_ne _ _ n1152]; exact h1173
    have n1176 : ly ≠ le := hnew h410 w39
    have h1175 : f562 ly = some (.inl (cJ G, 64, .inr (.inl (fun _ => 0)))) := by rw [e563, va_up_ne _ _ n1176]; exact h1174
    have h1177 : f595 ly = some (.inl (cJ G, 64, .inr (.inl (fun _ => 0)))) := by rw [e596, va_up_ne _ _ n418]; exact h1175
    have hLX0 : LX G f595 lx ly lw la lq le S00 S01 N6 (fun _ => 0) N6 (fun _ => 0) := ⟨⟨_, h1147, XS_0⟩, ⟨_, h1177, XS_0⟩, k_lw, k_la, k_lq, k_le⟩
    have h1178 : f46 lb = some (.inl (cI G, 64, .inl (fun _ => 0))) := by rw [ef46, va_up_ne _ _ (hnew h44 w45)]; exact h44
    have h1179 : f49 lb = some (.inl (cI G, 64, .inl (fun _ => 0))) := by rw [ef49, va_up_ne _ _ (hnew h1178 w48)]; exact h1178
    have h1180 : f52 lb = some (.inl (cI G, 64, .inl (fun _ => 0))) := by rw [ef52, va_up_ne _ _ (hnew h1179 w51)]; exact h1179
    have h1181 : f458 lb = some (.inl (cI G, 64, .inl (fun _ => 0))) := by rw [ef458, va_up_ne _ _ (Ne.symm n422)]; exact h1180
    have h1182 : f462 lb = some (.inl (cI G, 64, .inl (fun _ => 0))) := by rw [ef462, va_up_ne _ _ (Ne.symm n439)]; exact h1181
    have h1183 : f465 lb = some (.inl (cI G, 64, .inl (fun _ => 0))) := by rw [ef465, va_up_ne _ _ (Ne.symm n422)]; exact h1182
    have h1184 : f468 lb = some (.inl (cI G, 64, .inl (fun _ => 0))) := by rw [ef468, va_up_ne _ _ (Ne.symm n439)]; exact h1183
    have h1185 : f471 lb = some (.inl (cI G, 64, .inl (fun _ => 0))) := by rw [ef471, va_up_ne _ _ (Ne.symm n422)]; exact h1184
    have h1186 : f474 lb = some (.inl (cI G, 64, .inl (fun _ => 0))) := by rw [ef474, va_up_ne _ _ (Ne.symm n439)]; exact h1185
    have h1187 : f477 lb = some (.inl (cI G, 64, .inl (fun _ => 0))) := by rw [ef477, va_up_ne _ _ (Ne.symm n422)]; exact h1186
    have h1188 : f480 lb = some (.inl (cI G, 64, .inl (fun _ => 0))) := by rw [ef480, va_up_ne _ _ (Ne.symm n439)]; exact h1187
    have h1189 : f483 lb = some (.inl (cI G, 64, .inl (fun _ => 0))) := by rw [ef483, va_up_ne _ _ (Ne.symm n422)]; exact h1188
    have h1190 : f486 lb = some (.inl (cI G, 64, .inl (fun _ => 0))) := by rw [ef486, va_up_ne _ _ (Ne.symm n439)]; exact h1189
    have h1191 : f489 lb = some (.inl (cI G, 64, .inl (fun _ => 0))) := by rw [ef489, va_up_ne _ _ (Ne.symm n422)]; exact h1190
    have h1192 : f492 lb = some (.inl (cI G, 64, .inl (fun _ => 0))) := by rw [ef492, va_up_ne _ _ (Ne.symm n439)]; exact h1191
    have h1193 : f495 lb = some (.inl (cI G, 64, .inl (fun _ => 0))) := by rw [ef495, va_up_ne _ _ (Ne.symm n422)]; exact h1192
    have h1194 : f498 lb = some (.inl (cI G, 64, .inl (fun _ => 0))) := by rw [ef498, va_up_ne _ _ (Ne.symm n439)]; exact h1193
    have h1195 : f501 lb = some (.inl (cI G, 64, .inl (fun _ => 0))) := by rw [ef501, va_up_ne _ _ (Ne.symm n422)]; exact h1194
    have h1196 : f504 lb = some (.inl (cI G, 64, .inl (fun _ => 0))) := by rw [ef504, va_up_ne _ _ (Ne.symm n439)]; exact h1195
    have h1197 : f507 lb = some (.inl (cI G, 64, .inl (fun _ => 0))) := by rw [ef507, va_up_ne _ _ (Ne.symm n422)]; exact h1196
    have h1198 : f510 lb = some (.inl (cI G, 64, .inl (fun _ => 0))) := by rw [ef510, va_up_ne _ _ (Ne.symm n439)]; exact h1197
    have h1199 : f513 lb = some (.inl (cI G, 64, .inl (fun _ => 0))) := by rw [ef513, va_up_ne _ _ (Ne.symm n422)]; exact h1198
    have h1200 : f516 lb = some (.inl (cI G, 64, .inl (fun _ => 0))) := by rw [ef516, va_up_ne _ _ (Ne.symm n439)]; exact h1199
    have h1201 : f519 lb = some (.inl (cI G, 64, .inl (fun _ => 0))) := by rw [ef519, va_up_ne _ _ (Ne.symm n422)]; exact h1200
    have h1202 : f522 lb = some (.inl (cI G, 64, .inl (fun _ => 0))) := by rw [ef522, va_up_ne _ _ (Ne.symm n439)]; exact h1201
    have h1203 : f525 lb = some (.inl (cI G, 64, .inl (fun _ => 0))) := by rw [ef525, va_up_ne _ _ (Ne.symm n422)]; exact h1202
    have h1204 : f528 lb = some (.inl (cI G, 64, .inl (fun _ => 0))) := by rw [ef528, va_up_ne _ _ (Ne.symm n439)]; exact h1203
    have h1205 : f562 lb = some (.inl (cI G, 64, .inl (fun _ => 0))) := by rw [e563, va_up_ne _ _ (Ne.symm n446)]; exact h1204
    have n1207 : lb ≠ lg := hnew h1179 w51
    have h1206 : f595 lb = some (.inl (cI G, 64, .inl (fun _ => 0))) := by rw [e596, va_up_ne _ _ n1207]; exact h1205
    have h1208 : f49 lh = some (.inl (cJ G, 1, .inr (.inl (fun _ => 0)))) := by rw [ef49, va_up_ne _ _ (hnew h47 w48)]; exact h47
    have h1209 : f52 lh = some (.inl (cJ G, 1, .inr (.inl (fun _ => 0)))) := by rw [ef52, va_up_ne _ _ (hnew h1208 w51)]; exact h1208
    have h1210 : f458 lh = some (.inl (cJ G, 1, .inr (.inl (fun _ => 0)))) := by rw [ef458, va_up_ne _ _ (Ne.symm n424)]; exact h1209
    have h1211 : f462 lh = some (.inl (cJ G, 1, .inr (.inl (fun _ => 0)))) := by rw [ef462, va_up_ne _ _ (Ne.symm n441)]; exact h1210
    have h1212 : f465 lh = some (.inl (cJ G, 1, .inr (.inl (fun _ => 0)))) := by rw [ef465, va_up_ne _ _ (Ne.symm n424)]; exact h1211
    have h1213 : f468 lh = some (.inl (cJ G, 1, .inr (.inl (fun _ => 0)))) := by rw [ef468, va_up_ne _ _ (Ne.symm n441)]; exact h1212
    have h1214 : f471 lh = some (.inl (cJ G, 1, .inr (.inl (fun _ => 0)))) := by rw [ef471, va_up_ne _ _ (Ne.symm n424)]; exact h1213
    have h1215 : f474 lh = some (.inl (cJ G, 1, .inr (.inl (fun _ => 0)))) := by rw [ef474, va_up_ne _ _ (Ne.symm n441)]; exact h1214
    have h1216 : f477 lh = some (.inl (cJ G, 1, .inr (.inl (fun _ => 0)))) := by rw [ef477, va_up_ne _ _ (Ne.symm n424)]; exact h1215
    have h1217 : f480 lh = some (.inl (cJ G, 1, .inr (.inl (fun _ => 0)))) := by rw [ef480, va_up_ne _ _ (Ne.symm n441)]; exact h1216
    have h1218 : f483 lh = some (.inl (cJ G, 1, .inr (.inl (fun _ => 0)))) := by rw [ef483, va_up_ne _ _ (Ne.symm n424)]; exact h1217
    have h1219 : f486 lh = some (.inl (cJ G, 1, .inr (.inl (fun _ => 0)))) := by rw [ef486, va_up_ne _ _ (Ne.symm n441)]; exact h1218
    have h1220 : f489 lh = some (.inl (cJ G, 1, .inr (.inl (fun _ => 0)))) := by rw [ef489, va_up_ne _ _ (Ne.symm n424)]; exact h1219
    have h1221 : f492 lh = some (.inl (cJ G, 1, .inr (.inl (fun _ => 0)))) := by rw [ef492, va_up_ne _ _ (Ne.symm n441)]; exact h1220
    have h1222 : f495 lh = some (.inl (cJ G, 1, .inr (.inl (fun _ => 0)))) := by rw [ef495, va_up_ne _ _ (Ne.symm n424)]; exact h1221
    have h1223 : f498 lh = some (.inl (cJ G, 1, .inr (.inl (fun _ => 0)))) := by rw [ef498, va_up_ne _ _ (Ne.symm n441)]; exact h1222
    have h1224 : f501 lh = some (.inl (cJ G, 1, .inr (.inl (fun _ => 0)))) := by rw [ef501, va_up_ne _ _ (Ne.symm n424)]; exact h1223
    have h1225 : f504 lh = some (.inl (cJ G, 1, .inr (.inl (fun _ => 0)))) := by rw [ef504, va_up_ne _ _ (Ne.symm n441)]; exact h1224
    have h1226 : f507 lh = some (.inl (cJ G, 1, .inr (.inl (fun _ => 0)))) := by rw [ef507, va_up_ne _ _ (Ne.symm n424)]; exact h1225
    have h1227 : f510 lh = some (.inl (cJ G, 1, .inr (.inl (fun _ => 0)))) := by rw [ef510, va_up_ne _ _ (Ne.symm n441)]; exact h1226
    have h1228 : f513 lh = some (.inl (cJ G, 1, .inr (.inl (fun _ => 0)))) := by rw [ef513, va_up_ne _ _ (Ne.symm n424)]; exact h1227
    have h1229 : f516 lh = some (.inl (cJ G, 1, .inr (.inl (fun _ => 0)))) := by rw [ef516, va_up_ne _ _ (Ne.symm n441)]; exact h1228
    have h1230 : f519 lh = some (.inl (cJ G, 1, .inr (.inl (fun _ => 0)))) := by rw [ef519, va_up_ne _ _ (Ne.symm n424)]; exact h1229
    have h1231 : f522 lh = some (.inl (cJ G, 1, .inr (.inl (fun _ => 0)))) := by rw [ef522, va_up_ne _ _ (Ne.symm n441)]; exact h1230
    have h1232 : f525 lh = some (.inl (cJ G, 1, .inr (.inl (fun _ => 0)))) := by rw [ef525, va_up_ne _ _ (Ne.symm n424)]; exact h1231
    have h1233 : f528 lh = some (.inl (cJ G, 1, .inr (.inl (fun _ => 0)))) := by rw [ef528, va_up_ne _ _ (Ne.symm n441)]; exact h1232
    have h1234 : f562 lh = some (.inl (cJ G, 1, .inr (.inl (fun _ => 0)))) := by rw [e563, va_up_ne _ _ (Ne.symm n448)]; exact h1233
    have n1236 : lh ≠ lg := hnew h1208 w51
    have h1235 : f595 lh = some (.inl (cJ G, 1, .inr (.inl (fun _ => 0)))) := by rw [e596, va_up_ne _ _ n1236]; exact h1234
    have h1237 : f52 lr = some (.inl (cI G, 60, .inl (fun _ => 0))) := by rw [ef52, va_up_ne _ _ (hnew h50 w51)]; exact h50
    have h1238 : f458 lr = some (.inl (cI G, 60, .inl (fun _ => 0))) := by rw [ef458, va_up_ne _ _ (Ne.symm n426)]; exact h1237
    have h1239 : f462 lr = some (.inl (cI G, 60, .inl (fun _ => 0))) := by rw [ef462, va_up_ne _ _ (Ne.symm n443)]; exact h1238
    have h1240 : f465 lr = some (.inl (cI G, 60, .inl (fun _ => 0))) := by rw [ef465, va_up_ne _ _ (Ne.symm n426)]; exact h1239
    have h1241 : f468 lr = some (.inl (cI G, 60, .inl (fun _ => 0))) := by rw [ef468, va_up_ne _ _ (Ne.symm n443)]; exact h1240
    have h1242 : f471 lr = some (.inl (cI G, 60, .inl (fun _ => 0))) := by rw [ef471, va_up_ne _ _ (Ne.symm n426)]; exact h1241
    have h1243 : f474 lr = some (.inl (cI G, 60, .inl (fun _ => 0))) := by rw [ef474, va_up_ne _ _ (Ne.symm n443)]; exact h1242
    have h1244 : f477 lr = some (.inl (cI G, 60, .inl (fun _ => 0))) := by rw [ef477, va_up_ne _ _ (Ne.symm n426)]; exact h1243
    have h1245 : f480 lr = some (.inl (cI G, 60, .inl (fun _ => 0))) := by rw [ef480, va_up_ne _ _ (Ne.symm n443)]; exact h1244
    have h1246 : f483 lr = some (.inl (cI G, 60, .inl (fun _ => 0))) := by rw [ef483, va_up_ne _ _ (Ne.symm n426)]; exact h1245
    have h1247 : f486 lr = some (.inl (cI G, 60, .inl (fun _ => 0))) := by rw [ef486, va_up_ne _ _ (Ne.symm n443)]; exact h1246
    have h1248 : f489 lr = some (.inl (cI G, 60, .inl (fun _ => 0))) := by rw [ef489, va_up_ne _ _ (Ne.symm n426)]; exact h1247
    have h1249 : f492 lr = some (.inl (cI G, 60, .inl (fun _ => 0))) := by rw [ef492, va_up_ne _ _ (Ne.symm n443)]; exact h1248
    have h1250 : f495 lr = some (.inl (cI G, 60, .inl (fun _ => 0))) := by rw [ef495, va_up_ne _ _ (Ne.symm n426)]; exact h1249
    have h1251 : f498 lr = some (.inl (cI G, 60, .inl (fun _ => 0))) := by rw [ef498, va_up_ne _ _ (Ne.symm n443)]; exact h1250
    have h1252 : f501 lr = some (.inl (cI G, 60, .inl (fun _ => 0))) := by rw [ef501, va_up_ne _ _ (Ne.symm n426)]; exact h1251
    have h1253 : f504 lr = some (.inl (cI G, 60, .inl (fun _ => 0))) := by rw [ef504, va_up_ne _ _ (Ne.symm n443)]; exact h1252
    have h1254 : f507 lr = some (.inl (cI G, 60, .inl (fun _ => 0))) := by rw [ef507, va_up_ne _ _ (Ne.symm n426)]; exact h1253
    have h1255 : f510 lr = some (.inl (cI G, 60, .inl (fun _ => 0))) := by rw [ef510, va_up_ne _ _ (Ne.symm n443)]; exact h1254
    have h1256 : f513 lr = some (.inl (cI G, 60, .inl (fun _ => 0))) := by rw [ef513, va_up_ne _ _ (Ne.symm n426)]; exact h1255
    have h1257 : f516 lr = some (.inl (cI G, 60, .inl (fun _ => 0))) := by rw [ef516, va_up_ne _ _ (Ne.symm n443)]; exact h1256
    have h1258 : f519 lr = some (.inl (cI G, 60, .inl (fun _ => 0))) := by rw [ef519, va_up_ne _ _ (Ne.symm n426)]; exact h1257
    have h1259 : f522 lr = some (.inl (cI G, 60, .inl (fun _ => 0))) := by rw [ef522, va_up_ne _ _ (Ne.symm n443)]; exact h1258
    have h1260 : f525 lr = some (.inl (cI G, 60, .inl (fun _ => 0))) := by rw [ef525, va_up_ne _ _ (Ne.symm n426)]; exact h1259
    have h1261 : f528 lr = some (.inl (cI G, 60, .inl (fun _ => 0))) := by rw [ef528, va_up_ne _ _ (Ne.symm n443)]; exact h1260
    have h1262 : f562 lr = some (.inl (cI G, 60, .inl (fun _ => 0))) := by rw [e563, va_up_ne _ _ (Ne.symm n450)]; exact h1261
    have n1264 : lr ≠ lg := hnew h50 w51
    have h1263 : f595 lr = some (.inl (cI G, 60, .inl (fun _ => 0))) := by rw [e596, va_up_ne _ _ n1264]; exact h1262
    have hLB0 : LBX G f595 lb lh lr lg 0 0 0 0 (fun _ => 0) fl0 (fun _ => 0) (fun _ => 0) (fun j => if j < 3 then (-1) else (fun _ => 0) j) := ⟨h1206, ⟨_, 0, h1235, rfl, HB_0⟩, h1263, (fun _ => 0), k_lg, fl0_tk⟩
    refine hp_S (As := [.ref xo, .ref lq, .ref le, .ref lr, .ref lg]) (rest := []) B0 hw hS (c_L_isTold hl G f595 xo ez eo bu nw0 na0 nq0 nr0 nw1 na1 nq1 nr1 bs bp bh bf bl bg S00 S01 N6 (fun _ => 0) N6 (fun _ => 0) 0 0 0 0 (fun _ => 0) (fun _ => 0) fl0 (fun _ => 0) (fun _ => 0) (fun j => if j < 3 then (-1) else (fun _ => 0) j) hC0 lq le lr lg (fun p9 hp9 h9 => hdis p9 hp9 ((sub_cons (List.mem_cons_of_mem _ (List.mem_cons_of_mem _ (List.mem_cons_of_mem _ (List.mem_cons_of_mem _ List.mem_cons_self)))) (sub_cons (List.mem_cons_of_mem _ (List.mem_cons_of_mem _ (List.mem_cons_of_mem _ (List.mem_cons_of_mem _ (List.mem_cons_of_mem _ List.mem_cons_self))))) (sub_cons (List.mem_cons_of_mem _ (List.mem_cons_of_mem _ (List.mem_cons_of_mem _ (List.mem_cons_of_mem _ (List.mem_cons_of_mem _ (List.mem_cons_of_mem _ (List.mem_cons_of_mem _ (List.mem_cons_of_mem _ List.mem_cons_self)))))))) (sub_cons (List.mem_cons_of_mem _ (List.mem_cons_of_mem _ (List.mem_cons_of_mem _ (List.mem_cons_of_mem _ (List.mem_cons_of_mem _ (List.mem_cons_of_mem _ (List.mem_cons_of_mem _ (List.mem_cons_of_mem _ (List.mem_cons_of_mem _ List.mem_cons_self))))))))) sub_nil)))) p9 h9)) (fun p9 hp9 => hdos p9 ((sub_cons (List.mem_cons_of_mem _ (List.mem_cons_of_mem _ (List.mem_cons_of_mem _ (List.mem_cons_of_mem _ List.mem_cons_self)))) (sub_cons (List.mem_cons_of_mem _ (List.mem_cons_of_mem _ (List.mem_cons_of_mem _ (List.mem_cons_of_mem _ (List.mem_cons_of_mem _ List.mem_cons_self))))) (sub_cons (List.mem_cons_of_mem _ (List.mem_cons_of_mem _ (List.mem_cons_of_mem _ (List.mem_cons_of_mem _ (List.mem_cons_of_mem _ (List.mem_cons_of_mem _ (List.mem_cons_of_mem _ (List.mem_cons_of_mem _ List.mem_cons_self)))))))) (sub_cons (List.mem_cons_of_mem _ (List.mem_cons_of_mem _ (List.mem_cons_of_mem _ (List.mem_cons_of_mem _ (List.mem_cons_of_mem _ (List.mem_cons_of_mem _ (List.mem_cons_of_mem _ (List.mem_cons_of_mem _ (List.mem_cons_of_mem _ List.mem_cons_self))))))))) sub_nil)))) p9 hp9)) _ _ _ _ _ INV_0 (Nat.zero_le _) (Nat.zero_le _) (fun _ => 0) k_lq k_le h1263 k_lg) mS_L_isTold qM_L_168 rfl rfl hl9.1 (Nat.le_of_ble_eq_true rfl) ⟨⟨Nat.le_of_ble_eq_true rfl, Nat.le_of_ble_eq_true rfl⟩, (by first | omega | (dsimp only; omega) | (show (_ : Nat) ≤ _; simp only [room_1]; omega)), (by first | omega | (dsimp only; omega) | (show (_ : Nat) ≤ _; simp only [room_1]; omega))⟩ dL_law_141 (fun E ce q9 f1265 H locs hPX hw hS hce hcv hcl => ?_) (fun v f1265 H locs hP hw hS => ?_)
    · exact hPX.elim
    · obtain ⟨ev9, hC2, hk2⟩ := hP
      subst ev9
      refine W.eq (g2 := F0 m 144 ls [.int 1]) rfl ?_
      refine lv_if_ne (tgt := 149) hx hb dL_law_144 (by decide) (fun _ => ?_) (fun c9 => absurd c9 (by decide))
      refine lv_iconst (v := 0) hx hb dL_law_149 (by decide) ?_
      refine lv_istore (lv' := [(12, .int 0), (11, .ref lg), (10, .ref lr), (9, .ref lh), (8, .ref lb), (7, .ref le), (6, .ref lq), (5, .ref la), (4, .ref lw), (3, .ref ly), (2, .ref lx), (1, .ref xo), (0, .ref b)]) hx hb dL_law_150 hl9 (by decide) rfl (fun ls hl9 => ?_)
      exact law_loop hL hx hb hr hlocks hX hbl hl B0 hbA hFs hdis hdos hlb hbl9 n_lx_ly n_lw_la n_lw_lq n_la_lq hC2 (hLX0.kp hk2 (fun p9 hp9 => hdos p9 ((sub_cons List.mem_cons_self (sub_cons (List.mem_cons_of_mem _ List.mem_cons_self) (sub_cons (List.mem_cons_of_mem _ (List.mem_cons_of_mem _ List.mem_cons_self)) (sub_cons (List.mem_cons_of_mem _ (List.mem_cons_of_mem _ (List.mem_cons_of_mem _ List.mem_cons_self))) (sub_cons (List.mem_cons_of_mem _ (List.mem_cons_of_mem _ (List.mem_cons_of_mem _ (List.mem_cons_of_mem _ List.mem_cons_self)))) (sub_cons (List.mem_cons_of_mem _ (List.mem_cons_of_mem _ (List.mem_cons_of_mem _ (List.mem_cons_of_mem _ (List.mem_cons_of_mem _ List.mem_cons_self))))) sub_nil)))))) p9 hp9))) (hLB0.kp hk2 (fun p9 hp9 => hdos p9 ((sub_cons (List.mem_cons_of_mem _ (List.mem_cons_of_mem _ (List.mem_cons_of_mem _ (List.mem_cons_of_mem _ (List.mem_cons_of_mem _ (List.mem_cons_of_mem _ List.mem_cons_self)))))) (sub_cons (List.mem_cons_of_mem _ (List.mem_cons_of_mem _ (List.mem_cons_of_mem _ (List.mem_cons_of_mem _ (List.mem_cons_of_mem _ (List.mem_cons_of_mem _ (List.mem_cons_of_mem _ List.mem_cons_self))))))) (sub_cons (List.mem_cons_of_mem _ (List.mem_cons_of_mem _ (List.mem_cons_of_mem _ (List.mem_cons_of_mem _ (List.mem_cons_of_mem _ (List.mem_cons_of_mem _ (List.mem_cons_of_mem _ (List.mem_cons_of_mem _ List.mem_cons_self)))))))) (sub_cons (List.mem_cons_of_mem _ (List.mem_cons_of_mem _ (List.mem_cons_of_mem _ (List.mem_cons_of_mem _ (List.mem_cons_of_mem _ (List.mem_cons_of_mem _ (List.mem_cons_of_mem _ (List.mem_cons_of_mem _ (List.mem_cons_of_mem _ List.mem_cons_self))))))))) sub_nil)))) p9 hp9))) INV_0 (Nat.zero_le _) (Nat.zero_le _) (Nat.zero_le _) hw hS (lv_sub hl9 [0, 12, 11, 10, 9, 8, 7, 6, 5, 4, 3, 2, 1] rfl)

