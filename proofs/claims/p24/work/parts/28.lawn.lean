theorem hW_0 {G : hG} {H : Heap} : hW G (fun _ => none) H := ⟨[], fun _ => .inr (0, []), (fun a e h => nomatch h), (fun k q h => by simp [va_pl] at h), ⟨fun i j p q h => by simp [va_pl] at h, fun k q h => by simp [va_pl] at h⟩⟩
theorem arr_of {ty : FieldType} {args : Array Value} {s : State} (h : (Cond.arrayClass ty).before args s = true) (hp : ∀ C, ty ≠ .object C) : ∃ cA, ArrOfT s cA ty ∧ va_RA s cA ty := by
  obtain ⟨c, k, comp, h1, h2, h3⟩ := Cond.arrayClass_spec h
  refine ⟨c, fun n z => ⟨fun k h => (by cases h), k, h2, comp, h3⟩, ?_⟩
  cases ty <;> first | exact absurd rfl (hp _) | exact h1
theorem hstr_all : hStr.all (fun q => decide (Cond.exactly (.string q.1 q.2.1) "java/lang/String" ∈ flatC (Jvm.Cond.and given_1 narrow_1))) = true := by decide +kernel
theorem hnc_all : hNcs.all (fun q => decide (Cond.not (.castable q.1 q.2) ∈ flatC (Jvm.Cond.and given_1 narrow_1))) = true := by decide +kernel
theorem hisU : Cond.isRef (.static Bundle.tN "UNASSIGNED_STACK" Bundle.steD) ∈ flatC (Jvm.Cond.and given_1 narrow_1) := by decide +kernel
theorem hisN : Cond.isRef (.static Bundle.tN "SUPPRESSED_SENTINEL" Bundle.listD) ∈ flatC (Jvm.Cond.and given_1 narrow_1) := by decide +kernel
theorem hlyU : Cond.laysStatic Bundle.tN "UNASSIGNED_STACK" Bundle.steD ∈ lw_tbl := List.mem_of_getElem? (i := 210) (by decide +kernel)
theorem hlyN : Cond.laysStatic Bundle.tN "SUPPRESSED_SENTINEL" Bundle.listD ∈ lw_tbl := List.mem_of_getElem? (i := 212) (by decide +kernel)
set_option maxHeartbeats 4000000 in
theorem hK_0 {b : Nat} {s : State} (hts : ∀ w ∈ lw_tbl, w.before #[Value.ref b] s = true) (hgv : (Jvm.Cond.and given_1 narrow_1).before #[Value.ref b] s = true) : ∃ (dC : Nat → ClassId) (dI : Nat → Nat → Nat) (c1 c2 c3 : ClassId), hK ((dC, dI), (c1, c2, c3), s.heap.size) s := by
  have hs := flat_of_before _ hgv
  have htg : ∀ w ∈ gW, w.before #[Value.ref b] s = true := fun w h => hts w (List.mem_filter.mp h).1
  obtain ⟨c0, i0, hn0⟩ := u_known (C := RX0) (T := TX0) (N := 9) (n := 9) htg in_X0 (htg _ qI_X0)
  obtain ⟨c1, i1, hn1⟩ := u_known (C := RX1) (T := TX1) (N := 11) (n := 11) htg in_X1 (htg _ qI_X1)
  obtain ⟨c2, i2, hn2⟩ := u_known (C := RX2) (T := TX2) (N := 5) (n := 5) htg in_X2 (htg _ qI_X2)
  obtain ⟨c3, i3, hn3⟩ := u_known (C := RX3) (T := TX3) (N := 3) (n := 3) htg in_X3 (htg _ qI_X3)
  obtain ⟨c4, i4, hn4⟩ := u_known (C := RX4) (T := TX4) (N := 3) (n := 3) htg in_X4 (htg _ qI_X4)
  obtain ⟨cI1, hI1, hI2⟩ := arr_of (htg _ qA_int) (fun C h => by cases h)
  obtain ⟨cZ1, hZ1, hZ2⟩ := arr_of (htg _ qA_boolean) (fun C h => by cases h)
  obtain ⟨cJ1, hJ1, hJ2⟩ := arr_of (htg _ qA_long) (fun C h => by cases h)
  have hA : ∀ a : Nat, a < s.heap.size → ¬ s.heap.size ≤ a := fun a h => Nat.not_le.mpr h
  refine ⟨fun k => if k = 0 then c0 else if k = 1 then c1 else if k = 2 then c2 else if k = 3 then c3 else c4, fun k => if k = 0 then i0 else if k = 1 then i1 else if k = 2 then i2 else if k = 3 then i3 else i4, cI1, cZ1, cJ1, ⟨?_, ?_⟩, ?_, ?_, ?_, ?_, ?_, Nat.le_refl _⟩
  · intro k q hq
    match k, hq with
    | 0, hq => cases hq; exact hn0
    | 1, hq => cases hq; exact hn1
    | 2, hq => cases hq; exact hn2
    | 3, hq => cases hq; exact hn3
    | 4, hq => cases hq; exact hn4
    | k + 5, hq => simp at hq
  · intro k q hq
    match k, hq with
    | 0, hq => cases hq; exact ⟨hI1, hI2⟩
    | 1, hq => cases hq; exact ⟨hZ1, hZ2⟩
    | 2, hq => cases hq; exact ⟨hJ1, hJ2⟩
    | k + 3, hq => simp at hq
  · exact vx_Zqof (hts _ hlyU) (htg _ qN_java_lang_Throwable) (hs _ hisU) hA
  · exact vx_Zqof (hts _ hlyN) (htg _ qN_java_lang_Throwable) (hs _ hisN) hA
  · exact fun w hw => va_Nw.of (hOw_tabs (List.mem_filter.mp hw).2) (hts w (List.mem_filter.mp hw).1)
  · intro q hq
    have h2 := hs _ (of_decide_eq_true (List.all_eq_true.mp hstr_all q hq))
    obtain ⟨a, c, cell, k, h3, -⟩ := Cond.exactly_spec h2
    refine ⟨a, ?_⟩
    unfold hStr at hq
    obtain ⟨w, hw1, hw2⟩ := List.mem_filterMap.mp hq
    cases w <;> first | (cases hw2; exact vk_R.of (hts _ hw1) h3) | (cases hw2)
  · exact fun q hq => va_Nc.of (hs _ (of_decide_eq_true (List.all_eq_true.mp hnc_all q hq)))
def hPreS (G : hG) (av : List Value) (f : hM) (b L : Nat) (xs : Nat → Int32) : Array Value → State → Prop := va_Pc av (fun U => (hK G U ∧ hW G f U.heap) ∧ va_X b L xs U U.heap ∧ b < U.heap.size ∧ ¬ hFr G b)
theorem hPreS.blind {G : hG} {av : List Value} {f : hM} {b L : Nat} {xs : Nat → Int32} : FrameBlind (hPreS G av f b L xs) := fun _ U g mk h => ⟨h.1, ⟨hK.warm (U := U.calling g mk _) h.2.1.1 (State.WarmedH.refl U) (Nat.le_refl _) (fun _ _ _ => rfl), h.2.1.2⟩, va_X.moved (State.WarmedH.refl U).alike h.2.2.1, h.2.2.2⟩
theorem c_L_cell {l : Launch} (hl : l.stackTraces = false) (G : hG) (f : hM) (b L : Nat) (xs : Nat → Int32) (k : Nat) (hk : k < 2 ^ 30) (hL : L < 2 ^ 30) : vx_Met l yL_cell (.code yL_cell cL_cell 2 (some .int) :: gW) { frames := 0, cells := 0, slots := 0, locals := 0 } (hPreS G [.ref b, .int (nI k)] f b L xs) (hQ G (fun v f1 => (∃ w : Int32, v = some (.int w)) ∧ f1 = f)) (hX G (fun _ _ => False)) 0 0 (hFr G) := by
  refine vx_ofW (cc := cL_cell) (maxL := 2) (ret := some .int) (by decide) rfl ?_
  intro p e s m args below meth c s₁ B hml hout hv
  obtain ⟨rfl, ⟨hk0, hw⟩, hX, hbl, hbA⟩ := hv
  have hts := atoms_spec (ws := (Cond.code yL_cell cL_cell 2 (some .int)) :: gW) B.pre
  have hown : s.vm.findClass RL = some m.cls := findClass_of_methodNamed B.named
  have hl2 := lv_entry [.ref b, .int (nI k)] (n := 2) (Nat.le_of_ble_eq_true rfl)
  rw [lg_entry_eq]
  have B0 : hB p l s m [Value.ref b, Value.int (nI k)].toArray meth c cL_cell 2 RL G := ⟨B.exec, B.bytes, hml, hown, fun w h => hts w (List.mem_cons_of_mem _ h), B.notSynchronized, hk0, hl⟩
  have hr := B.returns
  have hS : va_S (hFr G) s.heap s.heap [] := va_S.rf
  have hx := B0.1
  have hb := B0.2.1
  generalize (lg_sl [.ref b, .int (nI k)] ++ List.replicate (2 - (lg_sl [.ref b, .int (nI k)]).length) Slot.unset).toArray = ls at hl2 ⊢
  have hl9 : lv_has ls 2 [(0, .ref b), (1, .int (nI k))] := hl2
  refine lv_iload_n hx hb dL_cell_0 rfl (lv_at hl9 1 rfl) ?_
  refine lv_aload_n hx hb dL_cell_1 rfl (lv_at hl9 0 rfl) ?_
  refine va_slen hx hb hX hbl hbA hS dL_cell_2 ?_
  refine hp_c (v := nI L) rfl ?_
  refine lv_icmp_ge (tgt := 12) hx hb dL_cell_3 (by decide) (fun c1 => ?_) (fun c1 => ?_)
  · refine lv_ldc (v := 1171900389) hx hb B0.2.2.2.1 (B0.2.2.2.2.1 _ qK_L_7) dL_cell_12 ?_
    refine lv_iload_n hx hb dL_cell_14 rfl (lv_at hl9 1 rfl) ?_
    refine lv_bipush (v := 8) hx hb dL_cell_15 (by decide) ?_
    refine lv_iadd hx hb dL_cell_17 ?_
    refine lv_imul hx hb dL_cell_18 ?_
    exact hp_iret B0 hw hS hr ⟨Nat.le_refl _, Nat.le_refl _⟩ dL_cell_19 ⟨⟨_, rfl⟩, rfl⟩
  · refine lv_aload_n hx hb dL_cell_6 rfl (lv_at hl9 0 rfl) ?_
    refine lv_iload_n hx hb dL_cell_7 rfl (lv_at hl9 1 rfl) ?_
    refine va_sld hx hb hX hbl hbA hS (vp_in_nI (Nat.lt_of_not_le (fun h9 => c1 (nI_le h9 (by omega)))) (by omega)) dL_cell_8 ?_
    refine lv_goto (tgt := 19) hx hb dL_cell_9 (by decide) ?_
    exact hp_iret B0 hw hS hr ⟨Nat.le_refl _, Nat.le_refl _⟩ dL_cell_19 ⟨⟨_, rfl⟩, rfl⟩
section HSS
variable {p : Program} {l : Launch} {e : Env} {R : Room} {s : State} {m : MethodId} {args : Array Value} {below : List Frame} {meth : Method} {c : Code} {H : Heap} {locs : List Loc} {cells slots : Nat} {Q : State → Prop}
theorem hp_cell {cc : ByteArray} {nL pc : Nat} {G : hG} {f : hM} {ls : Array Slot} {rest : List Value} {b L k index : Nat} {xs : Nat → Int32} (B0 : hB p l s m args meth c cc nL RL G) (hl : l.stackTraces = false) (hw : hW G f H) (hS : va_S (hFr G) s.heap H locs) (hX : va_X b L xs s s.heap) (hbl : b < s.heap.size) (hbA : ¬ hFr G b) (hk : k < 2 ^ 30) (hL : L < 2 ^ 30) (hlm : Cond.methodLink RL index yL_cell ∈ gW) (hsz : ls.size = nL) (hroom : (rest.map fun v => v.category).sum ≤ 8)
    (hR : (1 ≤ R.frames ∧ 21 ≤ R.locals) ∧ cells + 0 ≤ R.cells ∧ slots + 0 ≤ R.slots) (hdg : decode cc pc = .ok (.invokestatic index, 3))
    (kk : ∀ (w : Int32) (H1 : Heap) (locs1 : List Loc), hW G f H1 → va_S (hFr G) s.heap H1 locs1 → W p l e R s m args below meth c H1 locs1 (cells + 0) (slots + 0) Q (F0 m (pc + 3) ls (.int w :: rest))) : W p l e R s m args below meth c H locs cells slots Q (F0 m pc ls (.int (nI k) :: .ref b :: rest)) := by
  have B1 := B0
  obtain ⟨hx, hb9, hml, hown, hts, hlk, hk0, hl0⟩ := B0
  obtain ⟨m1, m2, m4, m5, m6⟩ := mS_L_cell
  refine hp_go B1 hS (vx_runS (ws := Cond.code yL_cell cL_cell 2 (some .int) :: gW) (rm := { frames := 0, cells := 0, slots := 0, locals := 0 }) (Ts := gW) (bytes := cL_cell) (maxL := 2) (ret := some .int) (n := 2) (As := [.ref b, .int (nI k)]) (rest := rest) ⟨hx, hb9, hml, hown, hts⟩ (c_L_cell hl G f b L xs k hk hL)
    ⟨⟨rfl, rfl, hR.1.1, hR.1.2, gW_pay hts m1, List.mem_cons_self, hts _ m1, hts _ m4, m5, hlen_of m6, hts _ hlm⟩, hts _ m2⟩
    ⟨hPreS.blind, fun U hU hW9 => ⟨rfl, ⟨hK.warm hk0 hW9 (by rw [hU]; exact hS.1) (fun q h1 h2 => by rw [hU]; exact hS.2.1 q h1 h2), by rw [hU]; exact hw⟩, (va_X.moved hW9.alike hX).kept (by rw [hU]; exact hS.2.1 b hbl hbA), by rw [hU]; exact Nat.lt_of_lt_of_le hbl hS.1, hbA⟩⟩ rfl rfl hsz rfl (lv_room hroom) hdg hR.2) (fun E ce q9 f1 H1 locs1 hPX => hPX.elim) (fun v f1 H1 locs1 hP hw1 hS1 => ?_)
  obtain ⟨⟨w, ev⟩, ef⟩ := hP
  rw [ef] at hw1
  subst ev
  exact kk w H1 locs1 hw1 hS1
end HSS
theorem LX.kp {G : hG} {f f1 : hM} {lx ly lw la lq le : Nat} {S0 S1 : ES} {gw0 ga0 gw1 ga1 : Nat → Int32} {S : List Nat} (h : LX G f lx ly lw la lq le S0 S1 gw0 ga0 gw1 ga1) (hk : hKn S f f1) (hd : ∀ p, p ∈ [lx, ly, lw, la, lq, le] → p ∉ S) : LX G f1 lx ly lw la lq le S0 S1 gw0 ga0 gw1 ga1 := by
  obtain ⟨⟨xs, h1, x1⟩, ⟨ys, h2, y1⟩, h3, h4, h5, h6⟩ := h
  exact ⟨⟨xs, hk _ _ h1 (Nat.ne_of_beq_eq_false rfl) (hd _ (by simp)), x1⟩, ⟨ys, hk _ _ h2 (Nat.ne_of_beq_eq_false rfl) (hd _ (by simp)), y1⟩, hk _ _ h3 (Nat.ne_of_beq_eq_false rfl) (hd _ (by simp)), hk _ _ h4 (Nat.ne_of_beq_eq_false rfl) (hd _ (by simp)), hk _ _ h5 (Nat.ne_of_beq_eq_false rfl) (hd _ (by simp)), hk _ _ h6 (Nat.ne_of_beq_eq_false rfl) (hd _ (by simp))⟩
theorem LBX.kp {G : hG} {f f1 : hM} {lb lh lr lg : Nat} {n a cg x : Nat} {sa fl gv : Nat → Nat} {gh gl : Nat → Int32} {S : List Nat} (h : LBX G f lb lh lr lg n a cg x sa fl gv gh gl) (hk : hKn S f f1) (hd : ∀ p, p ∈ [lb, lh, lr, lg] → p ∉ S) : LBX G f1 lb lh lr lg n a cg x sa fl gv gh gl := by
  obtain ⟨h1, ⟨hh, hn, h2, h3, h4⟩, h5, ⟨tk, h6, h7⟩⟩ := h
  exact ⟨hk _ _ h1 (Nat.ne_of_beq_eq_false rfl) (hd _ (by simp)), ⟨hh, hn, hk _ _ h2 (Nat.ne_of_beq_eq_false rfl) (hd _ (by simp)), h3, h4⟩, hk _ _ h5 (Nat.ne_of_beq_eq_false rfl) (hd _ (by simp)), ⟨tk, hk _ _ h6 (Nat.ne_of_beq_eq_false rfl) (hd _ (by simp)), h7⟩⟩
/-- what holds at the head of the loop, behind j turns -/
abbrev lawI (G : hG) (xo ez eo bu nw0 na0 nq0 nr0 nw1 na1 nq1 nr1 bs bp bh bf bl bg lx ly lw la lq le lb lh lr lg : Nat) (b : Nat) (j : Nat) (f9 : hM) (lv9 : List (Nat × Value)) : Prop := ∃ (S0 : ES) (S1 : ES) (gw0 : Nat → Int32) (ga0 : Nat → Int32) (gw1 : Nat → Int32) (ga1 : Nat → Int32) (n : Nat) (a : Nat) (cg : Nat) (x : Nat) (sa : Nat → Nat) (pk : Nat → Nat) (fl : Nat → Nat) (gv : Nat → Nat) (gh : Nat → Int32) (gl : Nat → Int32), CXW G f9 xo ez eo bu nw0 na0 nq0 nr0 nw1 na1 nq1 nr1 bs bp bh bf bl bg S0 S1 gw0 ga0 gw1 ga1 n a cg x sa pk fl gv gh gl ∧ LX G f9 lx ly lw la lq le S0 S1 gw0 ga0 gw1 ga1 ∧ LBX G f9 lb lh lr lg n a cg x sa fl gv gh gl ∧ INV (100 * j) S0 S1 gw0 ga0 gw1 ga1 ∧ S0.2.2.2.2.2.2.2.2.length ≤ 52 ∧ S1.2.2.2.2.2.2.2.2.length ≤ 52 ∧ a ≤ 60 ∧ lv9 = [(12, .int (nI j)), (0, .ref b), (1, .ref xo), (2, .ref lx), (3, .ref ly), (4, .ref lw), (5, .ref la), (6, .ref lq), (7, .ref le), (8, .ref lb), (9, .ref lh), (10, .ref lr), (11, .ref lg)]
def fl0 : Nat → Nat := fun j => if j = 2 then 2 else if j = 1 then 1 else 0
theorem F3_fl : ((upd (upd (upd (fun _ => 0) (0 : Int32).toNatClampNeg 0) (1 : Int32).toNatClampNeg 1) (2 : Int32).toNatClampNeg 2) : Nat → Int32) = nf fl0 := by
  funext j
  simp only [upd, cl0, cl1, cl2, nf, fl0]
  by_cases h2 : j = 2
  · rw [if_pos h2, if_pos h2]; rfl
  · rw [if_neg h2, if_neg h2]
    by_cases h1 : j = 1
    · rw [if_pos h1, if_pos h1]; rfl
    · rw [if_neg h1, if_neg h1]
      by_cases h0 : j = 0
      · rw [if_pos h0]; rfl
      · rw [if_neg h0]; rfl
theorem BOK_0 : BOK 0 0 0 0 (fun _ => 0) (fun _ => 0) := ⟨by decide, rfl, rfl, fun i h => absurd h (Nat.not_lt_zero _), fun j h => absurd h (Nat.not_lt_zero _), Nat.le_refl _, 0, Nat.le_refl _, Nat.le_refl _, Nat.le_refl _⟩
theorem fl0_ok : ∀ k, k < 3 → fl0 k < 243 := by decide
theorem fl0_tk : ∀ l, l < 3 → fl0 l = l + 3 * (fun _ => 0 : Nat → Nat) l := by decide
def mAk (k : Nat) : Nat → Int32 := fun i => if i < k then (-1) else 0
theorem mAk_0 : (fun _ => 0 : Nat → Int32) = mAk 0 := by
  funext i
  simp only [mAk]
  rw [if_neg (Nat.not_lt_zero _)]
theorem mAk_u {k : Nat} {i : Int32} (h : i.toNatClampNeg = k) : upd (mAk k) i.toNatClampNeg (-1) = mAk (k + 1) := by
  rw [h]
  funext j
  simp only [upd, mAk]
  by_cases e : j = k
  · rw [if_pos e, if_pos (by omega)]
  · rw [if_neg e]
    by_cases l : j < k
    · rw [if_pos l, if_pos (by omega)]
    · rw [if_neg l, if_neg (by omega)]
theorem mAk_12 : mAk 12 = j6r N6 N6 := by
  funext j
  simp only [mAk, j6r, N6]
  by_cases h : j < 6
  · rw [if_pos (show j < 12 by omega), if_pos h, if_pos h]
  · rw [if_neg h]
    by_cases h2 : j < 12
    · rw [if_pos h2, if_pos (show j - 6 < 6 by omega)]
    · rw [if_neg h2, if_neg (show ¬ j - 6 < 6 by omega)]
theorem j6_zero : (fun _ => 0 : Nat → Int32) = j6r (fun _ => 0) (fun _ => 0) := by
  funext j
  simp only [j6r]
  split <;> rfl
/-- an end as it is made -/
abbrev S00 : ES := (0, -1, 0, 0, 0, 0, 0, N6, [])
abbrev S01 : ES := (0, -1, 0, 0, 0, 0, 1, N6, [])
theorem c0n : ∀ k : Nat, k < 16 → (Int32.ofNat k).toNatClampNeg = k := by decide
theorem le_0 : ((upd (upd (upd (fun _ => 0) (1 : Int32).toNatClampNeg (-1)) (9 : Int32).toNatClampNeg (-1)) (14 : Int32).toNatClampNeg 1) : Nat → Int32) = jE (eSt S00) (eSt S01) := by
  rw [show (1 : Int32).toNatClampNeg = 1 from by decide, show (9 : Int32).toNatClampNeg = 9 from by decide, show (14 : Int32).toNatClampNeg = 14 from by decide]
  funext i
  by_cases h : i < 16
  · rcases (show i = 0 ∨ i = 1 ∨ i = 2 ∨ i = 3 ∨ i = 4 ∨ i = 5 ∨ i = 6 ∨ i = 7 ∨ i = 8 ∨ i = 9 ∨ i = 10 ∨ i = 11 ∨ i = 12 ∨ i = 13 ∨ i = 14 ∨ i = 15 by omega) with rfl | rfl | rfl | rfl | rfl | rfl | rfl | rfl | rfl | rfl | rfl | rfl | rfl | rfl | rfl | rfl <;> rfl
  · simp only [upd, jE, eSt, e8r]
    rw [if_neg (show ¬ i = 14 by omega), if_neg (show ¬ i = 9 by omega), if_neg (show ¬ i = 1 by omega), if_neg (show ¬ i < 8 by omega), if_neg (show ¬ i - 8 = 0 by omega), if_neg (show ¬ i - 8 = 1 by omega), if_neg (show ¬ i - 8 = 2 by omega), if_neg (show ¬ i - 8 = 3 by omega), if_neg (show ¬ i - 8 = 4 by omega), if_neg (show ¬ i - 8 = 5 by omega), if_neg (show ¬ i - 8 = 6 by omega), if_neg (show ¬ i - 8 = 7 by omega)]
theorem lg_0 : ((upd (upd (upd (fun _ => 0) (3 : Int32).toNatClampNeg (-1)) (4 : Int32).toNatClampNeg (-1)) (5 : Int32).toNatClampNeg (-1)) : Nat → Int32) = g10r (fun _ => 0) (fun j => if j < 3 then (-1) else (fun _ => 0) j) 0 0 0 0 := by
  rw [show (3 : Int32).toNatClampNeg = 3 from by decide, show (4 : Int32).toNatClampNeg = 4 from by decide, show (5 : Int32).toNatClampNeg = 5 from by decide]
  funext i
  by_cases h : i < 10
  · rcases (show i = 0 ∨ i = 1 ∨ i = 2 ∨ i = 3 ∨ i = 4 ∨ i = 5 ∨ i = 6 ∨ i = 7 ∨ i = 8 ∨ i = 9 by omega) with rfl | rfl | rfl | rfl | rfl | rfl | rfl | rfl | rfl | rfl <;> rfl
  · simp only [upd, g10r]
    rw [if_neg (show ¬ i = 5 by omega), if_neg (show ¬ i = 4 by omega), if_neg (show ¬ i = 3 by omega), if_neg (show ¬ i < 3 by omega), if_neg (show ¬ i < 6 by omega), if_neg (show ¬ i = 6 by omega), if_neg (show ¬ i = 7 by omega), if_neg (show ¬ i = 8 by omega), if_neg (show ¬ i = 9 by omega)]
theorem XS_0 {xs : Nat → Int64} : XS xs [] := fun i r h => by simp at h
theorem HB_0 : HB 0 (fun _ => 0) := ⟨by decide, fun i _ => ⟨fun h => by rw [Nat.zero_div] at h; exact absurd h (by decide), fun h => absurd rfl h⟩⟩
theorem N6_ok : ∀ j, j < 6 → VOK (N6 j) := fun j hj => by
  rw [show N6 j = -1 from if_pos hj]
  exact ⟨by decide, by decide⟩
theorem A6_ok : ∀ j, j < 6 → AOK ((fun _ => 0 : Nat → Int32) j) := fun j hj => ⟨by show (0 : Int) ≤ (0 : Int32).toInt; decide, by show (0 : Int32).toInt ≤ 1023; decide⟩
theorem SOK_0 {ix : Int32} {x : Nat} (h : ix = nI x) (hx : x ≤ 4) : SOK (100 * 0) ((0, -1, 0, 0, 0, 0, ix, N6, []) : ES) := ⟨⟨0, rfl, by decide⟩, ⟨0, (show (-1 : Int32) + 1 = nI 0 by decide), Nat.zero_le _⟩, ⟨0, rfl, by decide⟩, Or.inl rfl, ⟨x, h, hx⟩, N6_ok, fun r h => nomatch h⟩
theorem INV_0 : INV (100 * 0) S00 S01 N6 (fun _ => 0) N6 (fun _ => 0) := ⟨SOK_0 (x := 0) rfl (by decide), SOK_0 (x := 1) rfl (by decide), N6_ok, A6_ok, N6_ok, A6_ok⟩
theorem EX_0 {G : hG} {f : hM} {en nw na nq nr : Nat} {mg ix : Int32} (hm : num ix = mg) (h1 : f en = some (.inr (1, [.ref nw, .ref na, .ref nq, .ref nr, .int mg, .int 0, .int 0, .int 0, .int (-1), .int 0, .int 0]))) (h2 : f nq = some (.inl (cI G, 6, .inl N6))) (h3 : f nr = some (.inr (3, [.null, .null, .int 0]))) : EX G f en nw na nq nr (0, -1, 0, 0, 0, 0, ix, N6, []) [] := by
  subst hm
  exact ⟨h1, h2, ⟨.null, h3, ⟨rfl, rfl⟩⟩, List.nodup_nil, fun c h => (nomatch h), nb0⟩
set_option maxHeartbeats 4000000 in
set_option maxRecDepth 100000 in
theorem lt_335 {p : Program} {l : Launch} {e : Env} {s : State} {m : MethodId} {below : List Frame} {meth : Method} {c : Code} {b L : Nat} {xs : Nat → Int32} (hL : L ≤ 260) (hx : p.tables.exec = Jvm.exec) (hb : c.code = code) (hX : va_X b L xs s s.heap) (hbl : b < s.heap.size) (hl : l.stackTraces = false) {G : hG} (B0 : hB p l s m #[Value.ref b] meth c code 17 RL G) (hbA : ¬ hFr G b) {xo ez eo bu nw0 na0 nq0 nr0 nw1 na1 nq1 nr1 bs bp bh bf bl bg lx ly lw la lq le lb lh lr lg : Nat} (hdis : ∀ p, p ∈ [xo, ez, eo, bu, nw0, na0, nq0, nr0, nw1, na1, nq1, nr1, bs, bp, bh, bf, bl, bg] → p ∉ [lx, ly, lw, la, lq, le, lb, lh, lr, lg]) (hdos : ∀ p, p ∈ [lx, ly, lw, la, lq, le, lb, lh, lr, lg] → p ∉ [xo, ez, eo, bu, nw0, na0, nq0, nr0, nw1, na1, nq1, nr1, bs, bp, bh, bf, bl, bg]) (hlb : ∀ p, p ∈ [lx, ly, lw, la, lq, le] → p ∉ [lb, lh, lr, lg]) (hbl9 : ∀ p, p ∈ [lb, lh, lr, lg] → p ∉ [lx, ly, lw, la, lq, le]) (n_lx_ly : lx ≠ ly) (n_lw_la : lw ≠ la) (n_lw_lq : lw ≠ lq) (n_la_lq : la ≠ lq) {j : Nat} (hj : j < 150) (ih : ∀ (f9 : hM) (lv9 : List (Nat × Value)) (H : Heap) (locs : List Loc) (ls : Array Slot), lawI G xo ez eo bu nw0 na0 nq0 nr0 nw1 na1 nq1 nr1 bs bp bh bf bl bg lx ly lw la lq le lb lh lr lg b (j + 1) f9 lv9 → hW G f9 H → va_S (hFr G) s.heap H locs → lv_has ls 17 lv9 → W p l e room_1 s m #[Value.ref b] below meth c H locs (73 + (j + 1) * 248) (1268 + (j + 1) * 1388) (lw_Z below #[Value.ref b] s) (F0 m 152 ls [])) {S0 : ES} {S1 : ES} {gw0 : Nat → Int32} {ga0 : Nat → Int32} {gw1 : Nat → Int32} {ga1 : Nat → Int32} {n : Nat} {a : Nat} {cg : Nat} {x : Nat} {sa : Nat → Nat} {pk : Nat → Nat} {fl : Nat → Nat} {gv : Nat → Nat} {gh : Nat → Int32} {gl : Nat → Int32} {f9 : hM} (hC : CXW G f9 xo ez eo bu nw0 na0 nq0 nr0 nw1 na1 nq1 nr1 bs bp bh bf bl bg S0 S1 gw0 ga0 gw1 ga1 n a cg x sa pk fl gv gh gl) (hLX : LX G f9 lx ly lw la lq le S0 S1 gw0 ga0 gw1 ga1) (hLB : LBX G f9 lb lh lr lg n a cg x sa fl gv gh gl) (hInv : INV (100 * (j + 1)) S0 S1 gw0 ga0 gw1 ga1) (hl0 : S0.2.2.2.2.2.2.2.2.length ≤ 52) (hl1 : S1.2.2.2.2.2.2.2.2.length ≤ 52) (ha60 : a ≤ 60) {H : Heap} {locs : List Loc} {ls : Array Slot} (hw : hW G f9 H) (hS : va_S (hFr G) s.heap H locs) (hl9 : lv_has ls 17 [(12, .int (nI j)), (0, .ref b), (1, .ref xo), (2, .ref lx), (3, .ref ly), (4, .ref lw), (5, .ref la), (6, .ref lq), (7, .ref le), (8, .ref lb), (9, .ref lh), (10, .ref lr), (11, .ref lg)]) : W p l e room_1 s m #[Value.ref b] below meth c H locs (73 + j * 248 + 203) (1268 + j * 1388 + 1118) (lw_Z below #[Value.ref b] s) (F0 m 335 ls []) := by
  have hLX0 := hLX
  have hLB0 := hLB
  obtain ⟨-, -, -, -, k_lq, k_le⟩ := hLX
  obtain ⟨-, -, k_lr, ⟨tk, k_lg, -⟩⟩ := hLB
  refine lv_aload_n hx hb dL_law_335 rfl (lv_at hl9 2 rfl) ?_
  refine lv_aload hx hb dL_law_336 (lv_at hl9 7 rfl) ?_
  refine lv_aload hx hb dL_law_338 (lv_at hl9 8 rfl) ?_
  refine lv_aload hx hb dL_law_340 (lv_at hl9 11 rfl) ?_
  refine lv_aload hx hb dL_law_342 (lv_at hl9 12 rfl) ?_
  refine hp_S (As := [.ref xo, .ref lq, .ref le, .ref lr, .ref lg]) (rest := []) B0 hw hS (c_L_isTold hl G f9 xo ez eo bu nw0 na0 nq0 nr0 nw1 na1 nq1 nr1 bs bp bh bf bl bg S0 S1 gw0 ga0 gw1 ga1 n a cg x sa pk fl gv gh gl hC lq le lr lg (fun p9 hp9 h9 => hdis p9 hp9 ((sub_cons (List.mem_cons_of_mem _ (List.mem_cons_of_mem _ (List.mem_cons_of_mem _ (List.mem_cons_of_mem _ List.mem_cons_self)))) (sub_cons (List.mem_cons_of_mem _ (List.mem_cons_of_mem _ (List.mem_cons_of_mem _ (List.mem_cons_of_mem _ (List.mem_cons_of_mem _ List.mem_cons_self))))) (sub_cons (List.mem_cons_of_mem _ (List.mem_cons_of_mem _ (List.mem_cons_of_mem _ (List.mem_cons_of_mem _ (List.mem_cons_of_mem _ (List.mem_cons_of_mem _ (List.mem_cons_of_mem _ (List.mem_cons_of_mem _ List.mem_cons_self)))))))) (sub_cons (List.mem_cons_of_mem _ (List.mem_cons_of_mem _ (List.mem_cons_of_mem _ (List.mem_cons_of_mem _ (List.mem_cons_of_mem _ (List.mem_cons_of_mem _ (List.mem_cons_of_mem _ (List.mem_cons_of_mem _ (List.mem_cons_of_mem _ List.mem_cons_self))))))))) sub_nil)))) p9 h9)) (fun p9 hp9 => hdos p9 ((sub_cons (List.mem_cons_of_mem _ (List.mem_cons_of_mem _ (List.mem_cons_of_mem _ (List.mem_cons_of_mem _ List.mem_cons_self)))) (sub_cons (List.mem_cons_of_mem _ (List.mem_cons_of_mem _ (List.mem_cons_of_mem _ (List.mem_cons_of_mem _ (List.mem_cons_of_mem _ List.mem_cons_self))))) (sub_cons (List.mem_cons_of_mem _ (List.mem_cons_of_mem _ (List.mem_cons_of_mem _ (List.mem_cons_of_mem _ (List.mem_cons_of_mem _ (List.mem_cons_of_mem _ (List.mem_cons_of_mem _ (List.mem_cons_of_mem _ List.mem_cons_self)))))))) (sub_cons (List.mem_cons_of_mem _ (List.mem_cons_of_mem _ (List.mem_cons_of_mem _ (List.mem_cons_of_mem _ (List.mem_cons_of_mem _ (List.mem_cons_of_mem _ (List.mem_cons_of_mem _ (List.mem_cons_of_mem _ (List.mem_cons_of_mem _ List.mem_cons_self))))))))) sub_nil)))) p9 hp9)) _ _ _ _ _ hInv hl0 hl1 tk k_lq k_le k_lr k_lg) mS_L_isTold qM_L_168 rfl rfl hl9.1 (Nat.le_of_ble_eq_true rfl) ⟨⟨Nat.le_of_ble_eq_true rfl, Nat.le_of_ble_eq_true rfl⟩, (by first | omega | (dsimp only; omega) | (show (_ : Nat) ≤ _; simp only [room_1]; omega)), (by first | omega | (dsimp only; omega) | (show (_ : Nat) ≤ _; simp only [room_1]; omega))⟩ dL_law_344 (fun E ce q9 f1 H locs hPX hw hS hce hcv hcl => ?_) (fun v f1 H locs hP hw hS => ?_)
  · exact hPX.elim
  · obtain ⟨ev9, hC2, hk2⟩ := hP
    subst ev9
    refine W.eq (g2 := F0 m 347 ls [.int 1]) rfl ?_
    refine lv_if_ne (tgt := 352) hx hb dL_law_347 (by decide) (fun _ => ?_) (fun c9 => absurd c9 (by decide))
    refine lv_iinc (v := (nI (j + 1))) (lv' := [(12, .int (nI (j + 1))), (0, .ref b), (1, .ref xo), (2, .ref lx), (3, .ref ly), (4, .ref lw), (5, .ref la), (6, .ref lq), (7, .ref le), (8, .ref lb), (9, .ref lh), (10, .ref lr), (11, .ref lg)]) hx hb dL_law_352 hl9 (k := 0) rfl (nI_1 j) (by decide) rfl (fun ls hl9 => ?_)
    refine lv_goto (tgt := 152) hx hb dL_law_355 (by decide) ?_
    exact hp_cs (by omega) (by omega) (ih _ _ H locs ls ⟨_, _, _, _, _, _, _, _, _, _, _, _, _, _, _, _, hC2, hLX0.kp hk2 (fun p9 hp9 => hdos p9 ((sub_cons List.mem_cons_self (sub_cons (List.mem_cons_of_mem _ List.mem_cons_self) (sub_cons (List.mem_cons_of_mem _ (List.mem_cons_of_mem _ List.mem_cons_self)) (sub_cons (List.mem_cons_of_mem _ (List.mem_cons_of_mem _ (List.mem_cons_of_mem _ List.mem_cons_self))) (sub_cons (List.mem_cons_of_mem _ (List.mem_cons_of_mem _ (List.mem_cons_of_mem _ (List.mem_cons_of_mem _ List.mem_cons_self)))) (sub_cons (List.mem_cons_of_mem _ (List.mem_cons_of_mem _ (List.mem_cons_of_mem _ (List.mem_cons_of_mem _ (List.mem_cons_of_mem _ List.mem_cons_self))))) sub_nil)))))) p9 hp9)), hLB0.kp hk2 (fun p9 hp9 => hdos p9 ((sub_cons (List.mem_cons_of_mem _ (List.mem_cons_of_mem _ (List.mem_cons_of_mem _ (List.mem_cons_of_mem _ (List.mem_cons_of_mem _ (List.mem_cons_of_mem _ List.mem_cons_self)))))) (sub_cons (List.mem_cons_of_mem _ (List.mem_cons_of_mem _ (List.mem_cons_of_mem _ (List.mem_cons_of_mem _ (List.mem_cons_of_mem _ (List.mem_cons_of_mem _ (List.mem_cons_of_mem _ List.mem_cons_self))))))) (sub_cons (List.mem_cons_of_mem _ (List.mem_cons_of_mem _ (List.mem_cons_of_mem _ (List.mem_cons_of_mem _ (List.mem_cons_of_mem _ (List.mem_cons_of_mem _ (List.mem_cons_of_mem _ (List.mem_cons_of_mem _ List.mem_cons_self)))))))) (sub_cons (List.mem_cons_of_mem _ (List.mem_cons_of_mem _ (List.mem_cons_of_mem _ (List.mem_cons_of_mem _ (List.mem_cons_of_mem _ (List.mem_cons_of_mem _ (List.mem_cons_of_mem _ (List.mem_cons_of_mem _ (List.mem_cons_of_mem _ List.mem_cons_self))))))))) sub_nil)))) p9 hp9)), hInv, hl0, hl1, ha60, rfl⟩ hw hS (lv_sub hl9 [0, 1, 2, 3, 4, 5, 6, 7, 8, 9, 10, 11, 12] rfl))

set_option maxHeartbeats 4000000 in
set_option maxRecDepth 100000 in
theorem lt_260 {p : Program} {l : Launch} {e : Env} {s : State} {m : MethodId} {below : List Frame} {meth : Method} {c : Code} {b L : Nat} {xs : Nat → Int32} (hL : L ≤ 260) (hx : p.tables.exec = Jvm.exec) (hb : c.code = code) (hX : va_X b L xs s s.heap) (hbl : b < s.heap.size) (hl : l.stackTraces = false) {G : hG} (B0 : hB p l s m #[Value.ref b] meth c code 17 RL G) (hbA : ¬ hFr G b) {xo ez eo bu nw0 na0 nq0 nr0 nw1 na1 nq1 nr1 bs bp bh bf bl bg lx ly lw la lq le lb lh lr lg : Nat} (hdis : ∀ p, p ∈ [xo, ez, eo, bu, nw0, na0, nq0, nr0, nw1, na1, nq1, nr1, bs, bp, bh, bf, bl, bg] → p ∉ [lx, ly, lw, la, lq, le, lb, lh, lr, lg]) (hdos : ∀ p, p ∈ [lx, ly, lw, la, lq, le, lb, lh, lr, lg] → p ∉ [xo, ez, eo, bu, nw0, na0, nq0, nr0, nw1, na1, nq1, nr1, bs, bp, bh, bf, bl, bg]) (hlb : ∀ p, p ∈ [lx, ly, lw, la, lq, le] → p ∉ [lb, lh, lr, lg]) (hbl9 : ∀ p, p ∈ [lb, lh, lr, lg] → p ∉ [lx, ly, lw, la, lq, le]) (n_lx_ly : lx ≠ ly) (n_lw_la : lw ≠ la) (n_lw_lq : lw ≠ lq) (n_la_lq : la ≠ lq) {j : Nat} (hj : j < 150) (ih : ∀ (f9 : hM) (lv9 : List (Nat × Value)) (H : Heap) (locs : List Loc) (ls : Array Slot), lawI G xo ez eo bu nw0 na0 nq0 nr0 nw1 na1 nq1 nr1 bs bp bh bf bl bg lx ly lw la lq le lb lh lr lg b (j + 1) f9 lv9 → hW G f9 H → va_S (hFr G) s.heap H locs → lv_has ls 17 lv9 → W p l e room_1 s m #[Value.ref b] below meth c H locs (73 + (j + 1) * 248) (1268 + (j + 1) * 1388) (lw_Z below #[Value.ref b] s) (F0 m 152 ls [])) (ac : Nat) (hac32 : ac < 32) (u z v0 : Int32) {S0 : ES} {S1 : ES} {gw0 : Nat → Int32} {ga0 : Nat → Int32} {gw1 : Nat → Int32} {ga1 : Nat → Int32} {n : Nat} {a : Nat} {cg : Nat} {x : Nat} {sa : Nat → Nat} {pk : Nat → Nat} {fl : Nat → Nat} {gv : Nat → Nat} {gh : Nat → Int32} {gl : Nat → Int32} {f9 : hM} (hC : CXW G f9 xo ez eo bu nw0 na0 nq0 nr0 nw1 na1 nq1 nr1 bs bp bh bf bl bg S0 S1 gw0 ga0 gw1 ga1 n a cg x sa pk fl gv gh gl) (hLX : LX G f9 lx ly lw la lq le S0 S1 gw0 ga0 gw1 ga1) (hLB : LBX G f9 lb lh lr lg n a cg x sa fl gv gh gl) (hInv : INV (100 * j) S0 S1 gw0 ga0 gw1 ga1) (hl0 : S0.2.2.2.2.2.2.2.2.length ≤ 52) (hl1 : S1.2.2.2.2.2.2.2.2.length ≤ 52) (ha60 : a ≤ 60) {H : Heap} {locs : List Loc} {ls : Array Slot} (hw : hW G f9 H) (hS : va_S (hFr G) s.heap H locs) (hl9 : lv_has ls 17 [(16, .int (nI ac)), (14, .int u), (15, .int z), (13, .int v0), (12, .int (nI j)), (0, .ref b), (1, .ref xo), (2, .ref lx), (3, .ref ly), (4, .ref lw), (5, .ref la), (6, .ref lq), (7, .ref le), (8, .ref lb), (9, .ref lh), (10, .ref lr), (11, .ref lg)]) (hact : ac ≠ 22 → S0.2.2.2.2.2.2.2.2.length ≤ 40 ∧ S1.2.2.2.2.2.2.2.2.length ≤ 40) : W p l e room_1 s m #[Value.ref b] below meth c H locs (73 + j * 248) (1268 + j * 1388) (lw_Z below #[Value.ref b] s) (F0 m 260 ls []) := by
  refine lv_iload hx hb dL_law_260 (lv_at hl9 0 rfl) ?_
  refine lv_bipush (v := 24) hx hb dL_law_262 (by decide) ?_
  refine lv_icmp_ge (tgt := 293) hx hb dL_law_264 (by decide) (fun c1 => ?_) (fun c1 => ?_)
  · refine lv_aload_n hx hb dL_law_293 rfl (lv_at hl9 6 rfl) ?_
    refine lv_iload hx hb dL_law_294 (lv_at hl9 0 rfl) ?_
    refine lv_bipush (v := 26) hx hb dL_law_296 (by decide) ?_
    refine lv_icmp_ge (tgt := 305) hx hb dL_law_298 (by decide) (fun c2 => ?_) (fun c2 => ?_)
    · refine lv_iload hx hb dL_law_305 (lv_at hl9 0 rfl) ?_
      refine lv_bipush (v := 26) hx hb dL_law_307 (by decide) ?_
      refine lv_icmp_ne (tgt := 316) hx hb dL_law_309 (by decide) (fun c3 => ?_) (fun c3 => ?_)
      · refine lv_iconst (v := 3) hx hb dL_law_316 (by decide) ?_
        refine lv_iload hx hb dL_law_317 (lv_at hl9 1 rfl) ?_
        refine lv_iload hx hb dL_law_319 (lv_at hl9 2 rfl) ?_
        refine lv_aload hx hb dL_law_321 (lv_at hl9 13 rfl) ?_
        refine lv_aload hx hb dL_law_323 (lv_at hl9 14 rfl) ?_
        refine lv_aload hx hb dL_law_325 (lv_at hl9 15 rfl) ?_
        refine lv_aload hx hb dL_law_327 (lv_at hl9 16 rfl) ?_
        refine hp_S (As := [.ref xo, .int 3, .int u, .int z, .ref lb, .ref lh, .ref lr, .ref lg]) (rest := []) B0 hw hS (c_L_bundles_3 hl G f9 xo ez eo bu nw0 na0 nq0 nr0 nw1 na1 nq1 nr1 bs bp bh bf bl bg S0 S1 gw0 ga0 gw1 ga1 n a cg x sa pk fl gv gh gl hC lb lh lr lg (fun p9 hp9 h9 => hdis p9 hp9 ((sub_cons (List.mem_cons_of_mem _ (List.mem_cons_of_mem _ (List.mem_cons_of_mem _ (List.mem_cons_of_mem _ (List.mem_cons_of_mem _ (List.mem_cons_of_mem _ List.mem_cons_self)))))) (sub_cons (List.mem_cons_of_mem _ (List.mem_cons_of_mem _ (List.mem_cons_of_mem _ (List.mem_cons_of_mem _ (List.mem_cons_of_mem _ (List.mem_cons_of_mem _ (List.mem_cons_of_mem _ List.mem_cons_self))))))) (sub_cons (List.mem_cons_of_mem _ (List.mem_cons_of_mem _ (List.mem_cons_of_mem _ (List.mem_cons_of_mem _ (List.mem_cons_of_mem _ (List.mem_cons_of_mem _ (List.mem_cons_of_mem _ (List.mem_cons_of_mem _ List.mem_cons_self)))))))) (sub_cons (List.mem_cons_of_mem _ (List.mem_cons_of_mem _ (List.mem_cons_of_mem _ (List.mem_cons_of_mem _ (List.mem_cons_of_mem _ (List.mem_cons_of_mem _ (List.mem_cons_of_mem _ (List.mem_cons_of_mem _ (List.mem_cons_of_mem _ List.mem_cons_self))))))))) sub_nil)))) p9 h9)) (fun p9 hp9 => hdos p9 ((sub_cons (List.mem_cons_of_mem _ (List.mem_cons_of_mem _ (List.mem_cons_of_mem _ (List.mem_cons_of_mem _ (List.mem_cons_of_mem _ (List.mem_cons_of_mem _ List.mem_cons_self)))))) (sub_cons (List.mem_cons_of_mem _ (List.mem_cons_of_mem _ (List.mem_cons_of_mem _ (List.mem_cons_of_mem _ (List.mem_cons_of_mem _ (List.mem_cons_of_mem _ (List.mem_cons_of_mem _ List.mem_cons_self))))))) (sub_cons (List.mem_cons_of_mem _ (List.mem_cons_of_mem _ (List.mem_cons_of_mem _ (List.mem_cons_of_mem _ (List.mem_cons_of_mem _ (List.mem_cons_of_mem _ (List.mem_cons_of_mem _ (List.mem_cons_of_mem _ List.mem_cons_self)))))))) (sub_cons (List.mem_cons_of_mem _ (List.mem_cons_of_mem _ (List.mem_cons_of_mem _ (List.mem_cons_of_mem _ (List.mem_cons_of_mem _ (List.mem_cons_of_mem _ (List.mem_cons_of_mem _ (List.mem_cons_of_mem _ (List.mem_cons_of_mem _ List.mem_cons_self))))))))) sub_nil)))) p9 hp9)) hLB ha60 hl0 hl1 u z) mS_L_bundles qM_L_180 rfl rfl hl9.1 (Nat.le_of_ble_eq_true rfl) ⟨⟨Nat.le_of_ble_eq_true rfl, Nat.le_of_ble_eq_true rfl⟩, (by first | omega | (dsimp only; omega) | (show (_ : Nat) ≤ _; simp only [room_1]; omega)), (by first | omega | (dsimp only; omega) | (show (_ : Nat) ≤ _; simp only [room_1]; omega))⟩ dL_law_329 (fun E ce q9 f4 H locs hPX hw hS hce hcv hcl => ?_) (fun v f4 H locs hP hw hS => ?_)
        · exact hPX.elim
        · obtain ⟨ev9, n2, a2, c2, x2, sa2, pk2, fl2, gv2, gh2, gl2, hC2, hLB2, ha2, hk2⟩ := hP
          subst ev9
          refine W.eq (g2 := F0 m 332 ls [.int 1]) rfl ?_
          refine lv_if_eq (tgt := 350) hx hb dL_law_332 (by decide) (fun c9 => absurd c9 (by decide)) (fun _ => ?_)
          refine W.widen (k := 73 + j * 248 + 203) (n := 1268 + j * 1388 + 1118) (by omega) (by omega) ?_
          obtain ⟨i1, i2, i3⟩ := hInv
          exact lt_335 hL hx hb hX hbl hl B0 hbA hdis hdos hlb hbl9 n_lx_ly n_lw_la n_lw_lq n_la_lq hj ih hC2 (hLX.kp hk2 (fun p9 hp9 h9 => (List.mem_append.mp h9).elim (hlb p9 hp9) (hdos p9 ((sub_cons List.mem_cons_self (sub_cons (List.mem_cons_of_mem _ List.mem_cons_self) (sub_cons (List.mem_cons_of_mem _ (List.mem_cons_of_mem _ List.mem_cons_self)) (sub_cons (List.mem_cons_of_mem _ (List.mem_cons_of_mem _ (List.mem_cons_of_mem _ List.mem_cons_self))) (sub_cons (List.mem_cons_of_mem _ (List.mem_cons_of_mem _ (List.mem_cons_of_mem _ (List.mem_cons_of_mem _ List.mem_cons_self)))) (sub_cons (List.mem_cons_of_mem _ (List.mem_cons_of_mem _ (List.mem_cons_of_mem _ (List.mem_cons_of_mem _ (List.mem_cons_of_mem _ List.mem_cons_self))))) sub_nil)))))) p9 hp9)))) hLB2 ⟨i1.mono (by omega), i2.mono (by omega), i3⟩ hl0 hl1 ha2 hw hS (lv_sub hl9 [4, 5, 6, 7, 8, 9, 10, 11, 12, 13, 14, 15, 16] rfl)
      · refine lv_iconst (v := 2) hx hb dL_law_312 (by decide) ?_
        refine lv_goto (tgt := 317) hx hb dL_law_313 (by decide) ?_
        refine lv_iload hx hb dL_law_317 (lv_at hl9 1 rfl) ?_
        refine lv_iload hx hb dL_law_319 (lv_at hl9 2 rfl) ?_
        refine lv_aload hx hb dL_law_321 (lv_at hl9 13 rfl) ?_
        refine lv_aload hx hb dL_law_323 (lv_at hl9 14 rfl) ?_
        refine lv_aload hx hb dL_law_325 (lv_at hl9 15 rfl) ?_
        refine lv_aload hx hb dL_law_327 (lv_at hl9 16 rfl) ?_
        refine hp_S (As := [.ref xo, .int 2, .int u, .int z, .ref lb, .ref lh, .ref lr, .ref lg]) (rest := []) B0 hw hS (c_L_bundles_2 hl G f9 xo ez eo bu nw0 na0 nq0 nr0 nw1 na1 nq1 nr1 bs bp bh bf bl bg S0 S1 gw0 ga0 gw1 ga1 n a cg x sa pk fl gv gh gl hC lb lh lr lg (fun p9 hp9 h9 => hdis p9 hp9 ((sub_cons (List.mem_cons_of_mem _ (List.mem_cons_of_mem _ (List.mem_cons_of_mem _ (List.mem_cons_of_mem _ (List.mem_cons_of_mem _ (List.mem_cons_of_mem _ List.mem_cons_self)))))) (sub_cons (List.mem_cons_of_mem _ (List.mem_cons_of_mem _ (List.mem_cons_of_mem _ (List.mem_cons_of_mem _ (List.mem_cons_of_mem _ (List.mem_cons_of_mem _ (List.mem_cons_of_mem _ List.mem_cons_self))))))) (sub_cons (List.mem_cons_of_mem _ (List.mem_cons_of_mem _ (List.mem_cons_of_mem _ (List.mem_cons_of_mem _ (List.mem_cons_of_mem _ (List.mem_cons_of_mem _ (List.mem_cons_of_mem _ (List.mem_cons_of_mem _ List.mem_cons_self)))))))) (sub_cons (List.mem_cons_of_mem _ (List.mem_cons_of_mem _ (List.mem_cons_of_mem _ (List.mem_cons_of_mem _ (List.mem_cons_of_mem _ (List.mem_cons_of_mem _ (List.mem_cons_of_mem _ (List.mem_cons_of_mem _ (List.mem_cons_of_mem _ List.mem_cons_self))))))))) sub_nil)))) p9 h9)) (fun p9 hp9 => hdos p9 ((sub_cons (List.mem_cons_of_mem _ (List.mem_cons_of_mem _ (List.mem_cons_of_mem _ (List.mem_cons_of_mem _ (List.mem_cons_of_mem _ (List.mem_cons_of_mem _ List.mem_cons_self)))))) (sub_cons (List.mem_cons_of_mem _ (List.mem_cons_of_mem _ (List.mem_cons_of_mem _ (List.mem_cons_of_mem _ (List.mem_cons_of_mem _ (List.mem_cons_of_mem _ (List.mem_cons_of_mem _ List.mem_cons_self))))))) (sub_cons (List.mem_cons_of_mem _ (List.mem_cons_of_mem _ (List.mem_cons_of_mem _ (List.mem_cons_of_mem _ (List.mem_cons_of_mem _ (List.mem_cons_of_mem _ (List.mem_cons_of_mem _ (List.mem_cons_of_mem _ List.mem_cons_self)))))))) (sub_cons (List.mem_cons_of_mem _ (List.mem_cons_of_mem _ (List.mem_cons_of_mem _ (List.mem_cons_of_mem _ (List.mem_cons_of_mem _ (List.mem_cons_of_mem _ (List.mem_cons_of_mem _ (List.mem_cons_of_mem _ (List.mem_cons_of_mem _ List.mem_cons_self))))))))) sub_nil)))) p9 hp9)) hLB ha60 hl0 hl1 u z) mS_L_bundles qM_L_180 rfl rfl hl9.1 (Nat.le_of_ble_eq_true rfl) ⟨⟨Nat.le_of_ble_eq_true rfl, Nat.le_of_ble_eq_true rfl⟩, (by first | omega | (dsimp only; omega) | (show (_ : Nat) ≤ _; simp only [room_1]; omega)), (by first | omega | (dsimp only; omega) | (show (_ : Nat) ≤ _; simp only [room_1]; omega))⟩ dL_law_329 (fun E ce q9 f5 H locs hPX hw hS hce hcv hcl => ?_) (fun v f5 H locs hP hw hS => ?_)
        · exact hPX.elim
        · obtain ⟨ev9, n2, a2, c2, x2, sa2, pk2, fl2, gv2, gh2, gl2, hC2, hLB2, ha2, hk2⟩ := hP
          subst ev9
          refine W.eq (g2 := F0 m 332 ls [.int 1]) rfl ?_
          refine lv_if_eq (tgt := 350) hx hb dL_law_332 (by decide) (fun c9 => absurd c9 (by decide)) (fun _ => ?_)
          refine W.widen (k := 73 + j * 248 + 203) (n := 1268 + j * 1388 + 1118) (by omega) (by omega) ?_
          obtain ⟨i1, i2, i3⟩ := hInv
          exact lt_335 hL hx hb hX hbl hl B0 hbA hdis hdos hlb hbl9 n_lx_ly n_lw_la n_lw_lq n_la_lq hj ih hC2 (hLX.kp hk2 (fun p9 hp9 h9 => (List.mem_append.mp h9).elim (hlb p9 hp9) (hdos p9 ((sub_cons List.mem_cons_self (sub_cons (List.mem_cons_of_mem _ List.mem_cons_self) (sub_cons (List.mem_cons_of_mem _ (List.mem_cons_of_mem _ List.mem_cons_self)) (sub_cons (List.mem_cons_of_mem _ (List.mem_cons_of_mem _ (List.mem_cons_of_mem _ List.mem_cons_self))) (sub_cons (List.mem_cons_of_mem _ (List.mem_cons_of_mem _ (List.mem_cons_of_mem _ (List.mem_cons_of_mem _ List.mem_cons_self)))) (sub_cons (List.mem_cons_of_mem _ (List.mem_cons_of_mem _ (List.mem_cons_of_mem _ (List.mem_cons_of_mem _ (List.mem_cons_of_mem _ List.mem_cons_self))))) sub_nil)))))) p9 hp9)))) hLB2 ⟨i1.mono (by omega), i2.mono (by omega), i3⟩ hl0 hl1 ha2 hw hS (lv_sub hl9 [4, 5, 6, 7, 8, 9, 10, 11, 12, 13, 14, 15, 16] rfl)
    · refine lv_iconst (v := 0) hx hb dL_law_301 (by decide) ?_
      refine lv_goto (tgt := 317) hx hb dL_law_302 (by decide) ?_
      refine lv_iload hx hb dL_law_317 (lv_at hl9 1 rfl) ?_
      refine lv_iload hx hb dL_law_319 (lv_at hl9 2 rfl) ?_
      refine lv_aload hx hb dL_law_321 (lv_at hl9 13 rfl) ?_
      refine lv_aload hx hb dL_law_323 (lv_at hl9 14 rfl) ?_
      refine lv_aload hx hb dL_law_325 (lv_at hl9 15 rfl) ?_
      refine lv_aload hx hb dL_law_327 (lv_at hl9 16 rfl) ?_
      refine hp_S (As := [.ref xo, .int 0, .int u, .int z, .ref lb, .ref lh, .ref lr, .ref lg]) (rest := []) B0 hw hS (c_L_bundles_0 hl G f9 xo ez eo bu nw0 na0 nq0 nr0 nw1 na1 nq1 nr1 bs bp bh bf bl bg S0 S1 gw0 ga0 gw1 ga1 n a cg x sa pk fl gv gh gl hC lb lh lr lg (fun p9 hp9 h9 => hdis p9 hp9 ((sub_cons (List.mem_cons_of_mem _ (List.mem_cons_of_mem _ (List.mem_cons_of_mem _ (List.mem_cons_of_mem _ (List.mem_cons_of_mem _ (List.mem_cons_of_mem _ List.mem_cons_self)))))) (sub_cons (List.mem_cons_of_mem _ (List.mem_cons_of_mem _ (List.mem_cons_of_mem _ (List.mem_cons_of_mem _ (List.mem_cons_of_mem _ (List.mem_cons_of_mem _ (List.mem_cons_of_mem _ List.mem_cons_self))))))) (sub_cons (List.mem_cons_of_mem _ (List.mem_cons_of_mem _ (List.mem_cons_of_mem _ (List.mem_cons_of_mem _ (List.mem_cons_of_mem _ (List.mem_cons_of_mem _ (List.mem_cons_of_mem _ (List.mem_cons_of_mem _ List.mem_cons_self)))))))) (sub_cons (List.mem_cons_of_mem _ (List.mem_cons_of_mem _ (List.mem_cons_of_mem _ (List.mem_cons_of_mem _ (List.mem_cons_of_mem _ (List.mem_cons_of_mem _ (List.mem_cons_of_mem _ (List.mem_cons_of_mem _ (List.mem_cons_of_mem _ List.mem_cons_self))))))))) sub_nil)))) p9 h9)) (fun p9 hp9 => hdos p9 ((sub_cons (List.mem_cons_of_mem _ (List.mem_cons_of_mem _ (List.mem_cons_of_mem _ (List.mem_cons_of_mem _ (List.mem_cons_of_mem _ (List.mem_cons_of_mem _ List.mem_cons_self)))))) (sub_cons (List.mem_cons_of_mem _ (List.mem_cons_of_mem _ (List.mem_cons_of_mem _ (List.mem_cons_of_mem _ (List.mem_cons_of_mem _ (List.mem_cons_of_mem _ (List.mem_cons_of_mem _ List.mem_cons_self))))))) (sub_cons (List.mem_cons_of_mem _ (List.mem_cons_of_mem _ (List.mem_cons_of_mem _ (List.mem_cons_of_mem _ (List.mem_cons_of_mem _ (List.mem_cons_of_mem _ (List.mem_cons_of_mem _ (List.mem_cons_of_mem _ List.mem_cons_self)))))))) (sub_cons (List.mem_cons_of_mem _ (List.mem_cons_of_mem _ (List.mem_cons_of_mem _ (List.mem_cons_of_mem _ (List.mem_cons_of_mem _ (List.mem_cons_of_mem _ (List.mem_cons_of_mem _ (List.mem_cons_of_mem _ (List.mem_cons_of_mem _ List.mem_cons_self))))))))) sub_nil)))) p9 hp9)) hLB ha60 hl0 hl1 u z) mS_L_bundles qM_L_180 rfl rfl hl9.1 (Nat.le_of_ble_eq_true rfl) ⟨⟨Nat.le_of_ble_eq_true rfl, Nat.le_of_ble_eq_true rfl⟩, (by first | omega | (dsimp only; omega) | (show (_ : Nat) ≤ _; simp only [room_1]; omega)), (by first | omega | (dsimp only; omega) | (show (_ : Nat) ≤ _; simp only [room_1]; omega))⟩ dL_law_329 (fun E ce q9 f6 H locs hPX hw hS hce hcv hcl => ?_) (fun v f6 H locs hP hw hS => ?_)
      · exact hPX.elim
      · obtain ⟨ev9, n2, a2, c2, x2, sa2, pk2, fl2, gv2, gh2, gl2, hC2, hLB2, ha2, hk2⟩ := hP
        subst ev9
        refine W.eq (g2 := F0 m 332 ls [.int 1]) rfl ?_
        refine lv_if_eq (tgt := 350) hx hb dL_law_332 (by decide) (fun c9 => absurd c9 (by decide)) (fun _ => ?_)
        refine W.widen (k := 73 + j * 248 + 203) (n := 1268 + j * 1388 + 1118) (by omega) (by omega) ?_
        obtain ⟨i1, i2, i3⟩ := hInv
        exact lt_335 hL hx hb hX hbl hl B0 hbA hdis hdos hlb hbl9 n_lx_ly n_lw_la n_lw_lq n_la_lq hj ih hC2 (hLX.kp hk2 (fun p9 hp9 h9 => (List.mem_append.mp h9).elim (hlb p9 hp9) (hdos p9 ((sub_cons List.mem_cons_self (sub_cons (List.mem_cons_of_mem _ List.mem_cons_self) (sub_cons (List.mem_cons_of_mem _ (List.mem_cons_of_mem _ List.mem_cons_self)) (sub_cons (List.mem_cons_of_mem _ (List.mem_cons_of_mem _ (List.mem_cons_of_mem _ List.mem_cons_self))) (sub_cons (List.mem_cons_of_mem _ (List.mem_cons_of_mem _ (List.mem_cons_of_mem _ (List.mem_cons_of_mem _ List.mem_cons_self)))) (sub_cons (List.mem_cons_of_mem _ (List.mem_cons_of_mem _ (List.mem_cons_of_mem _ (List.mem_cons_of_mem _ (List.mem_cons_of_mem _ List.mem_cons_self))))) sub_nil)))))) p9 hp9)))) hLB2 ⟨i1.mono (by omega), i2.mono (by omega), i3⟩ hl0 hl1 ha2 hw hS (lv_sub hl9 [4, 5, 6, 7, 8, 9, 10, 11, 12, 13, 14, 15, 16] rfl)
  · refine lv_aload_n hx hb dL_law_267 rfl (lv_at hl9 6 rfl) ?_
    refine lv_iload hx hb dL_law_268 (lv_at hl9 0 rfl) ?_
    refine lv_iload hx hb dL_law_270 (lv_at hl9 1 rfl) ?_
    refine lv_iload hx hb dL_law_272 (lv_at hl9 2 rfl) ?_
    refine lv_aload_n hx hb dL_law_274 rfl (lv_at hl9 7 rfl) ?_
    refine lv_aload_n hx hb dL_law_275 rfl (lv_at hl9 8 rfl) ?_
    refine lv_aload hx hb dL_law_276 (lv_at hl9 9 rfl) ?_
    refine lv_aload hx hb dL_law_278 (lv_at hl9 10 rfl) ?_
    refine lv_aload hx hb dL_law_280 (lv_at hl9 11 rfl) ?_
    refine lv_aload hx hb dL_law_282 (lv_at hl9 12 rfl) ?_
    have hac : ac < 24 := Nat.lt_of_not_le (fun h9 => c1 (nI_le h9 (by omega)))
    refine hp_S (As := [.ref xo, .int (nI ac), .int u, .int z, .ref lx, .ref ly, .ref lw, .ref la, .ref lq, .ref le]) (rest := []) B0 hw hS (c_L_links hl G f9 xo ez eo bu nw0 na0 nq0 nr0 nw1 na1 nq1 nr1 bs bp bh bf bl bg S0 S1 gw0 ga0 gw1 ga1 n a cg x sa pk fl gv gh gl hC lx ly lw la lq le (fun p9 hp9 h9 => hdis p9 hp9 ((sub_cons List.mem_cons_self (sub_cons (List.mem_cons_of_mem _ List.mem_cons_self) (sub_cons (List.mem_cons_of_mem _ (List.mem_cons_of_mem _ List.mem_cons_self)) (sub_cons (List.mem_cons_of_mem _ (List.mem_cons_of_mem _ (List.mem_cons_of_mem _ List.mem_cons_self))) (sub_cons (List.mem_cons_of_mem _ (List.mem_cons_of_mem _ (List.mem_cons_of_mem _ (List.mem_cons_of_mem _ List.mem_cons_self)))) (sub_cons (List.mem_cons_of_mem _ (List.mem_cons_of_mem _ (List.mem_cons_of_mem _ (List.mem_cons_of_mem _ (List.mem_cons_of_mem _ List.mem_cons_self))))) sub_nil)))))) p9 h9)) (fun p9 hp9 => hdos p9 ((sub_cons List.mem_cons_self (sub_cons (List.mem_cons_of_mem _ List.mem_cons_self) (sub_cons (List.mem_cons_of_mem _ (List.mem_cons_of_mem _ List.mem_cons_self)) (sub_cons (List.mem_cons_of_mem _ (List.mem_cons_of_mem _ (List.mem_cons_of_mem _ List.mem_cons_self))) (sub_cons (List.mem_cons_of_mem _ (List.mem_cons_of_mem _ (List.mem_cons_of_mem _ (List.mem_cons_of_mem _ List.mem_cons_self)))) (sub_cons (List.mem_cons_of_mem _ (List.mem_cons_of_mem _ (List.mem_cons_of_mem _ (List.mem_cons_of_mem _ (List.mem_cons_of_mem _ List.mem_cons_self))))) sub_nil)))))) p9 hp9)) n_lx_ly n_lw_la n_lw_lq n_la_lq hLX _ hInv (by omega) hl0 hl1 ac hac hact u z) mS_L_links qM_L_176 rfl rfl hl9.1 (Nat.le_of_ble_eq_true rfl) ⟨⟨Nat.le_of_ble_eq_true rfl, Nat.le_of_ble_eq_true rfl⟩, (by first | omega | (dsimp only; omega) | (show (_ : Nat) ≤ _; simp only [room_1]; omega)), (by first | omega | (dsimp only; omega) | (show (_ : Nat) ≤ _; simp only [room_1]; omega))⟩ dL_law_284 (fun E ce q9 f7 H locs hPX hw hS hce hcv hcl => ?_) (fun v f7 H locs hP hw hS => ?_)
    · exact hPX.elim
    · obtain ⟨ev9, S2, S3, w0, a0, w1, a1, hC2, hLX2, hInv2, hl2, hl3, hk2⟩ := hP
      subst ev9
      refine W.eq (g2 := F0 m 287 ls [.int 1]) rfl ?_
      refine lv_if_eq (tgt := 350) hx hb dL_law_287 (by decide) (fun c9 => absurd c9 (by decide)) (fun _ => ?_)
      refine lv_goto (tgt := 335) hx hb dL_law_290 (by decide) ?_
      refine W.widen (k := 73 + j * 248 + 203) (n := 1268 + j * 1388 + 1118) (by omega) (by omega) ?_
      exact lt_335 hL hx hb hX hbl hl B0 hbA hdis hdos hlb hbl9 n_lx_ly n_lw_la n_lw_lq n_la_lq hj ih hC2 hLX2 (hLB.kp hk2 (fun p9 hp9 h9 => (List.mem_append.mp h9).elim (hbl9 p9 hp9) (hdos p9 ((sub_cons (List.mem_cons_of_mem _ (List.mem_cons_of_mem _ (List.mem_cons_of_mem _ (List.mem_cons_of_mem _ (List.mem_cons_of_mem _ (List.mem_cons_of_mem _ List.mem_cons_self)))))) (sub_cons (List.mem_cons_of_mem _ (List.mem_cons_of_mem _ (List.mem_cons_of_mem _ (List.mem_cons_of_mem _ (List.mem_cons_of_mem _ (List.mem_cons_of_mem _ (List.mem_cons_of_mem _ List.mem_cons_self))))))) (sub_cons (List.mem_cons_of_mem _ (List.mem_cons_of_mem _ (List.mem_cons_of_mem _ (List.mem_cons_of_mem _ (List.mem_cons_of_mem _ (List.mem_cons_of_mem _ (List.mem_cons_of_mem _ (List.mem_cons_of_mem _ List.mem_cons_self)))))))) (sub_cons (List.mem_cons_of_mem _ (List.mem_cons_of_mem _ (List.mem_cons_of_mem _ (List.mem_cons_of_mem _ (List.mem_cons_of_mem _ (List.mem_cons_of_mem _ (List.mem_cons_of_mem _ (List.mem_cons_of_mem _ (List.mem_cons_of_mem _ List.mem_cons_self))))))))) sub_nil)))) p9 hp9)))) (by rw [show 100 * (j + 1) = 100 * j + 100 by omega]; exact hInv2) hl2 hl3 ha60 hw hS (lv_sub hl9 [4, 5, 6, 7, 8, 9, 10, 11, 12, 13, 14, 15, 16] rfl)

set_option maxHeartbeats 4000000 in
set_option maxRecDepth 100000 in
theorem law_loop {p : Program} {l : Launch} {e : Env} {s : State} {m : MethodId} {below : List Frame} {meth : Method} {c : Code} {b L : Nat} {xs : Nat → Int32} (hL : L ≤ 260) (hx : p.tables.exec = Jvm.exec) (hb : c.code = code) (hr : meth.sig.returnType = ret) (hlocks : meth.locks = false) (hX : va_X b L xs s s.heap) (hbl : b < s.heap.size) (hl : l.stackTraces = false) {G : hG} (B0 : hB p l s m #[Value.ref b] meth c code 17 RL G) (hbA : ¬ hFr G b) (hFs : ∀ q : Nat, hFr G q → s.heap.size ≤ q) {xo ez eo bu nw0 na0 nq0 nr0 nw1 na1 nq1 nr1 bs bp bh bf bl bg lx ly lw la lq le lb lh lr lg : Nat} (hdis : ∀ p, p ∈ [xo, ez, eo, bu, nw0, na0, nq0, nr0, nw1, na1, nq1, nr1, bs, bp, bh, bf, bl, bg] → p ∉ [lx, ly, lw, la, lq, le, lb, lh, lr, lg]) (hdos : ∀ p, p ∈ [lx, ly, lw, la, lq, le, lb, lh, lr, lg] → p ∉ [xo, ez, eo, bu, nw0, na0, nq0, nr0, nw1, na1, nq1, nr1, bs, bp, bh, bf, bl, bg]) (hlb : ∀ p, p ∈ [lx, ly, lw, la, lq, le] → p ∉ [lb, lh, lr, lg]) (hbl9 : ∀ p, p ∈ [lb, lh, lr, lg] → p ∉ [lx, ly, lw, la, lq, le]) (n_lx_ly : lx ≠ ly) (n_lw_la : lw ≠ la) (n_lw_lq : lw ≠ lq) (n_la_lq : la ≠ lq) {S0 : ES} {S1 : ES} {gw0 : Nat → Int32} {ga0 : Nat → Int32} {gw1 : Nat → Int32} {ga1 : Nat → Int32} {n : Nat} {a : Nat} {cg : Nat} {x : Nat} {sa : Nat → Nat} {pk : Nat → Nat} {fl : Nat → Nat} {gv : Nat → Nat} {gh : Nat → Int32} {gl : Nat → Int32} {f9 : hM} (hC : CXW G f9 xo ez eo bu nw0 na0 nq0 nr0 nw1 na1 nq1 nr1 bs bp bh bf bl bg S0 S1 gw0 ga0 gw1 ga1 n a cg x sa pk fl gv gh gl) (hLX : LX G f9 lx ly lw la lq le S0 S1 gw0 ga0 gw1 ga1) (hLB : LBX G f9 lb lh lr lg n a cg x sa fl gv gh gl) (hInv : INV (100 * 0) S0 S1 gw0 ga0 gw1 ga1) (hl0 : S0.2.2.2.2.2.2.2.2.length ≤ 52) (hl1 : S1.2.2.2.2.2.2.2.2.length ≤ 52) (ha60 : a ≤ 60) {H : Heap} {locs : List Loc} {ls : Array Slot} (hw : hW G f9 H) (hS : va_S (hFr G) s.heap H locs) (hl9 : lv_has ls 17 [(12, .int (nI 0)), (0, .ref b), (1, .ref xo), (2, .ref lx), (3, .ref ly), (4, .ref lw), (5, .ref la), (6, .ref lq), (7, .ref le), (8, .ref lb), (9, .ref lh), (10, .ref lr), (11, .ref lg)]) : W p l e room_1 s m #[Value.ref b] below meth c H locs (73) (1268) (lw_Z below #[Value.ref b] s) (F0 m 152 ls []) := by
  refine hp_cs (c2 := 73 + 0 * 248) (s2 := 1268 + 0 * 1388) (by rfl) (by rfl) ?_
  refine hp_forC (nL := 17) (pc := 152) (lawI G xo ez eo bu nw0 na0 nq0 nr0 nw1 na1 nq1 nr1 bs bp bh bf bl bg lx ly lw la lq le lb lh lr lg b) 150 73 1268 248 1388 (fun j f9 lv9 H locs ls hj hI hw hS hl9 ih => ?_) (fun f9 lv9 H locs ls hI hw hS hl9 => ?_) 150 0 (Nat.zero_add 150) f9 _ _ _ ls ⟨_, _, _, _, _, _, _, _, _, _, _, _, _, _, _, _, hC, hLX, hLB, hInv, hl0, hl1, ha60, rfl⟩ hw hS hl9
  · obtain ⟨S0, S1, gw0, ga0, gw1, ga1, n, a, cg, x, sa, pk, fl, gv, gh, gl, hC, hLX, hLB, hInv, hl0, hl1, ha60, el9⟩ := hI
    rw [el9] at hl9
    have k_le := hLX.2.2.2.2.2
    refine lv_iload hx hb dL_law_152 (lv_at hl9 0 rfl) ?_
    refine lv_sipush (v := 150) hx hb dL_law_154 (by decide) ?_
    refine lv_icmp_ge (tgt := 358) hx hb dL_law_157 (by decide) (fun c9 => absurd c9 (show ¬ nI 150 ≤ nI j from nI_ge hj (by omega))) (fun _ => ?_)
    refine lv_aload_n hx hb dL_law_160 rfl (lv_at hl9 1 rfl) ?_
    refine lv_iconst (v := 3) hx hb dL_law_161 (by decide) ?_
    refine lv_iload hx hb dL_law_162 (lv_at hl9 0 rfl) ?_
    refine lv_imul hx hb dL_law_164 ?_
    refine hp_c (v := (nI (3 * j))) (pk_mul 3 j) ?_
    refine hp_cell (rest := []) B0 hl hw hS hX hbl hbA (by omega) (by omega) qM_L_172 hl9.1 (Nat.le_of_ble_eq_true rfl) ⟨⟨Nat.le_of_ble_eq_true rfl, Nat.le_of_ble_eq_true rfl⟩, (by first | omega | (dsimp only; omega) | (show (_ : Nat) ≤ _; simp only [room_1]; omega)), (by first | omega | (dsimp only; omega) | (show (_ : Nat) ≤ _; simp only [room_1]; omega))⟩ dL_law_165 (fun w1 H locs hw hS => ?_)
    refine lv_istore (lv' := [(13, .int w1), (12, .int (nI j)), (0, .ref b), (1, .ref xo), (2, .ref lx), (3, .ref ly), (4, .ref lw), (5, .ref la), (6, .ref lq), (7, .ref le), (8, .ref lb), (9, .ref lh), (10, .ref lr), (11, .ref lg)]) hx hb dL_law_168 hl9 (by decide) rfl (fun ls hl9 => ?_)
    refine lv_aload_n hx hb dL_law_170 rfl (lv_at hl9 2 rfl) ?_
    refine lv_iconst (v := 3) hx hb dL_law_171 (by decide) ?_
    refine lv_iload hx hb dL_law_172 (lv_at hl9 1 rfl) ?_
    refine lv_imul hx hb dL_law_174 ?_
    refine hp_c (v := (nI (3 * j))) (pk_mul 3 j) ?_
    refine lv_iconst (v := 1) hx hb dL_law_175 (by decide) ?_
    refine lv_iadd hx hb dL_law_176 ?_
    refine hp_c (v := (nI (3 * j + 1))) (nI_add (3 * j) 1) ?_
    refine hp_cell (rest := []) B0 hl hw hS hX hbl hbA (by omega) (by omega) qM_L_172 hl9.1 (Nat.le_of_ble_eq_true rfl) ⟨⟨Nat.le_of_ble_eq_true rfl, Nat.le_of_ble_eq_true rfl⟩, (by first | omega | (dsimp only; omega) | (show (_ : Nat) ≤ _; simp only [room_1]; omega)), (by first | omega | (dsimp only; omega) | (show (_ : Nat) ≤ _; simp only [room_1]; omega))⟩ dL_law_177 (fun w2 H locs hw hS => ?_)
    refine lv_istore (lv' := [(14, .int w2), (13, .int w1), (12, .int (nI j)), (0, .ref b), (1, .ref xo), (2, .ref lx), (3, .ref ly), (4, .ref lw), (5, .ref la), (6, .ref lq), (7, .ref le), (8, .ref lb), (9, .ref lh), (10, .ref lr), (11, .ref lg)]) hx hb dL_law_180 hl9 (by decide) rfl (fun ls hl9 => ?_)
    refine lv_aload_n hx hb dL_law_182 rfl (lv_at hl9 3 rfl) ?_
    refine lv_iconst (v := 3) hx hb dL_law_183 (by decide) ?_
    refine lv_iload hx hb dL_law_184 (lv_at hl9 2 rfl) ?_
    refine lv_imul hx hb dL_law_186 ?_
    refine hp_c (v := (nI (3 * j))) (pk_mul 3 j) ?_
    refine lv_iconst (v := 2) hx hb dL_law_187 (by decide) ?_
    refine lv_iadd hx hb dL_law_188 ?_
    refine hp_c (v := (nI (3 * j + 2))) (nI_add (3 * j) 2) ?_
    refine hp_cell (rest := []) B0 hl hw hS hX hbl hbA (by omega) (by omega) qM_L_172 hl9.1 (Nat.le_of_ble_eq_true rfl) ⟨⟨Nat.le_of_ble_eq_true rfl, Nat.le_of_ble_eq_true rfl⟩, (by first | omega | (dsimp only; omega) | (show (_ : Nat) ≤ _; simp only [room_1]; omega)), (by first | omega | (dsimp only; omega) | (show (_ : Nat) ≤ _; simp only [room_1]; omega))⟩ dL_law_189 (fun w3 H locs hw hS => ?_)
    refine lv_istore (lv' := [(15, .int w3), (14, .int w2), (13, .int w1), (12, .int (nI j)), (0, .ref b), (1, .ref xo), (2, .ref lx), (3, .ref ly), (4, .ref lw), (5, .ref la), (6, .ref lq), (7, .ref le), (8, .ref lb), (9, .ref lh), (10, .ref lr), (11, .ref lg)]) hx hb dL_law_192 hl9 (by decide) rfl (fun ls hl9 => ?_)
    refine lv_iload hx hb dL_law_194 (lv_at hl9 3 rfl) ?_
    refine lv_bipush (v := 8) hx hb dL_law_196 (by decide) ?_
    refine lv_icmp_ge (tgt := 210) hx hb dL_law_198 (by decide) (fun c4 => ?_) (fun c4 => ?_)
    · refine lv_iload hx hb dL_law_210 (lv_at hl9 2 rfl) ?_
      refine lv_bipush (v := 32) hx hb dL_law_212 (by decide) ?_
      refine hp_S (As := [.int w1, .int 32]) (rest := []) B0 hw hS (c_L_low hl G f9 w1 32 (by omega) (by omega)) mS_L_low qM_L_94 rfl rfl hl9.1 (Nat.le_of_ble_eq_true rfl) ⟨⟨Nat.le_of_ble_eq_true rfl, Nat.le_of_ble_eq_true rfl⟩, (by first | omega | (dsimp only; omega) | (show (_ : Nat) ≤ _; simp only [room_1]; omega)), (by first | omega | (dsimp only; omega) | (show (_ : Nat) ≤ _; simp only [room_1]; omega))⟩ dL_law_214 (fun E ce q9 f5 H locs hPX hw hS hce hcv hcl => ?_) (fun v f5 H locs hP hw hS => ?_)
      · exact hPX.elim
      · obtain ⟨ef9, j6, hj7, ev9⟩ := hP
        rw [ef9] at hw
        subst ev9
        refine W.eq (g2 := F0 m 217 ls [.int (nI j6)]) rfl ?_
        refine lv_istore (lv' := [(16, .int (nI j6)), (15, .int w3), (14, .int w2), (13, .int w1), (12, .int (nI j)), (0, .ref b), (1, .ref xo), (2, .ref lx), (3, .ref ly), (4, .ref lw), (5, .ref la), (6, .ref lq), (7, .ref le), (8, .ref lb), (9, .ref lh), (10, .ref lr), (11, .ref lg)]) hx hb dL_law_217 hl9 (by decide) rfl (fun ls hl9 => ?_)
        refine lv_aload hx hb dL_law_219 (lv_at hl9 12 rfl) ?_
        refine lv_bipush (v := 7) hx hb dL_law_221 (by decide) ?_
        refine hp_iald B0 hw k_le (by unfold vp_in; decide) dL_law_223 ?_
        refine hp_c (v := (nI S0.2.2.2.2.2.2.2.2.length)) (rfl) ?_
        refine lv_bipush (v := 40) hx hb dL_law_224 (by decide) ?_
        refine lv_icmp_gt (tgt := 239) hx hb dL_law_226 (by decide) (fun c8 => ?_) (fun c8 => ?_)
        · refine lv_bipush (v := 22) hx hb dL_law_239 (by decide) ?_
          refine lv_istore (lv' := [(16, .int 22), (15, .int w3), (14, .int w2), (13, .int w1), (12, .int (nI j)), (0, .ref b), (1, .ref xo), (2, .ref lx), (3, .ref ly), (4, .ref lw), (5, .ref la), (6, .ref lq), (7, .ref le), (8, .ref lb), (9, .ref lh), (10, .ref lr), (11, .ref lg)]) hx hb dL_law_241 hl9 (by decide) rfl (fun ls hl9 => ?_)
          refine lv_aload hx hb dL_law_243 (lv_at hl9 12 rfl) ?_
          refine lv_bipush (v := 7) hx hb dL_law_245 (by decide) ?_
          refine hp_iald B0 hw k_le (by unfold vp_in; decide) dL_law_247 ?_
          refine hp_c (v := (nI S0.2.2.2.2.2.2.2.2.length)) (rfl) ?_
          refine lv_bipush (v := 40) hx hb dL_law_248 (by decide) ?_
          refine lv_icmp_le (tgt := 257) hx hb dL_law_250 (by decide) (fun c10 => ?_) (fun c10 => ?_)
          · refine lv_iconst (v := 1) hx hb dL_law_257 (by decide) ?_
            refine lv_istore (lv' := [(14, .int 1), (16, .int 22), (15, .int w3), (13, .int w1), (12, .int (nI j)), (0, .ref b), (1, .ref xo), (2, .ref lx), (3, .ref ly), (4, .ref lw), (5, .ref la), (6, .ref lq), (7, .ref le), (8, .ref lb), (9, .ref lh), (10, .ref lr), (11, .ref lg)]) hx hb dL_law_258 hl9 (by decide) rfl (fun ls hl9 => ?_)
            exact lt_260 hL hx hb hX hbl hl B0 hbA hdis hdos hlb hbl9 n_lx_ly n_lw_la n_lw_lq n_la_lq hj ih 22 (by omega) 1 w3 w1 hC hLX hLB hInv hl0 hl1 ha60 hw hS (lv_sub hl9 [1, 0, 2, 3, 4, 5, 6, 7, 8, 9, 10, 11, 12, 13, 14, 15, 16] rfl) (fun h9 => absurd rfl h9)
          · refine lv_iconst (v := 0) hx hb dL_law_253 (by decide) ?_
            refine lv_goto (tgt := 258) hx hb dL_law_254 (by decide) ?_
            refine lv_istore (lv' := [(14, .int 0), (16, .int 22), (15, .int w3), (13, .int w1), (12, .int (nI j)), (0, .ref b), (1, .ref xo), (2, .ref lx), (3, .ref ly), (4, .ref lw), (5, .ref la), (6, .ref lq), (7, .ref le), (8, .ref lb), (9, .ref lh), (10, .ref lr), (11, .ref lg)]) hx hb dL_law_258 hl9 (by decide) rfl (fun ls hl9 => ?_)
            exact lt_260 hL hx hb hX hbl hl B0 hbA hdis hdos hlb hbl9 n_lx_ly n_lw_la n_lw_lq n_la_lq hj ih 22 (by omega) 0 w3 w1 hC hLX hLB hInv hl0 hl1 ha60 hw hS (lv_sub hl9 [1, 0, 2, 3, 4, 5, 6, 7, 8, 9, 10, 11, 12, 13, 14, 15, 16] rfl) (fun h9 => absurd rfl h9)
        · refine lv_aload hx hb dL_law_229 (lv_at hl9 12 rfl) ?_
          refine lv_bipush (v := 15) hx hb dL_law_231 (by decide) ?_
          refine hp_iald B0 hw k_le (by unfold vp_in; decide) dL_law_233 ?_
          refine hp_c (v := (nI S1.2.2.2.2.2.2.2.2.length)) (rfl) ?_
          refine lv_bipush (v := 40) hx hb dL_law_234 (by decide) ?_
          refine lv_icmp_le (tgt := 260) hx hb dL_law_236 (by decide) (fun c11 => ?_) (fun c11 => ?_)
          · exact lt_260 hL hx hb hX hbl hl B0 hbA hdis hdos hlb hbl9 n_lx_ly n_lw_la n_lw_lq n_la_lq hj ih j6 (by omega) w2 w3 w1 hC hLX hLB hInv hl0 hl1 ha60 hw hS (lv_sub hl9 [0, 2, 1, 3, 4, 5, 6, 7, 8, 9, 10, 11, 12, 13, 14, 15, 16] rfl) (fun _ => ⟨(by have h9 := Int32.not_lt.mp c8; exact (nI_leI (show S0.2.2.2.2.2.2.2.2.length < 2 ^ 31 by omega) (show 40 < 2 ^ 31 by omega)).mp h9), (by have h9 := (nI_leI (show S1.2.2.2.2.2.2.2.2.length < 2 ^ 31 by omega) (show 40 < 2 ^ 31 by omega)).mp c11; exact h9)⟩)
          · refine lv_bipush (v := 22) hx hb dL_law_239 (by decide) ?_
            refine lv_istore (lv' := [(16, .int 22), (15, .int w3), (14, .int w2), (13, .int w1), (12, .int (nI j)), (0, .ref b), (1, .ref xo), (2, .ref lx), (3, .ref ly), (4, .ref lw), (5, .ref la), (6, .ref lq), (7, .ref le), (8, .ref lb), (9, .ref lh), (10, .ref lr), (11, .ref lg)]) hx hb dL_law_241 hl9 (by decide) rfl (fun ls hl9 => ?_)
            refine lv_aload hx hb dL_law_243 (lv_at hl9 12 rfl) ?_
            refine lv_bipush (v := 7) hx hb dL_law_245 (by decide) ?_
            refine hp_iald B0 hw k_le (by unfold vp_in; decide) dL_law_247 ?_
            refine hp_c (v := (nI S0.2.2.2.2.2.2.2.2.length)) (rfl) ?_
            refine lv_bipush (v := 40) hx hb dL_law_248 (by decide) ?_
            refine lv_icmp_le (tgt := 257) hx hb dL_law_250 (by decide) (fun c12 => ?_) (fun c12 => ?_)
            · refine lv_iconst (v := 1) hx hb dL_law_257 (by decide) ?_
              refine lv_istore (lv' := [(14, .int 1), (16, .int 22), (15, .int w3), (13, .int w1), (12, .int (nI j)), (0, .ref b), (1, .ref xo), (2, .ref lx), (3, .ref ly), (4, .ref lw), (5, .ref la), (6, .ref lq), (7, .ref le), (8, .ref lb), (9, .ref lh), (10, .ref lr), (11, .ref lg)]) hx hb dL_law_258 hl9 (by decide) rfl (fun ls hl9 => ?_)
              exact lt_260 hL hx hb hX hbl hl B0 hbA hdis hdos hlb hbl9 n_lx_ly n_lw_la n_lw_lq n_la_lq hj ih 22 (by omega) 1 w3 w1 hC hLX hLB hInv hl0 hl1 ha60 hw hS (lv_sub hl9 [1, 0, 2, 3, 4, 5, 6, 7, 8, 9, 10, 11, 12, 13, 14, 15, 16] rfl) (fun h9 => absurd rfl h9)
            · refine lv_iconst (v := 0) hx hb dL_law_253 (by decide) ?_
              refine lv_goto (tgt := 258) hx hb dL_law_254 (by decide) ?_
              refine lv_istore (lv' := [(14, .int 0), (16, .int 22), (15, .int w3), (13, .int w1), (12, .int (nI j)), (0, .ref b), (1, .ref xo), (2, .ref lx), (3, .ref ly), (4, .ref lw), (5, .ref la), (6, .ref lq), (7, .ref le), (8, .ref lb), (9, .ref lh), (10, .ref lr), (11, .ref lg)]) hx hb dL_law_258 hl9 (by decide) rfl (fun ls hl9 => ?_)
              exact lt_260 hL hx hb hX hbl hl B0 hbA hdis hdos hlb hbl9 n_lx_ly n_lw_la n_lw_lq n_la_lq hj ih 22 (by omega) 0 w3 w1 hC hLX hLB hInv hl0 hl1 ha60 hw hS (lv_sub hl9 [1, 0, 2, 3, 4, 5, 6, 7, 8, 9, 10, 11, 12, 13, 14, 15, 16] rfl) (fun h9 => absurd rfl h9)
    · refine lv_iload hx hb dL_law_201 (lv_at hl9 3 rfl) ?_
      refine lv_iconst (v := 2) hx hb dL_law_203 (by decide) ?_
      refine lv_irem hx hb dL_law_204 (by decide) ?_
      refine hp_c (v := (nI (j % 2))) (pk_rem (d := 2) (by omega) (by omega) (by omega)) ?_
      refine lv_iconst (v := 4) hx hb dL_law_205 (by decide) ?_
      refine lv_imul hx hb dL_law_206 ?_
      refine hp_c (v := (nI (j % 2 * 4))) (pk_mul (j % 2) 4) ?_
      refine lv_goto (tgt := 217) hx hb dL_law_207 (by decide) ?_
      refine lv_istore (lv' := [(16, .int (nI (j % 2 * 4))), (15, .int w3), (14, .int w2), (13, .int w1), (12, .int (nI j)), (0, .ref b), (1, .ref xo), (2, .ref lx), (3, .ref ly), (4, .ref lw), (5, .ref la), (6, .ref lq), (7, .ref le), (8, .ref lb), (9, .ref lh), (10, .ref lr), (11, .ref lg)]) hx hb dL_law_217 hl9 (by decide) rfl (fun ls hl9 => ?_)
      refine lv_aload hx hb dL_law_219 (lv_at hl9 12 rfl) ?_
      refine lv_bipush (v := 7) hx hb dL_law_221 (by decide) ?_
      refine hp_iald B0 hw k_le (by unfold vp_in; decide) dL_law_223 ?_
      refine hp_c (v := (nI S0.2.2.2.2.2.2.2.2.length)) (rfl) ?_
      refine lv_bipush (v := 40) hx hb dL_law_224 (by decide) ?_
      refine lv_icmp_gt (tgt := 239) hx hb dL_law_226 (by decide) (fun c13 => ?_) (fun c13 => ?_)
      · refine lv_bipush (v := 22) hx hb dL_law_239 (by decide) ?_
        refine lv_istore (lv' := [(16, .int 22), (15, .int w3), (14, .int w2), (13, .int w1), (12, .int (nI j)), (0, .ref b), (1, .ref xo), (2, .ref lx), (3, .ref ly), (4, .ref lw), (5, .ref la), (6, .ref lq), (7, .ref le), (8, .ref lb), (9, .ref lh), (10, .ref lr), (11, .ref lg)]) hx hb dL_law_241 hl9 (by decide) rfl (fun ls hl9 => ?_)
        refine lv_aload hx hb dL_law_243 (lv_at hl9 12 rfl) ?_
        refine lv_bipush (v := 7) hx hb dL_law_245 (by decide) ?_
        refine hp_iald B0 hw k_le (by unfold vp_in; decide) dL_law_247 ?_
        refine hp_c (v := (nI S0.2.2.2.2.2.2.2.2.length)) (rfl) ?_
        refine lv_bipush (v := 40) hx hb dL_law_248 (by decide) ?_
        refine lv_icmp_le (tgt := 257) hx hb dL_law_250 (by decide) (fun c14 => ?_) (fun c14 => ?_)
        · refine lv_iconst (v := 1) hx hb dL_law_257 (by decide) ?_
          refine lv_istore (lv' := [(14, .int 1), (16, .int 22), (15, .int w3), (13, .int w1), (12, .int (nI j)), (0, .ref b), (1, .ref xo), (2, .ref lx), (3, .ref ly), (4, .ref lw), (5, .ref la), (6, .ref lq), (7, .ref le), (8, .ref lb), (9, .ref lh), (10, .ref lr), (11, .ref lg)]) hx hb dL_law_258 hl9 (by decide) rfl (fun ls hl9 => ?_)
          exact lt_260 hL hx hb hX hbl hl B0 hbA hdis hdos hlb hbl9 n_lx_ly n_lw_la n_lw_lq n_la_lq hj ih 22 (by omega) 1 w3 w1 hC hLX hLB hInv hl0 hl1 ha60 hw hS (lv_sub hl9 [1, 0, 2, 3, 4, 5, 6, 7, 8, 9, 10, 11, 12, 13, 14, 15, 16] rfl) (fun h9 => absurd rfl h9)
        · refine lv_iconst (v := 0) hx hb dL_law_253 (by decide) ?_
          refine lv_goto (tgt := 258) hx hb dL_law_254 (by decide) ?_
          refine lv_istore (lv' := [(14, .int 0), (16, .int 22), (15, .int w3), (13, .int w1), (12, .int (nI j)), (0, .ref b), (1, .ref xo), (2, .ref lx), (3, .ref ly), (4, .ref lw), (5, .ref la), (6, .ref lq), (7, .ref le), (8, .ref lb), (9, .ref lh), (10, .ref lr), (11, .ref lg)]) hx hb dL_law_258 hl9 (by decide) rfl (fun ls hl9 => ?_)
          exact lt_260 hL hx hb hX hbl hl B0 hbA hdis hdos hlb hbl9 n_lx_ly n_lw_la n_lw_lq n_la_lq hj ih 22 (by omega) 0 w3 w1 hC hLX hLB hInv hl0 hl1 ha60 hw hS (lv_sub hl9 [1, 0, 2, 3, 4, 5, 6, 7, 8, 9, 10, 11, 12, 13, 14, 15, 16] rfl) (fun h9 => absurd rfl h9)
      · refine lv_aload hx hb dL_law_229 (lv_at hl9 12 rfl) ?_
        refine lv_bipush (v := 15) hx hb dL_law_231 (by decide) ?_
        refine hp_iald B0 hw k_le (by unfold vp_in; decide) dL_law_233 ?_
        refine hp_c (v := (nI S1.2.2.2.2.2.2.2.2.length)) (rfl) ?_
        refine lv_bipush (v := 40) hx hb dL_law_234 (by decide) ?_
        refine lv_icmp_le (tgt := 260) hx hb dL_law_236 (by decide) (fun c15 => ?_) (fun c15 => ?_)
        · exact lt_260 hL hx hb hX hbl hl B0 hbA hdis hdos hlb hbl9 n_lx_ly n_lw_la n_lw_lq n_la_lq hj ih (j % 2 * 4) (by omega) w2 w3 w1 hC hLX hLB hInv hl0 hl1 ha60 hw hS (lv_sub hl9 [0, 2, 1, 3, 4, 5, 6, 7, 8, 9, 10, 11, 12, 13, 14, 15, 16] rfl) (fun _ => ⟨(by have h9 := Int32.not_lt.mp c13; exact (nI_leI (show S0.2.2.2.2.2.2.2.2.length < 2 ^ 31 by omega) (show 40 < 2 ^ 31 by omega)).mp h9), (by have h9 := (nI_leI (show S1.2.2.2.2.2.2.2.2.length < 2 ^ 31 by omega) (show 40 < 2 ^ 31 by omega)).mp c15; exact h9)⟩)
        · refine lv_bipush (v := 22) hx hb dL_law_239 (by decide) ?_
          refine lv_istore (lv' := [(16, .int 22), (15, .int w3), (14, .int w2), (13, .int w1), (12, .int (nI j)), (0, .ref b), (1, .ref xo), (2, .ref lx), (3, .ref ly), (4, .ref lw), (5, .ref la), (6, .ref lq), (7, .ref le), (8, .ref lb), (9, .ref lh), (10, .ref lr), (11, .ref lg)]) hx hb dL_law_241 hl9 (by decide) rfl (fun ls hl9 => ?_)
          refine lv_aload hx hb dL_law_243 (lv_at hl9 12 rfl) ?_
          refine lv_bipush (v := 7) hx hb dL_law_245 (by decide) ?_
          refine hp_iald B0 hw k_le (by unfold vp_in; decide) dL_law_247 ?_
          refine hp_c (v := (nI S0.2.2.2.2.2.2.2.2.length)) (rfl) ?_
          refine lv_bipush (v := 40) hx hb dL_law_248 (by decide) ?_
          refine lv_icmp_le (tgt := 257) hx hb dL_law_250 (by decide) (fun c16 => ?_) (fun c16 => ?_)
          · refine lv_iconst (v := 1) hx hb dL_law_257 (by decide) ?_
            refine lv_istore (lv' := [(14, .int 1), (16, .int 22), (15, .int w3), (13, .int w1), (12, .int (nI j)), (0, .ref b), (1, .ref xo), (2, .ref lx), (3, .ref ly), (4, .ref lw), (5, .ref la), (6, .ref lq), (7, .ref le), (8, .ref lb), (9, .ref lh), (10, .ref lr), (11, .ref lg)]) hx hb dL_law_258 hl9 (by decide) rfl (fun ls hl9 => ?_)
            exact lt_260 hL hx hb hX hbl hl B0 hbA hdis hdos hlb hbl9 n_lx_ly n_lw_la n_lw_lq n_la_lq hj ih 22 (by omega) 1 w3 w1 hC hLX hLB hInv hl0 hl1 ha60 hw hS (lv_sub hl9 [1, 0, 2, 3, 4, 5, 6, 7, 8, 9, 10, 11, 12, 13, 14, 15, 16] rfl) (fun h9 => absurd rfl h9)
          · refine lv_iconst (v := 0) hx hb dL_law_253 (by decide) ?_
            refine lv_goto (tgt := 258) hx hb dL_law_254 (by decide) ?_
            refine lv_istore (lv' := [(14, .int 0), (16, .int 22), (15, .int w3), (13, .int w1), (12, .int (nI j)), (0, .ref b), (1, .ref xo), (2, .ref lx), (3, .ref ly), (4, .ref lw), (5, .ref la), (6, .ref lq), (7, .ref le), (8, .ref lb), (9, .ref lh), (10, .ref lr), (11, .ref lg)]) hx hb dL_law_258 hl9 (by decide) rfl (fun ls hl9 => ?_)
            exact lt_260 hL hx hb hX hbl hl B0 hbA hdis hdos hlb hbl9 n_lx_ly n_lw_la n_lw_lq n_la_lq hj ih 22 (by omega) 0 w3 w1 hC hLX hLB hInv hl0 hl1 ha60 hw hS (lv_sub hl9 [1, 0, 2, 3, 4, 5, 6, 7, 8, 9, 10, 11, 12, 13, 14, 15, 16] rfl) (fun h9 => absurd rfl h9)
  · obtain ⟨S0, S1, gw0, ga0, gw1, ga1, n, a, cg, x, sa, pk, fl, gv, gh, gl, hC, hLX, hLB, hInv, hl0, hl1, ha60, el9⟩ := hI
    rw [el9] at hl9
    refine lv_iload hx hb dL_law_152 (lv_at hl9 0 rfl) ?_
    refine lv_sipush (v := 150) hx hb dL_law_154 (by decide) ?_
    refine lv_icmp_ge (tgt := 358) hx hb dL_law_157 (by decide) (fun _ => ?_) (fun c9 => absurd (by decide) c9)
    refine lv_iconst (v := 1) hx hb dL_law_358 (by decide) ?_
    refine va_forget (fun q hq => hFs _ (hS.2.2 q hq)) ?_
    refine W.widen (k := 705865) (n := 6983874) (by omega) (by omega) ?_
    exact lw_ret hx hb hr hlocks dL_law_359

set_option maxHeartbeats 40000000 in
set_option maxRecDepth 100000 in
theorem whole_start {p : Program} {e : Env} {s : State} {m : MethodId} {below : List Frame} {meth : Method} {c : Code} (l : Launch) (hflags : l.flags = flags0) {b L : Nat} {xs : Nat → Int32} (hL : L ≤ 260) (C0 : lw_At p s m meth c b L xs) : W p l e room_1 s m #[Value.ref b] below meth c s.heap [] 0 0 (lw_Z below #[Value.ref b] s) (entryFrame m ([Value.ref b] : List Value).toArray 17) := by
  obtain ⟨hx, hb, hr, hml, hown, hts, hX, hbl, hlocks, hgv⟩ := id C0
  have hl : l.stackTraces = false := by unfold Launch.stackTraces; rw [hflags]; decide
  obtain ⟨dC, dI, cI9, cZ9, cJ9, hk⟩ := hK_0 hts hgv
  obtain ⟨G, hGe⟩ : ∃ G : hG, G = ((dC, dI), (cI9, cZ9, cJ9), s.heap.size) := ⟨_, rfl⟩
  rw [← hGe] at hk
  have B0 : hB p l s m #[Value.ref b] meth c code 17 RL G := ⟨hx, hb, hml, hown, fun w h => hts w (List.mem_filter.mp h).1, hlocks, hk, hl⟩
  have hFs : ∀ q : Nat, hFr G q → s.heap.size ≤ q := by rw [hGe]; exact fun _ h => h
  have hbA : ¬ hFr G b := fun h => absurd (hFs b h) (Nat.not_le.mpr hbl)
  have hS : va_S (hFr G) s.heap s.heap [] := va_S.rf
  obtain ⟨f, hf0⟩ : ∃ f : hM, f = fun _ => none := ⟨_, rfl⟩
  have hw : hW G f s.heap := by rw [hf0]; exact hW_0
  have hf0 : ∀ a k, f a ≠ some (.inr (2, k)) := fun a k h => by rw [hf0] at h; cases h
  have hl9 := lv_entry ([.ref b]) (n := 17) (Nat.le_of_ble_eq_true rfl)
  rw [lg_entry_eq]
  generalize (lg_sl ([.ref b]) ++ List.replicate (17 - (lg_sl ([.ref b])).length) Slot.unset).toArray = ls at hl9 ⊢
  have hl9 : lv_has ls 17 [(0, .ref b)] := hl9
  refine hp_new (fs := [.null, .null, .null]) B0 hw hS 4 rfl in_X4 tyX4 tyX4_ok qC_L_9 qI_X4 qN_X4 (fun j hj => by rcases (show j = 0 ∨ j = 1 ∨ j = 2 by omega) with rfl | rfl | rfl <;> rfl) (Nat.le_of_ble_eq_true rfl) (Nat.le_of_ble_eq_true rfl) dL_law_0 (fun xo H f2 w1 ef2 hw hS => ?_)
  have h3 : f2 xo = some (.inr (4, [.null, .null, .null])) := by rw [ef2, va_up_self]
  refine lv_dup hx hb dL_law_3 rfl ?_
  refine hp_I (As := []) (rest := [.ref xo]) (b := xo) B0 hw hS (c_X4_init hl G f2 xo h3) mI_X4_init qM_L_167 rfl rfl hl9.1 (Nat.le_of_ble_eq_true rfl) ⟨⟨Nat.le_of_ble_eq_true rfl, Nat.le_of_ble_eq_true rfl⟩, (by first | omega | (dsimp only; omega) | (show (_ : Nat) ≤ _; simp only [room_1]; omega)), (by first | omega | (dsimp only; omega) | (show (_ : Nat) ≤ _; simp only [room_1]; omega))⟩ dL_law_4 (fun E ce q9 f4 H locs hPX hw hS hce hcv hcl => ?_) (fun v f4 H locs hP hw hS => ?_)
  · exact hPX.elim
  · obtain ⟨ev9, ez, eo, bu, nw0, na0, nq0, nr0, nw1, na1, nq1, nr1, bs, bp, bh, bf, bl, bg, wez, weo, wbu, wnw0, wna0, wnq0, wnr0, wnw1, wna1, wnq1, wnr1, wbs, wbp, wbh, wbf, wbl, wbg, h5, h6, h7, h8, h10, h11, h12, h13, h14, h15, h16, h17, h18, h19, h20, h21, h22, h23, nd_ez_eo, nd_nr0_nr1, nd_nw0_na0, nd_nw0_nq0, nd_nw0_nw1, nd_nw0_na1, nd_nw0_nq1, nd_na0_nq0, nd_na0_nw1, nd_na0_na1, nd_na0_nq1, nd_nq0_nw1, nd_nq0_na1, nd_nq0_nq1, nd_nw1_na1, nd_nw1_nq1, nd_na1_nq1, nd_bh_bp, nd_bf_bl, k24, -⟩ := hP
    subst ev9
    refine W.eq (g2 := F0 m 7 ls [.ref xo]) rfl ?_
    refine lv_astore_n (lv' := [(1, .ref xo), (0, .ref b)]) hx hb dL_law_7 rfl hl9 (by decide) rfl (fun ls hl9 => ?_)
    refine lv_bipush (v := 64) hx hb dL_law_8 (by decide) ?_
    refine hp_newaJ (N' := 64) B0 hw hS qA_long (by decide) (by decide) (Nat.le_of_ble_eq_true rfl) (Nat.le_of_ble_eq_true rfl) (Nat.le_of_ble_eq_true rfl) dL_law_10 (fun lx H f26 w25 ef26 hw hS => ?_)
    have h27 : f26 lx = some (.inl (cJ G, 64, .inr (.inl (fun _ => 0)))) := by rw [ef26, va_up_self]
    refine lv_astore_n (lv' := [(2, .ref lx), (1, .ref xo), (0, .ref b)]) hx hb dL_law_12 rfl hl9 (by decide) rfl (fun ls hl9 => ?_)
    refine lv_bipush (v := 64) hx hb dL_law_13 (by decide) ?_
    refine hp_newaJ (N' := 64) B0 hw hS qA_long (by decide) (by decide) (Nat.le_of_ble_eq_true rfl) (Nat.le_of_ble_eq_true rfl) (Nat.le_of_ble_eq_true rfl) dL_law_15 (fun ly H f29 w28 ef29 hw hS => ?_)
    have h30 : f29 ly = some (.inl (cJ G, 64, .inr (.inl (fun _ => 0)))) := by rw [ef29, va_up_self]
    refine lv_astore_n (lv' := [(3, .ref ly), (2, .ref lx), (1, .ref xo), (0, .ref b)]) hx hb dL_law_17 rfl hl9 (by decide) rfl (fun ls hl9 => ?_)
    refine lv_bipush (v := 12) hx hb dL_law_18 (by decide) ?_
    refine hp_newaI (N' := 12) B0 hw hS qA_int (by decide) (by decide) (Nat.le_of_ble_eq_true rfl) (Nat.le_of_ble_eq_true rfl) (Nat.le_of_ble_eq_true rfl) dL_law_20 (fun lw H f32 w31 ef32 hw hS => ?_)
    have h33 : f32 lw = some (.inl (cI G, 12, .inl (fun _ => 0))) := by rw [ef32, va_up_self]
    refine lv_astore (lv' := [(4, .ref lw), (3, .ref ly), (2, .ref lx), (1, .ref xo), (0, .ref b)]) hx hb dL_law_22 hl9 (by decide) rfl (fun ls hl9 => ?_)
    refine lv_bipush (v := 12) hx hb dL_law_24 (by decide) ?_
    refine hp_newaI (N' := 12) B0 hw hS qA_int (by decide) (by decide) (Nat.le_of_ble_eq_true rfl) (Nat.le_of_ble_eq_true rfl) (Nat.le_of_ble_eq_true rfl) dL_law_26 (fun la H f35 w34 ef35 hw hS => ?_)
    have h36 : f35 la = some (.inl (cI G, 12, .inl (fun _ => 0))) := by rw [ef35, va_up_self]
    refine lv_astore (lv' := [(5, .ref la), (4, .ref lw), (3, .ref ly), (2, .ref lx), (1, .ref xo), (0, .ref b)]) hx hb dL_law_28 hl9 (by decide) rfl (fun ls hl9 => ?_)
    refine lv_bipush (v := 12) hx hb dL_law_30 (by decide) ?_
    refine hp_newaI (N' := 12) B0 hw hS qA_int (by decide) (by decide) (Nat.le_of_ble_eq_true rfl) (Nat.le_of_ble_eq_true rfl) (Nat.le_of_ble_eq_true rfl) dL_law_32 (fun lq H f38 w37 ef38 hw hS => ?_)
    have h39 : f38 lq = some (.inl (cI G, 12, .inl (fun _ => 0))) := by rw [ef38, va_up_self]
    refine lv_astore (lv' := [(6, .ref lq), (5, .ref la), (4, .ref lw), (3, .ref ly), (2, .ref lx), (1, .ref xo), (0, .ref b)]) hx hb dL_law_34 hl9 (by decide) rfl (fun ls hl9 => ?_)
    refine lv_bipush (v := 16) hx hb dL_law_36 (by decide) ?_
    refine hp_newaI (N' := 16) B0 hw hS qA_int (by decide) (by decide) (Nat.le_of_ble_eq_true rfl) (Nat.le_of_ble_eq_true rfl) (Nat.le_of_ble_eq_true rfl) dL_law_38 (fun le H f41 w40 ef41 hw hS => ?_)
    have h42 : f41 le = some (.inl (cI G, 16, .inl (fun _ => 0))) := by rw [ef41, va_up_self]
    refine lv_astore (lv' := [(7, .ref le), (6, .ref lq), (5, .ref la), (4, .ref lw), (3, .ref ly), (2, .ref lx), (1, .ref xo), (0, .ref b)]) hx hb dL_law_40 hl9 (by decide) rfl (fun ls hl9 => ?_)
    refine lv_bipush (v := 64) hx hb dL_law_42 (by decide) ?_
    refine hp_newaI (N' := 64) B0 hw hS qA_int (by decide) (by decide) (Nat.le_of_ble_eq_true rfl) (Nat.le_of_ble_eq_true rfl) (Nat.le_of_ble_eq_true rfl) dL_law_44 (fun lb H f44 w43 ef44 hw hS => ?_)
    have h45 : f44 lb = some (.inl (cI G, 64, .inl (fun _ => 0))) := by rw [ef44, va_up_self]
    refine lv_astore (lv' := [(8, .ref lb), (7, .ref le), (6, .ref lq), (5, .ref la), (4, .ref lw), (3, .ref ly), (2, .ref lx), (1, .ref xo), (0, .ref b)]) hx hb dL_law_46 hl9 (by decide) rfl (fun ls hl9 => ?_)
    refine lv_iconst (v := 1) hx hb dL_law_48 (by decide) ?_
    refine hp_newaJ (N' := 1) B0 hw hS qA_long (by decide) (by decide) (Nat.le_of_ble_eq_true rfl) (Nat.le_of_ble_eq_true rfl) (Nat.le_of_ble_eq_true rfl) dL_law_49 (fun lh H f47 w46 ef47 hw hS => ?_)
    have h48 : f47 lh = some (.inl (cJ G, 1, .inr (.inl (fun _ => 0)))) := by rw [ef47, va_up_self]
    refine lv_astore (lv' := [(9, .ref lh), (8, .ref lb), (7, .ref le), (6, .ref lq), (5, .ref la), (4, .ref lw), (3, .ref ly), (2, .ref lx), (1, .ref xo), (0, .ref b)]) hx hb dL_law_51 hl9 (by decide) rfl (fun ls hl9 => ?_)
    refine lv_bipush (v := 60) hx hb dL_law_53 (by decide) ?_
    refine hp_newaI (N' := 60) B0 hw hS qA_int (by decide) (by decide) (Nat.le_of_ble_eq_true rfl) (Nat.le_of_ble_eq_true rfl) (Nat.le_of_ble_eq_true rfl) dL_law_55 (fun lr H f50 w49 ef50 hw hS => ?_)
    have h51 : f50 lr = some (.inl (cI G, 60, .inl (fun _ => 0))) := by rw [ef50, va_up_self]
    refine lv_astore (lv' := [(10, .ref lr), (9, .ref lh), (8, .ref lb), (7, .ref le), (6, .ref lq), (5, .ref la), (4, .ref lw), (3, .ref ly), (2, .ref lx), (1, .ref xo), (0, .ref b)]) hx hb dL_law_57 hl9 (by decide) rfl (fun ls hl9 => ?_)
    refine lv_bipush (v := 10) hx hb dL_law_59 (by decide) ?_
    refine hp_newaI (N' := 10) B0 hw hS qA_int (by decide) (by decide) (Nat.le_of_ble_eq_true rfl) (Nat.le_of_ble_eq_true rfl) (Nat.le_of_ble_eq_true rfl) dL_law_61 (fun lg H f53 w52 ef53 hw hS => ?_)
    have h54 : f53 lg = some (.inl (cI G, 10, .inl (fun _ => 0))) := by rw [ef53, va_up_self]
    refine lv_astore (lv' := [(11, .ref lg), (10, .ref lr), (9, .ref lh), (8, .ref lb), (7, .ref le), (6, .ref lq), (5, .ref la), (4, .ref lw), (3, .ref ly), (2, .ref lx), (1, .ref xo), (0, .ref b)]) hx hb dL_law_63 hl9 (by decide) rfl (fun ls hl9 => ?_)
    have n55 : xo ≠ lx := hnew h5 w25
    have h56 : f26 xo = some (.inr (4, [.ref ez, .ref eo, .ref bu])) := by rw [ef26, va_up_ne _ _ (hnew h5 w25)]; exact h5
    have n57 : xo ≠ ly := hnew h56 w28
    have h58 : f29 xo = some (.inr (4, [.ref ez, .ref eo, .ref bu])) := by rw [ef29, va_up_ne _ _ (hnew h56 w28)]; exact h56
    have n59 : xo ≠ lw := hnew h58 w31
    have h60 : f32 xo = some (.inr (4, [.ref ez, .ref eo, .ref bu])) := by rw [ef32, va_up_ne _ _ (hnew h58 w31)]; exact h58
    have n61 : xo ≠ la := hnew h60 w34
    have h62 : f35 xo = some (.inr (4, [.ref ez, .ref eo, .ref bu])) := by rw [ef35, va_up_ne _ _ (hnew h60 w34)]; exact h60
    have n63 : xo ≠ lq := hnew h62 w37
    have h64 : f38 xo = some (.inr (4, [.ref ez, .ref eo, .ref bu])) := by rw [ef38, va_up_ne _ _ (hnew h62 w37)]; exact h62
    have n65 : xo ≠ le := hnew h64 w40
    have h66 : f41 xo = some (.inr (4, [.ref ez, .ref eo, .ref bu])) := by rw [ef41, va_up_ne _ _ (hnew h64 w40)]; exact h64
    have n67 : xo ≠ lb := hnew h66 w43
    have h68 : f44 xo = some (.inr (4, [.ref ez, .ref eo, .ref bu])) := by rw [ef44, va_up_ne _ _ (hnew h66 w43)]; exact h66
    have n69 : xo ≠ lh := hnew h68 w46
    have h70 : f47 xo = some (.inr (4, [.ref ez, .ref eo, .ref bu])) := by rw [ef47, va_up_ne _ _ (hnew h68 w46)]; exact h68
    have n71 : xo ≠ lr := hnew h70 w49
    have h72 : f50 xo = some (.inr (4, [.ref ez, .ref eo, .ref bu])) := by rw [ef50, va_up_ne _ _ (hnew h70 w49)]; exact h70
    have n73 : xo ≠ lg := hnew h72 w52
    have n74 : ez ≠ lx := hnew h6 w25
    have h75 : f26 ez = some (.inr (1, [.ref nw0, .ref na0, .ref nq0, .ref nr0, .int 1, .int 0, .int 0, .int 0, .int (-1), .int 0, .int 0])) := by rw [ef26, va_up_ne _ _ (hnew h6 w25)]; exact h6
    have n76 : ez ≠ ly := hnew h75 w28
    have h77 : f29 ez = some (.inr (1, [.ref nw0, .ref na0, .ref nq0, .ref nr0, .int 1, .int 0, .int 0, .int 0, .int (-1), .int 0, .int 0])) := by rw [ef29, va_up_ne _ _ (hnew h75 w28)]; exact h75
    have n78 : ez ≠ lw := hnew h77 w31
    have h79 : f32 ez = some (.inr (1, [.ref nw0, .ref na0, .ref nq0, .ref nr0, .int 1, .int 0, .int 0, .int 0, .int (-1), .int 0, .int 0])) := by rw [ef32, va_up_ne _ _ (hnew h77 w31)]; exact h77
    have n80 : ez ≠ la := hnew h79 w34
    have h81 : f35 ez = some (.inr (1, [.ref nw0, .ref na0, .ref nq0, .ref nr0, .int 1, .int 0, .int 0, .int 0, .int (-1), .int 0, .int 0])) := by rw [ef35, va_up_ne _ _ (hnew h79 w34)]; exact h79
    have n82 : ez ≠ lq := hnew h81 w37
    have h83 : f38 ez = some (.inr (1, [.ref nw0, .ref na0, .ref nq0, .ref nr0, .int 1, .int 0, .int 0, .int 0, .int (-1), .int 0, .int 0])) := by rw [ef38, va_up_ne _ _ (hnew h81 w37)]; exact h81
    have n84 : ez ≠ le := hnew h83 w40
    have h85 : f41 ez = some (.inr (1, [.ref nw0, .ref na0, .ref nq0, .ref nr0, .int 1, .int 0, .int 0, .int 0, .int (-1), .int 0, .int 0])) := by rw [ef41, va_up_ne _ _ (hnew h83 w40)]; exact h83
    have n86 : ez ≠ lb := hnew h85 w43
    have h87 : f44 ez = some (.inr (1, [.ref nw0, .ref na0, .ref nq0, .ref nr0, .int 1, .int 0, .int 0, .int 0, .int (-1), .int 0, .int 0])) := by rw [ef44, va_up_ne _ _ (hnew h85 w43)]; exact h85
    have n88 : ez ≠ lh := hnew h87 w46
    have h89 : f47 ez = some (.inr (1, [.ref nw0, .ref na0, .ref nq0, .ref nr0, .int 1, .int 0, .int 0, .int 0, .int (-1), .int 0, .int 0])) := by rw [ef47, va_up_ne _ _ (hnew h87 w46)]; exact h87
    have n90 : ez ≠ lr := hnew h89 w49
    have h91 : f50 ez = some (.inr (1, [.ref nw0, .ref na0, .ref nq0, .ref nr0, .int 1, .int 0, .int 0, .int 0, .int (-1), .int 0, .int 0])) := by rw [ef50, va_up_ne _ _ (hnew h89 w49)]; exact h89
    have n92 : ez ≠ lg := hnew h91 w52
    have n93 : eo ≠ lx := hnew h12 w25
    have h94 : f26 eo = some (.inr (1, [.ref nw1, .ref na1, .ref nq1, .ref nr1, .int 2, .int 0, .int 0, .int 0, .int (-1), .int 0, .int 0])) := by rw [ef26, va_up_ne _ _ (hnew h12 w25)]; exact h12
    have n95 : eo ≠ ly := hnew h94 w28
    have h96 : f29 eo = some (.inr (1, [.ref nw1, .ref na1, .ref nq1, .ref nr1, .int 2, .int 0, .int 0, .int 0, .int (-1), .int 0, .int 0])) := by rw [ef29, va_up_ne _ _ (hnew h94 w28)]; exact h94
    have n97 : eo ≠ lw := hnew h96 w31
    have h98 : f32 eo = some (.inr (1, [.ref nw1, .ref na1, .ref nq1, .ref nr1, .int 2, .int 0, .int 0, .int 0, .int (-1), .int 0, .int 0])) := by rw [ef32, va_up_ne _ _ (hnew h96 w31)]; exact h96
    have n99 : eo ≠ la := hnew h98 w34
    have h100 : f35 eo = some (.inr (1, [.ref nw1, .ref na1, .ref nq1, .ref nr1, .int 2, .int 0, .int 0, .int 0, .int (-1), .int 0, .int 0])) := by rw [ef35, va_up_ne _ _ (hnew h98 w34)]; exact h98
    have n101 : eo ≠ lq := hnew h100 w37
    have h102 : f38 eo = some (.inr (1, [.ref nw1, .ref na1, .ref nq1, .ref nr1, .int 2, .int 0, .int 0, .int 0, .int (-1), .int 0, .int 0])) := by rw [ef38, va_up_ne _ _ (hnew h100 w37)]; exact h100
    have n103 : eo ≠ le := hnew h102 w40
    have h104 : f41 eo = some (.inr (1, [.ref nw1, .ref na1, .ref nq1, .ref nr1, .int 2, .int 0, .int 0, .int 0, .int (-1), .int 0, .int 0])) := by rw [ef41, va_up_ne _ _ (hnew h102 w40)]; exact h102
    have n105 : eo ≠ lb := hnew h104 w43
    have h106 : f44 eo = some (.inr (1, [.ref nw1, .ref na1, .ref nq1, .ref nr1, .int 2, .int 0, .int 0, .int 0, .int (-1), .int 0, .int 0])) := by rw [ef44, va_up_ne _ _ (hnew h104 w43)]; exact h104
    have n107 : eo ≠ lh := hnew h106 w46
    have h108 : f47 eo = some (.inr (1, [.ref nw1, .ref na1, .ref nq1, .ref nr1, .int 2, .int 0, .int 0, .int 0, .int (-1), .int 0, .int 0])) := by rw [ef47, va_up_ne _ _ (hnew h106 w46)]; exact h106
    have n109 : eo ≠ lr := hnew h108 w49
    have h110 : f50 eo = some (.inr (1, [.ref nw1, .ref na1, .ref nq1, .ref nr1, .int 2, .int 0, .int 0, .int 0, .int (-1), .int 0, .int 0])) := by rw [ef50, va_up_ne _ _ (hnew h108 w49)]; exact h108
    have n111 : eo ≠ lg := hnew h110 w52
    have n112 : bu ≠ lx := hnew h17 w25
    have h113 : f26 bu = some (.inr (0, [.ref bs, .ref bp, .ref bh, .ref bf, .ref bl, .ref bg, .int 0, .int 0, .int 0])) := by rw [ef26, va_up_ne _ _ (hnew h17 w25)]; exact h17
    have n114 : bu ≠ ly := hnew h113 w28
    have h115 : f29 bu = some (.inr (0, [.ref bs, .ref bp, .ref bh, .ref bf, .ref bl, .ref bg, .int 0, .int 0, .int 0])) := by rw [ef29, va_up_ne _ _ (hnew h113 w28)]; exact h113
    have n116 : bu ≠ lw := hnew h115 w31
    have h117 : f32 bu = some (.inr (0, [.ref bs, .ref bp, .ref bh, .ref bf, .ref bl, .ref bg, .int 0, .int 0, .int 0])) := by rw [ef32, va_up_ne _ _ (hnew h115 w31)]; exact h115
    have n118 : bu ≠ la := hnew h117 w34
    have h119 : f35 bu = some (.inr (0, [.ref bs, .ref bp, .ref bh, .ref bf, .ref bl, .ref bg, .int 0, .int 0, .int 0])) := by rw [ef35, va_up_ne _ _ (hnew h117 w34)]; exact h117
    have n120 : bu ≠ lq := hnew h119 w37
    have h121 : f38 bu = some (.inr (0, [.ref bs, .ref bp, .ref bh, .ref bf, .ref bl, .ref bg, .int 0, .int 0, .int 0])) := by rw [ef38, va_up_ne _ _ (hnew h119 w37)]; exact h119
    have n122 : bu ≠ le := hnew h121 w40
    have h123 : f41 bu = some (.inr (0, [.ref bs, .ref bp, .ref bh, .ref bf, .ref bl, .ref bg, .int 0, .int 0, .int 0])) := by rw [ef41, va_up_ne _ _ (hnew h121 w40)]; exact h121
    have n124 : bu ≠ lb := hnew h123 w43
    have h125 : f44 bu = some (.inr (0, [.ref bs, .ref bp, .ref bh, .ref bf, .ref bl, .ref bg, .int 0, .int 0, .int 0])) := by rw [ef44, va_up_ne _ _ (hnew h123 w43)]; exact h123
    have n126 : bu ≠ lh := hnew h125 w46
    have h127 : f47 bu = some (.inr (0, [.ref bs, .ref bp, .ref bh, .ref bf, .ref bl, .ref bg, .int 0, .int 0, .int 0])) := by rw [ef47, va_up_ne _ _ (hnew h125 w46)]; exact h125
    have n128 : bu ≠ lr := hnew h127 w49
    have h129 : f50 bu = some (.inr (0, [.ref bs, .ref bp, .ref bh, .ref bf, .ref bl, .ref bg, .int 0, .int 0, .int 0])) := by rw [ef50, va_up_ne _ _ (hnew h127 w49)]; exact h127
    have n130 : bu ≠ lg := hnew h129 w52
    have n131 : nw0 ≠ lx := hnew h7 w25
    have h132 : f26 nw0 = some (.inl (cI G, 6, .inl (fun j => if j < 6 then (-1) else (fun _ => 0) j))) := by rw [ef26, va_up_ne _ _ (hnew h7 w25)]; exact h7
    have n133 : nw0 ≠ ly := hnew h132 w28
    have h134 : f29 nw0 = some (.inl (cI G, 6, .inl (fun j => if j < 6 then (-1) else (fun _ => 0) j))) := by rw [ef29, va_up_ne _ _ (hnew h132 w28)]; exact h132
    have n135 : nw0 ≠ lw := hnew h134 w31
    have h136 : f32 nw0 = some (.inl (cI G, 6, .inl (fun j => if j < 6 then (-1) else (fun _ => 0) j))) := by rw [ef32, va_up_ne _ _ (hnew h134 w31)]; exact h134
    have n137 : nw0 ≠ la := hnew h136 w34
    have h138 : f35 nw0 = some (.inl (cI G, 6, .inl (fun j => if j < 6 then (-1) else (fun _ => 0) j))) := by rw [ef35, va_up_ne _ _ (hnew h136 w34)]; exact h136
    have n139 : nw0 ≠ lq := hnew h138 w37
    have h140 : f38 nw0 = some (.inl (cI G, 6, .inl (fun j => if j < 6 then (-1) else (fun _ => 0) j))) := by rw [ef38, va_up_ne _ _ (hnew h138 w37)]; exact h138
    have n141 : nw0 ≠ le := hnew h140 w40
    have h142 : f41 nw0 = some (.inl (cI G, 6, .inl (fun j => if j < 6 then (-1) else (fun _ => 0) j))) := by rw [ef41, va_up_ne _ _ (hnew h140 w40)]; exact h140
    have n143 : nw0 ≠ lb := hnew h142 w43
    have h144 : f44 nw0 = some (.inl (cI G, 6, .inl (fun j => if j < 6 then (-1) else (fun _ => 0) j))) := by rw [ef44, va_up_ne _ _ (hnew h142 w43)]; exact h142
    have n145 : nw0 ≠ lh := hnew h144 w46
    have h146 : f47 nw0 = some (.inl (cI G, 6, .inl (fun j => if j < 6 then (-1) else (fun _ => 0) j))) := by rw [ef47, va_up_ne _ _ (hnew h144 w46)]; exact h144
    have n147 : nw0 ≠ lr := hnew h146 w49
    have h148 : f50 nw0 = some (.inl (cI G, 6, .inl (fun j => if j < 6 then (-1) else (fun _ => 0) j))) := by rw [ef50, va_up_ne _ _ (hnew h146 w49)]; exact h146
    have n149 : nw0 ≠ lg := hnew h148 w52
    have n150 : na0 ≠ lx := hnew h8 w25
    have h151 : f26 na0 = some (.inl (cI G, 6, .inl (fun _ => 0))) := by rw [ef26, va_up_ne _ _ (hnew h8 w25)]; exact h8
    have n152 : na0 ≠ ly := hnew h151 w28
    have h153 : f29 na0 = some (.inl (cI G, 6, .inl (fun _ => 0))) := by rw [ef29, va_up_ne _ _ (hnew h151 w28)]; exact h151
    have n154 : na0 ≠ lw := hnew h153 w31
    have h155 : f32 na0 = some (.inl (cI G, 6, .inl (fun _ => 0))) := by rw [ef32, va_up_ne _ _ (hnew h153 w31)]; exact h153
    have n156 : na0 ≠ la := hnew h155 w34
    have h157 : f35 na0 = some (.inl (cI G, 6, .inl (fun _ => 0))) := by rw [ef35, va_up_ne _ _ (hnew h155 w34)]; exact h155
    have n158 : na0 ≠ lq := hnew h157 w37
    have h159 : f38 na0 = some (.inl (cI G, 6, .inl (fun _ => 0))) := by rw [ef38, va_up_ne _ _ (hnew h157 w37)]; exact h157
    have n160 : na0 ≠ le := hnew h159 w40
    have h161 : f41 na0 = some (.inl (cI G, 6, .inl (fun _ => 0))) := by rw [ef41, va_up_ne _ _ (hnew h159 w40)]; exact h159
    have n162 : na0 ≠ lb := hnew h161 w43
    have h163 : f44 na0 = some (.inl (cI G, 6, .inl (fun _ => 0))) := by rw [ef44, va_up_ne _ _ (hnew h161 w43)]; exact h161
    have n164 : na0 ≠ lh := hnew h163 w46
    have h165 : f47 na0 = some (.inl (cI G, 6, .inl (fun _ => 0))) := by rw [ef47, va_up_ne _ _ (hnew h163 w46)]; exact h163
    have n166 : na0 ≠ lr := hnew h165 w49
    have h167 : f50 na0 = some (.inl (cI G, 6, .inl (fun _ => 0))) := by rw [ef50, va_up_ne _ _ (hnew h165 w49)]; exact h165
    have n168 : na0 ≠ lg := hnew h167 w52
    have n169 : nq0 ≠ lx := hnew h10 w25
    have h170 : f26 nq0 = some (.inl (cI G, 6, .inl (fun j => if j < 6 then (-1) else (fun _ => 0) j))) := by rw [ef26, va_up_ne _ _ (hnew h10 w25)]; exact h10
    have n171 : nq0 ≠ ly := hnew h170 w28
    have h172 : f29 nq0 = some (.inl (cI G, 6, .inl (fun j => if j < 6 then (-1) else (fun _ => 0) j))) := by rw [ef29, va_up_ne _ _ (hnew h170 w28)]; exact h170
    have n173 : nq0 ≠ lw := hnew h172 w31
    have h174 : f32 nq0 = some (.inl (cI G, 6, .inl (fun j => if j < 6 then (-1) else (fun _ => 0) j))) := by rw [ef32, va_up_ne _ _ (hnew h172 w31)]; exact h172
    have n175 : nq0 ≠ la := hnew h174 w34
    have h176 : f35 nq0 = some (.inl (cI G, 6, .inl (fun j => if j < 6 then (-1) else (fun _ => 0) j))) := by rw [ef35, va_up_ne _ _ (hnew h174 w34)]; exact h174
    have n177 : nq0 ≠ lq := hnew h176 w37
    have h178 : f38 nq0 = some (.inl (cI G, 6, .inl (fun j => if j < 6 then (-1) else (fun _ => 0) j))) := by rw [ef38, va_up_ne _ _ (hnew h176 w37)]; exact h176
    have n179 : nq0 ≠ le := hnew h178 w40
    have h180 : f41 nq0 = some (.inl (cI G, 6, .inl (fun j => if j < 6 then (-1) else (fun _ => 0) j))) := by rw [ef41, va_up_ne _ _ (hnew h178 w40)]; exact h178
    have n181 : nq0 ≠ lb := hnew h180 w43
    have h182 : f44 nq0 = some (.inl (cI G, 6, .inl (fun j => if j < 6 then (-1) else (fun _ => 0) j))) := by rw [ef44, va_up_ne _ _ (hnew h180 w43)]; exact h180
    have n183 : nq0 ≠ lh := hnew h182 w46
    have h184 : f47 nq0 = some (.inl (cI G, 6, .inl (fun j => if j < 6 then (-1) else (fun _ => 0) j))) := by rw [ef47, va_up_ne _ _ (hnew h182 w46)]; exact h182
    have n185 : nq0 ≠ lr := hnew h184 w49
    have h186 : f50 nq0 = some (.inl (cI G, 6, .inl (fun j => if j < 6 then (-1) else (fun _ => 0) j))) := by rw [ef50, va_up_ne _ _ (hnew h184 w49)]; exact h184
    have n187 : nq0 ≠ lg := hnew h186 w52
    have n188 : nr0 ≠ lx := hnew h11 w25
    have h189 : f26 nr0 = some (.inr (3, [.null, .null, .int 0])) := by rw [ef26, va_up_ne _ _ (hnew h11 w25)]; exact h11
    have n190 : nr0 ≠ ly := hnew h189 w28
    have h191 : f29 nr0 = some (.inr (3, [.null, .null, .int 0])) := by rw [ef29, va_up_ne _ _ (hnew h189 w28)]; exact h189
    have n192 : nr0 ≠ lw := hnew h191 w31
    have h193 : f32 nr0 = some (.inr (3, [.null, .null, .int 0])) := by rw [ef32, va_up_ne _ _ (hnew h191 w31)]; exact h191
    have n194 : nr0 ≠ la := hnew h193 w34
    have h195 : f35 nr0 = some (.inr (3, [.null, .null, .int 0])) := by rw [ef35, va_up_ne _ _ (hnew h193 w34)]; exact h193
    have n196 : nr0 ≠ lq := hnew h195 w37
    have h197 : f38 nr0 = some (.inr (3, [.null, .null, .int 0])) := by rw [ef38, va_up_ne _ _ (hnew h195 w37)]; exact h195
    have n198 : nr0 ≠ le := hnew h197 w40
    have h199 : f41 nr0 = some (.inr (3, [.null, .null, .int 0])) := by rw [ef41, va_up_ne _ _ (hnew h197 w40)]; exact h197
    have n200 : nr0 ≠ lb := hnew h199 w43
    have h201 : f44 nr0 = some (.inr (3, [.null, .null, .int 0])) := by rw [ef44, va_up_ne _ _ (hnew h199 w43)]; exact h199
    have n202 : nr0 ≠ lh := hnew h201 w46
    have h203 : f47 nr0 = some (.inr (3, [.null, .null, .int 0])) := by rw [ef47, va_up_ne _ _ (hnew h201 w46)]; exact h201
    have n204 : nr0 ≠ lr := hnew h203 w49
    have h205 : f50 nr0 = some (.inr (3, [.null, .null, .int 0])) := by rw [ef50, va_up_ne _ _ (hnew h203 w49)]; exact h203
    have n206 : nr0 ≠ lg := hnew h205 w52
    have n207 : nw1 ≠ lx := hnew h13 w25
    have h208 : f26 nw1 = some (.inl (cI G, 6, .inl (fun j => if j < 6 then (-1) else (fun _ => 0) j))) := by rw [ef26, va_up_ne _ _ (hnew h13 w25)]; exact h13
    have n209 : nw1 ≠ ly := hnew h208 w28
    have h210 : f29 nw1 = some (.inl (cI G, 6, .inl (fun j => if j < 6 then (-1) else (fun _ => 0) j))) := by rw [ef29, va_up_ne _ _ (hnew h208 w28)]; exact h208
    have n211 : nw1 ≠ lw := hnew h210 w31
    have h212 : f32 nw1 = some (.inl (cI G, 6, .inl (fun j => if j < 6 then (-1) else (fun _ => 0) j))) := by rw [ef32, va_up_ne _ _ (hnew h210 w31)]; exact h210
    have n213 : nw1 ≠ la := hnew h212 w34
    have h214 : f35 nw1 = some (.inl (cI G, 6, .inl (fun j => if j < 6 then (-1) else (fun _ => 0) j))) := by rw [ef35, va_up_ne _ _ (hnew h212 w34)]; exact h212
    have n215 : nw1 ≠ lq := hnew h214 w37
    have h216 : f38 nw1 = some (.inl (cI G, 6, .inl (fun j => if j < 6 then (-1) else (fun _ => 0) j))) := by rw [ef38, va_up_ne _ _ (hnew h214 w37)]; exact h214
    have n217 : nw1 ≠ le := hnew h216 w40
    have h218 : f41 nw1 = some (.inl (cI G, 6, .inl (fun j => if j < 6 then (-1) else (fun _ => 0) j))) := by rw [ef41, va_up_ne _ _ (hnew h216 w40)]; exact h216
    have n219 : nw1 ≠ lb := hnew h218 w43
    have h220 : f44 nw1 = some (.inl (cI G, 6, .inl (fun j => if j < 6 then (-1) else (fun _ => 0) j))) := by rw [ef44, va_up_ne _ _ (hnew h218 w43)]; exact h218
    have n221 : nw1 ≠ lh := hnew h220 w46
    have h222 : f47 nw1 = some (.inl (cI G, 6, .inl (fun j => if j < 6 then (-1) else (fun _ => 0) j))) := by rw [ef47, va_up_ne _ _ (hnew h220 w46)]; exact h220
    have n223 : nw1 ≠ lr := hnew h222 w49
    have h224 : f50 nw1 = some (.inl (cI G, 6, .inl (fun j => if j < 6 then (-1) else (fun _ => 0) j))) := by rw [ef50, va_up_ne _ _ (hnew h222 w49)]; exact h222
    have n225 : nw1 ≠ lg := hnew h224 w52
    have n226 : na1 ≠ lx := hnew h14 w25
    have h227 : f26 na1 = some (.inl (cI G, 6, .inl (fun _ => 0))) := by rw [ef26, va_up_ne _ _ (hnew h14 w25)]; exact h14
    have n228 : na1 ≠ ly := hnew h227 w28
    have h229 : f29 na1 = some (.inl (cI G, 6, .inl (fun _ => 0))) := by rw [ef29, va_up_ne _ _ (hnew h227 w28)]; exact h227
    have n230 : na1 ≠ lw := hnew h229 w31
    have h231 : f32 na1 = some (.inl (cI G, 6, .inl (fun _ => 0))) := by rw [ef32, va_up_ne _ _ (hnew h229 w31)]; exact h229
    have n232 : na1 ≠ la := hnew h231 w34
    have h233 : f35 na1 = some (.inl (cI G, 6, .inl (fun _ => 0))) := by rw [ef35, va_up_ne _ _ (hnew h231 w34)]; exact h231
    have n234 : na1 ≠ lq := hnew h233 w37
    have h235 : f38 na1 = some (.inl (cI G, 6, .inl (fun _ => 0))) := by rw [ef38, va_up_ne _ _ (hnew h233 w37)]; exact h233
    have n236 : na1 ≠ le := hnew h235 w40
    have h237 : f41 na1 = some (.inl (cI G, 6, .inl (fun _ => 0))) := by rw [ef41, va_up_ne _ _ (hnew h235 w40)]; exact h235
    have n238 : na1 ≠ lb := hnew h237 w43
    have h239 : f44 na1 = some (.inl (cI G, 6, .inl (fun _ => 0))) := by rw [ef44, va_up_ne _ _ (hnew h237 w43)]; exact h237
    have n240 : na1 ≠ lh := hnew h239 w46
    have h241 : f47 na1 = some (.inl (cI G, 6, .inl (fun _ => 0))) := by rw [ef47, va_up_ne _ _ (hnew h239 w46)]; exact h239
    have n242 : na1 ≠ lr := hnew h241 w49
    have h243 : f50 na1 = some (.inl (cI G, 6, .inl (fun _ => 0))) := by rw [ef50, va_up_ne _ _ (hnew h241 w49)]; exact h241
    have n244 : na1 ≠ lg := hnew h243 w52
    have n245 : nq1 ≠ lx := hnew h15 w25
    have h246 : f26 nq1 = some (.inl (cI G, 6, .inl (fun j => if j < 6 then (-1) else (fun _ => 0) j))) := by rw [ef26, va_up_ne _ _ (hnew h15 w25)]; exact h15
    have n247 : nq1 ≠ ly := hnew h246 w28
    have h248 : f29 nq1 = some (.inl (cI G, 6, .inl (fun j => if j < 6 then (-1) else (fun _ => 0) j))) := by rw [ef29, va_up_ne _ _ (hnew h246 w28)]; exact h246
    have n249 : nq1 ≠ lw := hnew h248 w31
    have h250 : f32 nq1 = some (.inl (cI G, 6, .inl (fun j => if j < 6 then (-1) else (fun _ => 0) j))) := by rw [ef32, va_up_ne _ _ (hnew h248 w31)]; exact h248
    have n251 : nq1 ≠ la := hnew h250 w34
    have h252 : f35 nq1 = some (.inl (cI G, 6, .inl (fun j => if j < 6 then (-1) else (fun _ => 0) j))) := by rw [ef35, va_up_ne _ _ (hnew h250 w34)]; exact h250
    have n253 : nq1 ≠ lq := hnew h252 w37
    have h254 : f38 nq1 = some (.inl (cI G, 6, .inl (fun j => if j < 6 then (-1) else (fun _ => 0) j))) := by rw [ef38, va_up_ne _ _ (hnew h252 w37)]; exact h252
    have n255 : nq1 ≠ le := hnew h254 w40
    have h256 : f41 nq1 = some (.inl (cI G, 6, .inl (fun j => if j < 6 then (-1) else (fun _ => 0) j))) := by rw [ef41, va_up_ne _ _ (hnew h254 w40)]; exact h254
    have n257 : nq1 ≠ lb := hnew h256 w43
    have h258 : f44 nq1 = some (.inl (cI G, 6, .inl (fun j => if j < 6 then (-1) else (fun _ => 0) j))) := by rw [ef44, va_up_ne _ _ (hnew h256 w43)]; exact h256
    have n259 : nq1 ≠ lh := hnew h258 w46
    have h260 : f47 nq1 = some (.inl (cI G, 6, .inl (fun j => if j < 6 then (-1) else (fun _ => 0) j))) := by rw [ef47, va_up_ne _ _ (hnew h258 w46)]; exact h258
    have n261 : nq1 ≠ lr := hnew h260 w49
    have h262 : f50 nq1 = some (.inl (cI G, 6, .inl (fun j => if j < 6 then (-1) else (fun _ => 0) j))) := by rw [ef50, va_up_ne _ _ (hnew h260 w49)]; exact h260
    have n263 : nq1 ≠ lg := hnew h262 w52
    have n264 : nr1 ≠ lx := hnew h16 w25
    have h265 : f26 nr1 = some (.inr (3, [.null, .null, .int 0])) := by rw [ef26, va_up_ne _ _ (hnew h16 w25)]; exact h16
    have n266 : nr1 ≠ ly := hnew h265 w28
    have h267 : f29 nr1 = some (.inr (3, [.null, .null, .int 0])) := by rw [ef29, va_up_ne _ _ (hnew h265 w28)]; exact h265
    have n268 : nr1 ≠ lw := hnew h267 w31
    have h269 : f32 nr1 = some (.inr (3, [.null, .null, .int 0])) := by rw [ef32, va_up_ne _ _ (hnew h267 w31)]; exact h267
    have n270 : nr1 ≠ la := hnew h269 w34
    have h271 : f35 nr1 = some (.inr (3, [.null, .null, .int 0])) := by rw [ef35, va_up_ne _ _ (hnew h269 w34)]; exact h269
    have n272 : nr1 ≠ lq := hnew h271 w37
    have h273 : f38 nr1 = some (.inr (3, [.null, .null, .int 0])) := by rw [ef38, va_up_ne _ _ (hnew h271 w37)]; exact h271
    have n274 : nr1 ≠ le := hnew h273 w40
    have h275 : f41 nr1 = some (.inr (3, [.null, .null, .int 0])) := by rw [ef41, va_up_ne _ _ (hnew h273 w40)]; exact h273
    have n276 : nr1 ≠ lb := hnew h275 w43
    have h277 : f44 nr1 = some (.inr (3, [.null, .null, .int 0])) := by rw [ef44, va_up_ne _ _ (hnew h275 w43)]; exact h275
    have n278 : nr1 ≠ lh := hnew h277 w46
    have h279 : f47 nr1 = some (.inr (3, [.null, .null, .int 0])) := by rw [ef47, va_up_ne _ _ (hnew h277 w46)]; exact h277
    have n280 : nr1 ≠ lr := hnew h279 w49
    have h281 : f50 nr1 = some (.inr (3, [.null, .null, .int 0])) := by rw [ef50, va_up_ne _ _ (hnew h279 w49)]; exact h279
    have n282 : nr1 ≠ lg := hnew h281 w52
    have n283 : bs ≠ lx := hnew h18 w25
    have h284 : f26 bs = some (.inl (cI G, 61, .inl (fun _ => 0))) := by rw [ef26, va_up_ne _ _ (hnew h18 w25)]; exact h18
    have n285 : bs ≠ ly := hnew h284 w28
    have h286 : f29 bs = some (.inl (cI G, 61, .inl (fun _ => 0))) := by rw [ef29, va_up_ne _ _ (hnew h284 w28)]; exact h284
    have n287 : bs ≠ lw := hnew h286 w31
    have h288 : f32 bs = some (.inl (cI G, 61, .inl (fun _ => 0))) := by rw [ef32, va_up_ne _ _ (hnew h286 w31)]; exact h286
    have n289 : bs ≠ la := hnew h288 w34
    have h290 : f35 bs = some (.inl (cI G, 61, .inl (fun _ => 0))) := by rw [ef35, va_up_ne _ _ (hnew h288 w34)]; exact h288
    have n291 : bs ≠ lq := hnew h290 w37
    have h292 : f38 bs = some (.inl (cI G, 61, .inl (fun _ => 0))) := by rw [ef38, va_up_ne _ _ (hnew h290 w37)]; exact h290
    have n293 : bs ≠ le := hnew h292 w40
    have h294 : f41 bs = some (.inl (cI G, 61, .inl (fun _ => 0))) := by rw [ef41, va_up_ne _ _ (hnew h292 w40)]; exact h292
    have n295 : bs ≠ lb := hnew h294 w43
    have h296 : f44 bs = some (.inl (cI G, 61, .inl (fun _ => 0))) := by rw [ef44, va_up_ne _ _ (hnew h294 w43)]; exact h294
    have n297 : bs ≠ lh := hnew h296 w46
    have h298 : f47 bs = some (.inl (cI G, 61, .inl (fun _ => 0))) := by rw [ef47, va_up_ne _ _ (hnew h296 w46)]; exact h296
    have n299 : bs ≠ lr := hnew h298 w49
    have h300 : f50 bs = some (.inl (cI G, 61, .inl (fun _ => 0))) := by rw [ef50, va_up_ne _ _ (hnew h298 w49)]; exact h298
    have n301 : bs ≠ lg := hnew h300 w52
    have n302 : bp ≠ lx := hnew h19 w25
    have h303 : f26 bp = some (.inl (cI G, 240, .inl (fun _ => 0))) := by rw [ef26, va_up_ne _ _ (hnew h19 w25)]; exact h19
    have n304 : bp ≠ ly := hnew h303 w28
    have h305 : f29 bp = some (.inl (cI G, 240, .inl (fun _ => 0))) := by rw [ef29, va_up_ne _ _ (hnew h303 w28)]; exact h303
    have n306 : bp ≠ lw := hnew h305 w31
    have h307 : f32 bp = some (.inl (cI G, 240, .inl (fun _ => 0))) := by rw [ef32, va_up_ne _ _ (hnew h305 w31)]; exact h305
    have n308 : bp ≠ la := hnew h307 w34
    have h309 : f35 bp = some (.inl (cI G, 240, .inl (fun _ => 0))) := by rw [ef35, va_up_ne _ _ (hnew h307 w34)]; exact h307
    have n310 : bp ≠ lq := hnew h309 w37
    have h311 : f38 bp = some (.inl (cI G, 240, .inl (fun _ => 0))) := by rw [ef38, va_up_ne _ _ (hnew h309 w37)]; exact h309
    have n312 : bp ≠ le := hnew h311 w40
    have h313 : f41 bp = some (.inl (cI G, 240, .inl (fun _ => 0))) := by rw [ef41, va_up_ne _ _ (hnew h311 w40)]; exact h311
    have n314 : bp ≠ lb := hnew h313 w43
    have h315 : f44 bp = some (.inl (cI G, 240, .inl (fun _ => 0))) := by rw [ef44, va_up_ne _ _ (hnew h313 w43)]; exact h313
    have n316 : bp ≠ lh := hnew h315 w46
    have h317 : f47 bp = some (.inl (cI G, 240, .inl (fun _ => 0))) := by rw [ef47, va_up_ne _ _ (hnew h315 w46)]; exact h315
    have n318 : bp ≠ lr := hnew h317 w49
    have h319 : f50 bp = some (.inl (cI G, 240, .inl (fun _ => 0))) := by rw [ef50, va_up_ne _ _ (hnew h317 w49)]; exact h317
    have n320 : bp ≠ lg := hnew h319 w52
    have n321 : bh ≠ lx := hnew h20 w25
    have h322 : f26 bh = some (.inl (cZ G, 240, .inl (fun _ => 0))) := by rw [ef26, va_up_ne _ _ (hnew h20 w25)]; exact h20
    have n323 : bh ≠ ly := hnew h322 w28
    have h324 : f29 bh = some (.inl (cZ G, 240, .inl (fun _ => 0))) := by rw [ef29, va_up_ne _ _ (hnew h322 w28)]; exact h322
    have n325 : bh ≠ lw := hnew h324 w31
    have h326 : f32 bh = some (.inl (cZ G, 240, .inl (fun _ => 0))) := by rw [ef32, va_up_ne _ _ (hnew h324 w31)]; exact h324
    have n327 : bh ≠ la := hnew h326 w34
    have h328 : f35 bh = some (.inl (cZ G, 240, .inl (fun _ => 0))) := by rw [ef35, va_up_ne _ _ (hnew h326 w34)]; exact h326
    have n329 : bh ≠ lq := hnew h328 w37
    have h330 : f38 bh = some (.inl (cZ G, 240, .inl (fun _ => 0))) := by rw [ef38, va_up_ne _ _ (hnew h328 w37)]; exact h328
    have n331 : bh ≠ le := hnew h330 w40
    have h332 : f41 bh = some (.inl (cZ G, 240, .inl (fun _ => 0))) := by rw [ef41, va_up_ne _ _ (hnew h330 w40)]; exact h330
    have n333 : bh ≠ lb := hnew h332 w43
    have h334 : f44 bh = some (.inl (cZ G, 240, .inl (fun _ => 0))) := by rw [ef44, va_up_ne _ _ (hnew h332 w43)]; exact h332
    have n335 : bh ≠ lh := hnew h334 w46
    have h336 : f47 bh = some (.inl (cZ G, 240, .inl (fun _ => 0))) := by rw [ef47, va_up_ne _ _ (hnew h334 w46)]; exact h334
    have n337 : bh ≠ lr := hnew h336 w49
    have h338 : f50 bh = some (.inl (cZ G, 240, .inl (fun _ => 0))) := by rw [ef50, va_up_ne _ _ (hnew h336 w49)]; exact h336
    have n339 : bh ≠ lg := hnew h338 w52
    have n340 : bf ≠ lx := hnew h21 w25
    have h341 : f26 bf = some (.inl (cI G, 3, .inl (upd (upd (upd (fun _ => 0) (0 : Int32).toNatClampNeg 0) (1 : Int32).toNatClampNeg 1) (2 : Int32).toNatClampNeg 2))) := by rw [ef26, va_up_ne _ _ (hnew h21 w25)]; exact h21
    have n342 : bf ≠ ly := hnew h341 w28
    have h343 : f29 bf = some (.inl (cI G, 3, .inl (upd (upd (upd (fun _ => 0) (0 : Int32).toNatClampNeg 0) (1 : Int32).toNatClampNeg 1) (2 : Int32).toNatClampNeg 2))) := by rw [ef29, va_up_ne _ _ (hnew h341 w28)]; exact h341
    have n344 : bf ≠ lw := hnew h343 w31
    have h345 : f32 bf = some (.inl (cI G, 3, .inl (upd (upd (upd (fun _ => 0) (0 : Int32).toNatClampNeg 0) (1 : Int32).toNatClampNeg 1) (2 : Int32).toNatClampNeg 2))) := by rw [ef32, va_up_ne _ _ (hnew h343 w31)]; exact h343
    have n346 : bf ≠ la := hnew h345 w34
    have h347 : f35 bf = some (.inl (cI G, 3, .inl (upd (upd (upd (fun _ => 0) (0 : Int32).toNatClampNeg 0) (1 : Int32).toNatClampNeg 1) (2 : Int32).toNatClampNeg 2))) := by rw [ef35, va_up_ne _ _ (hnew h345 w34)]; exact h345
    have n348 : bf ≠ lq := hnew h347 w37
    have h349 : f38 bf = some (.inl (cI G, 3, .inl (upd (upd (upd (fun _ => 0) (0 : Int32).toNatClampNeg 0) (1 : Int32).toNatClampNeg 1) (2 : Int32).toNatClampNeg 2))) := by rw [ef38, va_up_ne _ _ (hnew h347 w37)]; exact h347
    have n350 : bf ≠ le := hnew h349 w40
    have h351 : f41 bf = some (.inl (cI G, 3, .inl (upd (upd (upd (fun _ => 0) (0 : Int32).toNatClampNeg 0) (1 : Int32).toNatClampNeg 1) (2 : Int32).toNatClampNeg 2))) := by rw [ef41, va_up_ne _ _ (hnew h349 w40)]; exact h349
    have n352 : bf ≠ lb := hnew h351 w43
    have h353 : f44 bf = some (.inl (cI G, 3, .inl (upd (upd (upd (fun _ => 0) (0 : Int32).toNatClampNeg 0) (1 : Int32).toNatClampNeg 1) (2 : Int32).toNatClampNeg 2))) := by rw [ef44, va_up_ne _ _ (hnew h351 w43)]; exact h351
    have n354 : bf ≠ lh := hnew h353 w46
    have h355 : f47 bf = some (.inl (cI G, 3, .inl (upd (upd (upd (fun _ => 0) (0 : Int32).toNatClampNeg 0) (1 : Int32).toNatClampNeg 1) (2 : Int32).toNatClampNeg 2))) := by rw [ef47, va_up_ne _ _ (hnew h353 w46)]; exact h353
    have n356 : bf ≠ lr := hnew h355 w49
    have h357 : f50 bf = some (.inl (cI G, 3, .inl (upd (upd (upd (fun _ => 0) (0 : Int32).toNatClampNeg 0) (1 : Int32).toNatClampNeg 1) (2 : Int32).toNatClampNeg 2))) := by rw [ef50, va_up_ne _ _ (hnew h355 w49)]; exact h355
    have n358 : bf ≠ lg := hnew h357 w52
    have n359 : bl ≠ lx := hnew h22 w25
    have h360 : f26 bl = some (.inl (cI G, 3, .inl (fun j => if j < 3 then (-1) else (fun _ => 0) j))) := by rw [ef26, va_up_ne _ _ (hnew h22 w25)]; exact h22
    have n361 : bl ≠ ly := hnew h360 w28
    have h362 : f29 bl = some (.inl (cI G, 3, .inl (fun j => if j < 3 then (-1) else (fun _ => 0) j))) := by rw [ef29, va_up_ne _ _ (hnew h360 w28)]; exact h360
    have n363 : bl ≠ lw := hnew h362 w31
    have h364 : f32 bl = some (.inl (cI G, 3, .inl (fun j => if j < 3 then (-1) else (fun _ => 0) j))) := by rw [ef32, va_up_ne _ _ (hnew h362 w31)]; exact h362
    have n365 : bl ≠ la := hnew h364 w34
    have h366 : f35 bl = some (.inl (cI G, 3, .inl (fun j => if j < 3 then (-1) else (fun _ => 0) j))) := by rw [ef35, va_up_ne _ _ (hnew h364 w34)]; exact h364
    have n367 : bl ≠ lq := hnew h366 w37
    have h368 : f38 bl = some (.inl (cI G, 3, .inl (fun j => if j < 3 then (-1) else (fun _ => 0) j))) := by rw [ef38, va_up_ne _ _ (hnew h366 w37)]; exact h366
    have n369 : bl ≠ le := hnew h368 w40
    have h370 : f41 bl = some (.inl (cI G, 3, .inl (fun j => if j < 3 then (-1) else (fun _ => 0) j))) := by rw [ef41, va_up_ne _ _ (hnew h368 w40)]; exact h368
    have n371 : bl ≠ lb := hnew h370 w43
    have h372 : f44 bl = some (.inl (cI G, 3, .inl (fun j => if j < 3 then (-1) else (fun _ => 0) j))) := by rw [ef44, va_up_ne _ _ (hnew h370 w43)]; exact h370
    have n373 : bl ≠ lh := hnew h372 w46
    have h374 : f47 bl = some (.inl (cI G, 3, .inl (fun j => if j < 3 then (-1) else (fun _ => 0) j))) := by rw [ef47, va_up_ne _ _ (hnew h372 w46)]; exact h372
    have n375 : bl ≠ lr := hnew h374 w49
    have h376 : f50 bl = some (.inl (cI G, 3, .inl (fun j => if j < 3 then (-1) else (fun _ => 0) j))) := by rw [ef50, va_up_ne _ _ (hnew h374 w49)]; exact h374
    have n377 : bl ≠ lg := hnew h376 w52
    have n378 : bg ≠ lx := hnew h23 w25
    have h379 : f26 bg = some (.inl (cI G, 60, .inl (fun _ => 0))) := by rw [ef26, va_up_ne _ _ (hnew h23 w25)]; exact h23
    have n380 : bg ≠ ly := hnew h379 w28
    have h381 : f29 bg = some (.inl (cI G, 60, .inl (fun _ => 0))) := by rw [ef29, va_up_ne _ _ (hnew h379 w28)]; exact h379
    have n382 : bg ≠ lw := hnew h381 w31
    have h383 : f32 bg = some (.inl (cI G, 60, .inl (fun _ => 0))) := by rw [ef32, va_up_ne _ _ (hnew h381 w31)]; exact h381
    have n384 : bg ≠ la := hnew h383 w34
    have h385 : f35 bg = some (.inl (cI G, 60, .inl (fun _ => 0))) := by rw [ef35, va_up_ne _ _ (hnew h383 w34)]; exact h383
    have n386 : bg ≠ lq := hnew h385 w37
    have h387 : f38 bg = some (.inl (cI G, 60, .inl (fun _ => 0))) := by rw [ef38, va_up_ne _ _ (hnew h385 w37)]; exact h385
    have n388 : bg ≠ le := hnew h387 w40
    have h389 : f41 bg = some (.inl (cI G, 60, .inl (fun _ => 0))) := by rw [ef41, va_up_ne _ _ (hnew h387 w40)]; exact h387
    have n390 : bg ≠ lb := hnew h389 w43
    have h391 : f44 bg = some (.inl (cI G, 60, .inl (fun _ => 0))) := by rw [ef44, va_up_ne _ _ (hnew h389 w43)]; exact h389
    have n392 : bg ≠ lh := hnew h391 w46
    have h393 : f47 bg = some (.inl (cI G, 60, .inl (fun _ => 0))) := by rw [ef47, va_up_ne _ _ (hnew h391 w46)]; exact h391
    have n394 : bg ≠ lr := hnew h393 w49
    have h395 : f50 bg = some (.inl (cI G, 60, .inl (fun _ => 0))) := by rw [ef50, va_up_ne _ _ (hnew h393 w49)]; exact h393
    have n396 : bg ≠ lg := hnew h395 w52
    have h397 : f29 lx = some (.inl (cJ G, 64, .inr (.inl (fun _ => 0)))) := by rw [ef29, va_up_ne _ _ (hnew h27 w28)]; exact h27
    have h398 : f32 lx = some (.inl (cJ G, 64, .inr (.inl (fun _ => 0)))) := by rw [ef32, va_up_ne _ _ (hnew h397 w31)]; exact h397
    have h399 : f35 lx = some (.inl (cJ G, 64, .inr (.inl (fun _ => 0)))) := by rw [ef35, va_up_ne _ _ (hnew h398 w34)]; exact h398
    have h400 : f38 lx = some (.inl (cJ G, 64, .inr (.inl (fun _ => 0)))) := by rw [ef38, va_up_ne _ _ (hnew h399 w37)]; exact h399
    have h401 : f41 lx = some (.inl (cJ G, 64, .inr (.inl (fun _ => 0)))) := by rw [ef41, va_up_ne _ _ (hnew h400 w40)]; exact h400
    have n402 : lx ≠ lb := hnew h401 w43
    have h403 : f44 lx = some (.inl (cJ G, 64, .inr (.inl (fun _ => 0)))) := by rw [ef44, va_up_ne _ _ (hnew h401 w43)]; exact h401
    have n404 : lx ≠ lh := hnew h403 w46
    have h405 : f47 lx = some (.inl (cJ G, 64, .inr (.inl (fun _ => 0)))) := by rw [ef47, va_up_ne _ _ (hnew h403 w46)]; exact h403
    have n406 : lx ≠ lr := hnew h405 w49
    have h407 : f50 lx = some (.inl (cJ G, 64, .inr (.inl (fun _ => 0)))) := by rw [ef50, va_up_ne _ _ (hnew h405 w49)]; exact h405
    have n408 : lx ≠ lg := hnew h407 w52
    have h409 : f32 ly = some (.inl (cJ G, 64, .inr (.inl (fun _ => 0)))) := by rw [ef32, va_up_ne _ _ (hnew h30 w31)]; exact h30
    have h410 : f35 ly = some (.inl (cJ G, 64, .inr (.inl (fun _ => 0)))) := by rw [ef35, va_up_ne _ _ (hnew h409 w34)]; exact h409
    have h411 : f38 ly = some (.inl (cJ G, 64, .inr (.inl (fun _ => 0)))) := by rw [ef38, va_up_ne _ _ (hnew h410 w37)]; exact h410
    have h412 : f41 ly = some (.inl (cJ G, 64, .inr (.inl (fun _ => 0)))) := by rw [ef41, va_up_ne _ _ (hnew h411 w40)]; exact h411
    have n413 : ly ≠ lb := hnew h412 w43
    have h414 : f44 ly = some (.inl (cJ G, 64, .inr (.inl (fun _ => 0)))) := by rw [ef44, va_up_ne _ _ (hnew h412 w43)]; exact h412
    have n415 : ly ≠ lh := hnew h414 w46
    have h416 : f47 ly = some (.inl (cJ G, 64, .inr (.inl (fun _ => 0)))) := by rw [ef47, va_up_ne _ _ (hnew h414 w46)]; exact h414
    have n417 : ly ≠ lr := hnew h416 w49
    have h418 : f50 ly = some (.inl (cJ G, 64, .inr (.inl (fun _ => 0)))) := by rw [ef50, va_up_ne _ _ (hnew h416 w49)]; exact h416
    have n419 : ly ≠ lg := hnew h418 w52
    have h420 : f35 lw = some (.inl (cI G, 12, .inl (fun _ => 0))) := by rw [ef35, va_up_ne _ _ (hnew h33 w34)]; exact h33
    have h421 : f38 lw = some (.inl (cI G, 12, .inl (fun _ => 0))) := by rw [ef38, va_up_ne _ _ (hnew h420 w37)]; exact h420
    have h422 : f41 lw = some (.inl (cI G, 12, .inl (fun _ => 0))) := by rw [ef41, va_up_ne _ _ (hnew h421 w40)]; exact h421
    have n423 : lw ≠ lb := hnew h422 w43
    have h424 : f44 lw = some (.inl (cI G, 12, .inl (fun _ => 0))) := by rw [ef44, va_up_ne _ _ (hnew h422 w43)]; exact h422
    have n425 : lw ≠ lh := hnew h424 w46
    have h426 : f47 lw = some (.inl (cI G, 12, .inl (fun _ => 0))) := by rw [ef47, va_up_ne _ _ (hnew h424 w46)]; exact h424
    have n427 : lw ≠ lr := hnew h426 w49
    have h428 : f50 lw = some (.inl (cI G, 12, .inl (fun _ => 0))) := by rw [ef50, va_up_ne _ _ (hnew h426 w49)]; exact h426
    have n429 : lw ≠ lg := hnew h428 w52
    have h430 : f38 la = some (.inl (cI G, 12, .inl (fun _ => 0))) := by rw [ef38, va_up_ne _ _ (hnew h36 w37)]; exact h36
    have h431 : f41 la = some (.inl (cI G, 12, .inl (fun _ => 0))) := by rw [ef41, va_up_ne _ _ (hnew h430 w40)]; exact h430
    have n432 : la ≠ lb := hnew h431 w43
    have h433 : f44 la = some (.inl (cI G, 12, .inl (fun _ => 0))) := by rw [ef44, va_up_ne _ _ (hnew h431 w43)]; exact h431
    have n434 : la ≠ lh := hnew h433 w46
    have h435 : f47 la = some (.inl (cI G, 12, .inl (fun _ => 0))) := by rw [ef47, va_up_ne _ _ (hnew h433 w46)]; exact h433
    have n436 : la ≠ lr := hnew h435 w49
    have h437 : f50 la = some (.inl (cI G, 12, .inl (fun _ => 0))) := by rw [ef50, va_up_ne _ _ (hnew h435 w49)]; exact h435
    have n438 : la ≠ lg := hnew h437 w52
    have h439 : f41 lq = some (.inl (cI G, 12, .inl (fun _ => 0))) := by rw [ef41, va_up_ne _ _ (hnew h39 w40)]; exact h39
    have n440 : lq ≠ lb := hnew h439 w43
    have h441 : f44 lq = some (.inl (cI G, 12, .inl (fun _ => 0))) := by rw [ef44, va_up_ne _ _ (hnew h439 w43)]; exact h439
    have n442 : lq ≠ lh := hnew h441 w46
    have h443 : f47 lq = some (.inl (cI G, 12, .inl (fun _ => 0))) := by rw [ef47, va_up_ne _ _ (hnew h441 w46)]; exact h441
    have n444 : lq ≠ lr := hnew h443 w49
    have h445 : f50 lq = some (.inl (cI G, 12, .inl (fun _ => 0))) := by rw [ef50, va_up_ne _ _ (hnew h443 w49)]; exact h443
    have n446 : lq ≠ lg := hnew h445 w52
    have n447 : le ≠ lb := hnew h42 w43
    have h448 : f44 le = some (.inl (cI G, 16, .inl (fun _ => 0))) := by rw [ef44, va_up_ne _ _ (hnew h42 w43)]; exact h42
    have n449 : le ≠ lh := hnew h448 w46
    have h450 : f47 le = some (.inl (cI G, 16, .inl (fun _ => 0))) := by rw [ef47, va_up_ne _ _ (hnew h448 w46)]; exact h448
    have n451 : le ≠ lr := hnew h450 w49
    have h452 : f50 le = some (.inl (cI G, 16, .inl (fun _ => 0))) := by rw [ef50, va_up_ne _ _ (hnew h450 w49)]; exact h450
    have n453 : le ≠ lg := hnew h452 w52
    have n454 : lx ≠ ly := hnew h27 w28
    have n455 : lw ≠ la := hnew h33 w34
    have n456 : lw ≠ lq := hnew h420 w37
    have n457 : la ≠ lq := hnew h36 w37
    refine lv_iconst (v := 0) hx hb dL_law_65 (by decide) ?_
    refine lv_istore (lv' := [(12, .int 0), (11, .ref lg), (10, .ref lr), (9, .ref lh), (8, .ref lb), (7, .ref le), (6, .ref lq), (5, .ref la), (4, .ref lw), (3, .ref ly), (2, .ref lx), (1, .ref xo), (0, .ref b)]) hx hb dL_law_66 hl9 (by decide) rfl (fun ls hl9 => ?_)
    refine lv_iload hx hb dL_law_68 (lv_at hl9 0 rfl) ?_
    refine lv_bipush (v := 12) hx hb dL_law_70 (by decide) ?_
    refine lv_icmp_ge (tgt := 93) hx hb dL_law_72 (by decide) (fun c9 => absurd c9 (by decide)) (fun _ => ?_)
    refine lv_aload hx hb dL_law_75 (lv_at hl9 8 rfl) ?_
    refine lv_iload hx hb dL_law_77 (lv_at hl9 0 rfl) ?_
    refine lv_iconst (v := (-1)) hx hb dL_law_79 (by decide) ?_
    have h458 : f53 lw = some (.inl (cI G, 12, .inl (fun _ => 0))) := by rw [ef53, va_up_ne _ _ (hnew h428 w52)]; exact h428
    refine hp_iast B0 hw hS h458 (by unfold vp_in; decide) dL_law_80 (fun H locs f459 ef459 hw hS => ?_)
    rw [show (upd (fun _ => 0) (0 : Int32).toNatClampNeg (-1) : Nat → Int32) = (mAk 1) from (by rw [mAk_0]; exact mAk_u (k := 0) (by decide))] at ef459
    have h460 : f459 lw = some (.inl (cI G, 12, .inl (mAk 1))) := by rw [ef459, va_up_self]
    refine lv_aload hx hb dL_law_81 (lv_at hl9 6 rfl) ?_
    refine lv_iload hx hb dL_law_83 (lv_at hl9 0 rfl) ?_
    refine lv_iconst (v := (-1)) hx hb dL_law_85 (by decide) ?_
    have h461 : f53 lq = some (.inl (cI G, 12, .inl (fun _ => 0))) := by rw [ef53, va_up_ne _ _ (hnew h445 w52)]; exact h445
    have h462 : f459 lq = some (.inl (cI G, 12, .inl (fun _ => 0))) := by rw [ef459, va_up_ne _ _ (Ne.symm n456)]; exact h461
    refine hp_iast B0 hw hS h462 (by unfold vp_in; decide) dL_law_86 (fun H locs f463 ef463 hw hS => ?_)
    rw [show (upd (fun _ => 0) (0 : Int32).toNatClampNeg (-1) : Nat → Int32) = (mAk 1) from (by rw [mAk_0]; exact mAk_u (k := 0) (by decide))] at ef463
    have h464 : f463 lq = some (.inl (cI G, 12, .inl (mAk 1))) := by rw [ef463, va_up_self]
    refine lv_iinc (v := 1) (lv' := [(12, .int 1), (11, .ref lg), (10, .ref lr), (9, .ref lh), (8, .ref lb), (7, .ref le), (6, .ref lq), (5, .ref la), (4, .ref lw), (3, .ref ly), (2, .ref lx), (1, .ref xo), (0, .ref b)]) hx hb dL_law_87 hl9 (k := 0) rfl (by decide) (by decide) rfl (fun ls hl9 => ?_)
    refine lv_goto (tgt := 68) hx hb dL_law_90 (by decide) ?_
    refine lv_iload hx hb dL_law_68 (lv_at hl9 0 rfl) ?_
    refine lv_bipush (v := 12) hx hb dL_law_70 (by decide) ?_
    refine lv_icmp_ge (tgt := 93) hx hb dL_law_72 (by decide) (fun c9 => absurd c9 (by decide)) (fun _ => ?_)
    refine lv_aload hx hb dL_law_75 (lv_at hl9 8 rfl) ?_
    refine lv_iload hx hb dL_law_77 (lv_at hl9 0 rfl) ?_
    refine lv_iconst (v := (-1)) hx hb dL_law_79 (by decide) ?_
    have h465 : f463 lw = some (.inl (cI G, 12, .inl (mAk 1))) := by rw [ef463, va_up_ne _ _ n456]; exact h460
    refine hp_iast B0 hw hS h465 (by unfold vp_in; decide) dL_law_80 (fun H locs f466 ef466 hw hS => ?_)
    rw [show (upd (mAk 1) (1 : Int32).toNatClampNeg (-1) : Nat → Int32) = (mAk 2) from (mAk_u (k := 1) (by decide))] at ef466
    have h467 : f466 lw = some (.inl (cI G, 12, .inl (mAk 2))) := by rw [ef466, va_up_self]
    refine lv_aload hx hb dL_law_81 (lv_at hl9 6 rfl) ?_
    refine lv_iload hx hb dL_law_83 (lv_at hl9 0 rfl) ?_
    refine lv_iconst (v := (-1)) hx hb dL_law_85 (by decide) ?_
    have h468 : f466 lq = some (.inl (cI G, 12, .inl (mAk 1))) := by rw [ef466, va_up_ne _ _ (Ne.symm n456)]; exact h464
    refine hp_iast B0 hw hS h468 (by unfold vp_in; decide) dL_law_86 (fun H locs f469 ef469 hw hS => ?_)
    rw [show (upd (mAk 1) (1 : Int32).toNatClampNeg (-1) : Nat → Int32) = (mAk 2) from (mAk_u (k := 1) (by decide))] at ef469
    have h470 : f469 lq = some (.inl (cI G, 12, .inl (mAk 2))) := by rw [ef469, va_up_self]
    refine lv_iinc (v := 2) (lv' := [(12, .int 2), (11, .ref lg), (10, .ref lr), (9, .ref lh), (8, .ref lb), (7, .ref le), (6, .ref lq), (5, .ref la), (4, .ref lw), (3, .ref ly), (2, .ref lx), (1, .ref xo), (0, .ref b)]) hx hb dL_law_87 hl9 (k := 0) rfl (by decide) (by decide) rfl (fun ls hl9 => ?_)
    refine lv_goto (tgt := 68) hx hb dL_law_90 (by decide) ?_
    refine lv_iload hx hb dL_law_68 (lv_at hl9 0 rfl) ?_
    refine lv_bipush (v := 12) hx hb dL_law_70 (by decide) ?_
    refine lv_icmp_ge (tgt := 93) hx hb dL_law_72 (by decide) (fun c9 => absurd c9 (by decide)) (fun _ => ?_)
    refine lv_aload hx hb dL_law_75 (lv_at hl9 8 rfl) ?_
    refine lv_iload hx hb dL_law_77 (lv_at hl9 0 rfl) ?_
    refine lv_iconst (v := (-1)) hx hb dL_law_79 (by decide) ?_
    have h471 : f469 lw = some (.inl (cI G, 12, .inl (mAk 2))) := by rw [ef469, va_up_ne _ _ n456]; exact h467
    refine hp_iast B0 hw hS h471 (by unfold vp_in; decide) dL_law_80 (fun H locs f472 ef472 hw hS => ?_)
    rw [show (upd (mAk 2) (2 : Int32).toNatClampNeg (-1) : Nat → Int32) = (mAk 3) from (mAk_u (k := 2) (by decide))] at ef472
    have h473 : f472 lw = some (.inl (cI G, 12, .inl (mAk 3))) := by rw [ef472, va_up_self]
    refine lv_aload hx hb dL_law_81 (lv_at hl9 6 rfl) ?_
    refine lv_iload hx hb dL_law_83 (lv_at hl9 0 rfl) ?_
    refine lv_iconst (v := (-1)) hx hb dL_law_85 (by decide) ?_
    have h474 : f472 lq = some (.inl (cI G, 12, .inl (mAk 2))) := by rw [ef472, va_up_ne _ _ (Ne.symm n456)]; exact h470
    refine hp_iast B0 hw hS h474 (by unfold vp_in; decide) dL_law_86 (fun H locs f475 ef475 hw hS => ?_)
    rw [show (upd (mAk 2) (2 : Int32).toNatClampNeg (-1) : Nat → Int32) = (mAk 3) from (mAk_u (k := 2) (by decide))] at ef475
    have h476 : f475 lq = some (.inl (cI G, 12, .inl (mAk 3))) := by rw [ef475, va_up_self]
    refine lv_iinc (v := 3) (lv' := [(12, .int 3), (11, .ref lg), (10, .ref lr), (9, .ref lh), (8, .ref lb), (7, .ref le), (6, .ref lq), (5, .ref la), (4, .ref lw), (3, .ref ly), (2, .ref lx), (1, .ref xo), (0, .ref b)]) hx hb dL_law_87 hl9 (k := 0) rfl (by decide) (by decide) rfl (fun ls hl9 => ?_)
    refine lv_goto (tgt := 68) hx hb dL_law_90 (by decide) ?_
    refine lv_iload hx hb dL_law_68 (lv_at hl9 0 rfl) ?_
    refine lv_bipush (v := 12) hx hb dL_law_70 (by decide) ?_
    refine lv_icmp_ge (tgt := 93) hx hb dL_law_72 (by decide) (fun c9 => absurd c9 (by decide)) (fun _ => ?_)
    refine lv_aload hx hb dL_law_75 (lv_at hl9 8 rfl) ?_
    refine lv_iload hx hb dL_law_77 (lv_at hl9 0 rfl) ?_
    refine lv_iconst (v := (-1)) hx hb dL_law_79 (by decide) ?_
    have h477 : f475 lw = some (.inl (cI G, 12, .inl (mAk 3))) := by rw [ef475, va_up_ne _ _ n456]; exact h473
    refine hp_iast B0 hw hS h477 (by unfold vp_in; decide) dL_law_80 (fun H locs f478 ef478 hw hS => ?_)
    rw [show (upd (mAk 3) (3 : Int32).toNatClampNeg (-1) : Nat → Int32) = (mAk 4) from (mAk_u (k := 3) (by decide))] at ef478
    have h479 : f478 lw = some (.inl (cI G, 12, .inl (mAk 4))) := by rw [ef478, va_up_self]
    refine lv_aload hx hb dL_law_81 (lv_at hl9 6 rfl) ?_
    refine lv_iload hx hb dL_law_83 (lv_at hl9 0 rfl) ?_
    refine lv_iconst (v := (-1)) hx hb dL_law_85 (by decide) ?_
    have h480 : f478 lq = some (.inl (cI G, 12, .inl (mAk 3))) := by rw [ef478, va_up_ne _ _ (Ne.symm n456)]; exact h476
    refine hp_iast B0 hw hS h480 (by unfold vp_in; decide) dL_law_86 (fun H locs f481 ef481 hw hS => ?_)
    rw [show (upd (mAk 3) (3 : Int32).toNatClampNeg (-1) : Nat → Int32) = (mAk 4) from (mAk_u (k := 3) (by decide))] at ef481
    have h482 : f481 lq = some (.inl (cI G, 12, .inl (mAk 4))) := by rw [ef481, va_up_self]
    refine lv_iinc (v := 4) (lv' := [(12, .int 4), (11, .ref lg), (10, .ref lr), (9, .ref lh), (8, .ref lb), (7, .ref le), (6, .ref lq), (5, .ref la), (4, .ref lw), (3, .ref ly), (2, .ref lx), (1, .ref xo), (0, .ref b)]) hx hb dL_law_87 hl9 (k := 0) rfl (by decide) (by decide) rfl (fun ls hl9 => ?_)
    refine lv_goto (tgt := 68) hx hb dL_law_90 (by decide) ?_
    refine lv_iload hx hb dL_law_68 (lv_at hl9 0 rfl) ?_
    refine lv_bipush (v := 12) hx hb dL_law_70 (by decide) ?_
    refine lv_icmp_ge (tgt := 93) hx hb dL_law_72 (by decide) (fun c9 => absurd c9 (by decide)) (fun _ => ?_)
    refine lv_aload hx hb dL_law_75 (lv_at hl9 8 rfl) ?_
    refine lv_iload hx hb dL_law_77 (lv_at hl9 0 rfl) ?_
    refine lv_iconst (v := (-1)) hx hb dL_law_79 (by decide) ?_
    have h483 : f481 lw = some (.inl (cI G, 12, .inl (mAk 4))) := by rw [ef481, va_up_ne _ _ n456]; exact h479
    refine hp_iast B0 hw hS h483 (by unfold vp_in; decide) dL_law_80 (fun H locs f484 ef484 hw hS => ?_)
    rw [show (upd (mAk 4) (4 : Int32).toNatClampNeg (-1) : Nat → Int32) = (mAk 5) from (mAk_u (k := 4) (by decide))] at ef484
    have h485 : f484 lw = some (.inl (cI G, 12, .inl (mAk 5))) := by rw [ef484, va_up_self]
    refine lv_aload hx hb dL_law_81 (lv_at hl9 6 rfl) ?_
    refine lv_iload hx hb dL_law_83 (lv_at hl9 0 rfl) ?_
    refine lv_iconst (v := (-1)) hx hb dL_law_85 (by decide) ?_
    have h486 : f484 lq = some (.inl (cI G, 12, .inl (mAk 4))) := by rw [ef484, va_up_ne _ _ (Ne.symm n456)]; exact h482
    refine hp_iast B0 hw hS h486 (by unfold vp_in; decide) dL_law_86 (fun H locs f487 ef487 hw hS => ?_)
    rw [show (upd (mAk 4) (4 : Int32).toNatClampNeg (-1) : Nat → Int32) = (mAk 5) from (mAk_u (k := 4) (by decide))] at ef487
    have h488 : f487 lq = some (.inl (cI G, 12, .inl (mAk 5))) := by rw [ef487, va_up_self]
    refine lv_iinc (v := 5) (lv' := [(12, .int 5), (11, .ref lg), (10, .ref lr), (9, .ref lh), (8, .ref lb), (7, .ref le), (6, .ref lq), (5, .ref la), (4, .ref lw), (3, .ref ly), (2, .ref lx), (1, .ref xo), (0, .ref b)]) hx hb dL_law_87 hl9 (k := 0) rfl (by decide) (by decide) rfl (fun ls hl9 => ?_)
    refine lv_goto (tgt := 68) hx hb dL_law_90 (by decide) ?_
    refine lv_iload hx hb dL_law_68 (lv_at hl9 0 rfl) ?_
    refine lv_bipush (v := 12) hx hb dL_law_70 (by decide) ?_
    refine lv_icmp_ge (tgt := 93) hx hb dL_law_72 (by decide) (fun c9 => absurd c9 (by decide)) (fun _ => ?_)
    refine lv_aload hx hb dL_law_75 (lv_at hl9 8 rfl) ?_
    refine lv_iload hx hb dL_law_77 (lv_at hl9 0 rfl) ?_
    refine lv_iconst (v := (-1)) hx hb dL_law_79 (by decide) ?_
    have h489 : f487 lw = some (.inl (cI G, 12, .inl (mAk 5))) := by rw [ef487, va_up_ne _ _ n456]; exact h485
    refine hp_iast B0 hw hS h489 (by unfold vp_in; decide) dL_law_80 (fun H locs f490 ef490 hw hS => ?_)
    rw [show (upd (mAk 5) (5 : Int32).toNatClampNeg (-1) : Nat → Int32) = (mAk 6) from (mAk_u (k := 5) (by decide))] at ef490
    have h491 : f490 lw = some (.inl (cI G, 12, .inl (mAk 6))) := by rw [ef490, va_up_self]
    refine lv_aload hx hb dL_law_81 (lv_at hl9 6 rfl) ?_
    refine lv_iload hx hb dL_law_83 (lv_at hl9 0 rfl) ?_
    refine lv_iconst (v := (-1)) hx hb dL_law_85 (by decide) ?_
    have h492 : f490 lq = some (.inl (cI G, 12, .inl (mAk 5))) := by rw [ef490, va_up_ne _ _ (Ne.symm n456)]; exact h488
    refine hp_iast B0 hw hS h492 (by unfold vp_in; decide) dL_law_86 (fun H locs f493 ef493 hw hS => ?_)
    rw [show (upd (mAk 5) (5 : Int32).toNatClampNeg (-1) : Nat → Int32) = (mAk 6) from (mAk_u (k := 5) (by decide))] at ef493
    have h494 : f493 lq = some (.inl (cI G, 12, .inl (mAk 6))) := by rw [ef493, va_up_self]
    refine lv_iinc (v := 6) (lv' := [(12, .int 6), (11, .ref lg), (10, .ref lr), (9, .ref lh), (8, .ref lb), (7, .ref le), (6, .ref lq), (5, .ref la), (4, .ref lw), (3, .ref ly), (2, .ref lx), (1, .ref xo), (0, .ref b)]) hx hb dL_law_87 hl9 (k := 0) rfl (by decide) (by decide) rfl (fun ls hl9 => ?_)
    refine lv_goto (tgt := 68) hx hb dL_law_90 (by decide) ?_
    refine lv_iload hx hb dL_law_68 (lv_at hl9 0 rfl) ?_
    refine lv_bipush (v := 12) hx hb dL_law_70 (by decide) ?_
    refine lv_icmp_ge (tgt := 93) hx hb dL_law_72 (by decide) (fun c9 => absurd c9 (by decide)) (fun _ => ?_)
    refine lv_aload hx hb dL_law_75 (lv_at hl9 8 rfl) ?_
    refine lv_iload hx hb dL_law_77 (lv_at hl9 0 rfl) ?_
    refine lv_iconst (v := (-1)) hx hb dL_law_79 (by decide) ?_
    have h495 : f493 lw = some (.inl (cI G, 12, .inl (mAk 6))) := by rw [ef493, va_up_ne _ _ n456]; exact h491
    refine hp_iast B0 hw hS h495 (by unfold vp_in; decide) dL_law_80 (fun H locs f496 ef496 hw hS => ?_)
    rw [show (upd (mAk 6) (6 : Int32).toNatClampNeg (-1) : Nat → Int32) = (mAk 7) from (mAk_u (k := 6) (by decide))] at ef496
    have h497 : f496 lw = some (.inl (cI G, 12, .inl (mAk 7))) := by rw [ef496, va_up_self]
    refine lv_aload hx hb dL_law_81 (lv_at hl9 6 rfl) ?_
    refine lv_iload hx hb dL_law_83 (lv_at hl9 0 rfl) ?_
    refine lv_iconst (v := (-1)) hx hb dL_law_85 (by decide) ?_
    have h498 : f496 lq = some (.inl (cI G, 12, .inl (mAk 6))) := by rw [ef496, va_up_ne _ _ (Ne.symm n456)]; exact h494
    refine hp_iast B0 hw hS h498 (by unfold vp_in; decide) dL_law_86 (fun H locs f499 ef499 hw hS => ?_)
    rw [show (upd (mAk 6) (6 : Int32).toNatClampNeg (-1) : Nat → Int32) = (mAk 7) from (mAk_u (k := 6) (by decide))] at ef499
    have h500 : f499 lq = some (.inl (cI G, 12, .inl (mAk 7))) := by rw [ef499, va_up_self]
    refine lv_iinc (v := 7) (lv' := [(12, .int 7), (11, .ref lg), (10, .ref lr), (9, .ref lh), (8, .ref lb), (7, .ref le), (6, .ref lq), (5, .ref la), (4, .ref lw), (3, .ref ly), (2, .ref lx), (1, .ref xo), (0, .ref b)]) hx hb dL_law_87 hl9 (k := 0) rfl (by decide) (by decide) rfl (fun ls hl9 => ?_)
    refine lv_goto (tgt := 68) hx hb dL_law_90 (by decide) ?_
    refine lv_iload hx hb dL_law_68 (lv_at hl9 0 rfl) ?_
    refine lv_bipush (v := 12) hx hb dL_law_70 (by decide) ?_
    refine lv_icmp_ge (tgt := 93) hx hb dL_law_72 (by decide) (fun c9 => absurd c9 (by decide)) (fun _ => ?_)
    refine lv_aload hx hb dL_law_75 (lv_at hl9 8 rfl) ?_
    refine lv_iload hx hb dL_law_77 (lv_at hl9 0 rfl) ?_
    refine lv_iconst (v := (-1)) hx hb dL_law_79 (by decide) ?_
    have h501 : f499 lw = some (.inl (cI G, 12, .inl (mAk 7))) := by rw [ef499, va_up_ne _ _ n456]; exact h497
    refine hp_iast B0 hw hS h501 (by unfold vp_in; decide) dL_law_80 (fun H locs f502 ef502 hw hS => ?_)
    rw [show (upd (mAk 7) (7 : Int32).toNatClampNeg (-1) : Nat → Int32) = (mAk 8) from (mAk_u (k := 7) (by decide))] at ef502
    have h503 : f502 lw = some (.inl (cI G, 12, .inl (mAk 8))) := by rw [ef502, va_up_self]
    refine lv_aload hx hb dL_law_81 (lv_at hl9 6 rfl) ?_
    refine lv_iload hx hb dL_law_83 (lv_at hl9 0 rfl) ?_
    refine lv_iconst (v := (-1)) hx hb dL_law_85 (by decide) ?_
    have h504 : f502 lq = some (.inl (cI G, 12, .inl (mAk 7))) := by rw [ef502, va_up_ne _ _ (Ne.symm n456)]; exact h500
    refine hp_iast B0 hw hS h504 (by unfold vp_in; decide) dL_law_86 (fun H locs f505 ef505 hw hS => ?_)
    rw [show (upd (mAk 7) (7 : Int32).toNatClampNeg (-1) : Nat → Int32) = (mAk 8) from (mAk_u (k := 7) (by decide))] at ef505
    have h506 : f505 lq = some (.inl (cI G, 12, .inl (mAk 8))) := by rw [ef505, va_up_self]
    refine lv_iinc (v := 8) (lv' := [(12, .int 8), (11, .ref lg), (10, .ref lr), (9, .ref lh), (8, .ref lb), (7, .ref le), (6, .ref lq), (5, .ref la), (4, .ref lw), (3, .ref ly), (2, .ref lx), (1, .ref xo), (0, .ref b)]) hx hb dL_law_87 hl9 (k := 0) rfl (by decide) (by decide) rfl (fun ls hl9 => ?_)
    refine lv_goto (tgt := 68) hx hb dL_law_90 (by decide) ?_
    refine lv_iload hx hb dL_law_68 (lv_at hl9 0 rfl) ?_
    refine lv_bipush (v := 12) hx hb dL_law_70 (by decide) ?_
    refine lv_icmp_ge (tgt := 93) hx hb dL_law_72 (by decide) (fun c9 => absurd c9 (by decide)) (fun _ => ?_)
    refine lv_aload hx hb dL_law_75 (lv_at hl9 8 rfl) ?_
    refine lv_iload hx hb dL_law_77 (lv_at hl9 0 rfl) ?_
    refine lv_iconst (v := (-1)) hx hb dL_law_79 (by decide) ?_
    have h507 : f505 lw = some (.inl (cI G, 12, .inl (mAk 8))) := by rw [ef505, va_up_ne _ _ n456]; exact h503
    refine hp_iast B0 hw hS h507 (by unfold vp_in; decide) dL_law_80 (fun H locs f508 ef508 hw hS => ?_)
    rw [show (upd (mAk 8) (8 : Int32).toNatClampNeg (-1) : Nat → Int32) = (mAk 9) from (mAk_u (k := 8) (by decide))] at ef508
    have h509 : f508 lw = some (.inl (cI G, 12, .inl (mAk 9))) := by rw [ef508, va_up_self]
    refine lv_aload hx hb dL_law_81 (lv_at hl9 6 rfl) ?_
    refine lv_iload hx hb dL_law_83 (lv_at hl9 0 rfl) ?_
    refine lv_iconst (v := (-1)) hx hb dL_law_85 (by decide) ?_
    have h510 : f508 lq = some (.inl (cI G, 12, .inl (mAk 8))) := by rw [ef508, va_up_ne _ _ (Ne.symm n456)]; exact h506
    refine hp_iast B0 hw hS h510 (by unfold vp_in; decide) dL_law_86 (fun H locs f511 ef511 hw hS => ?_)
    rw [show (upd (mAk 8) (8 : Int32).toNatClampNeg (-1) : Nat → Int32) = (mAk 9) from (mAk_u (k := 8) (by decide))] at ef511
    have h512 : f511 lq = some (.inl (cI G, 12, .inl (mAk 9))) := by rw [ef511, va_up_self]
    refine lv_iinc (v := 9) (lv' := [(12, .int 9), (11, .ref lg), (10, .ref lr), (9, .ref lh), (8, .ref lb), (7, .ref le), (6, .ref lq), (5, .ref la), (4, .ref lw), (3, .ref ly), (2, .ref lx), (1, .ref xo), (0, .ref b)]) hx hb dL_law_87 hl9 (k := 0) rfl (by decide) (by decide) rfl (fun ls hl9 => ?_)
    refine lv_goto (tgt := 68) hx hb dL_law_90 (by decide) ?_
    refine lv_iload hx hb dL_law_68 (lv_at hl9 0 rfl) ?_
    refine lv_bipush (v := 12) hx hb dL_law_70 (by decide) ?_
    refine lv_icmp_ge (tgt := 93) hx hb dL_law_72 (by decide) (fun c9 => absurd c9 (by decide)) (fun _ => ?_)
    refine lv_aload hx hb dL_law_75 (lv_at hl9 8 rfl) ?_
    refine lv_iload hx hb dL_law_77 (lv_at hl9 0 rfl) ?_
    refine lv_iconst (v := (-1)) hx hb dL_law_79 (by decide) ?_
    have h513 : f511 lw = some (.inl (cI G, 12, .inl (mAk 9))) := by rw [ef511, va_up_ne _ _ n456]; exact h509
    refine hp_iast B0 hw hS h513 (by unfold vp_in; decide) dL_law_80 (fun H locs f514 ef514 hw hS => ?_)
    rw [show (upd (mAk 9) (9 : Int32).toNatClampNeg (-1) : Nat → Int32) = (mAk 10) from (mAk_u (k := 9) (by decide))] at ef514
    have h515 : f514 lw = some (.inl (cI G, 12, .inl (mAk 10))) := by rw [ef514, va_up_self]
    refine lv_aload hx hb dL_law_81 (lv_at hl9 6 rfl) ?_
    refine lv_iload hx hb dL_law_83 (lv_at hl9 0 rfl) ?_
    refine lv_iconst (v := (-1)) hx hb dL_law_85 (by decide) ?_
    have h516 : f514 lq = some (.inl (cI G, 12, .inl (mAk 9))) := by rw [ef514, va_up_ne _ _ (Ne.symm n456)]; exact h512
    refine hp_iast B0 hw hS h516 (by unfold vp_in; decide) dL_law_86 (fun H locs f517 ef517 hw hS => ?_)
    rw [show (upd (mAk 9) (9 : Int32).toNatClampNeg (-1) : Nat → Int32) = (mAk 10) from (mAk_u (k := 9) (by decide))] at ef517
    have h518 : f517 lq = some (.inl (cI G, 12, .inl (mAk 10))) := by rw [ef517, va_up_self]
    refine lv_iinc (v := 10) (lv' := [(12, .int 10), (11, .ref lg), (10, .ref lr), (9, .ref lh), (8, .ref lb), (7, .ref le), (6, .ref lq), (5, .ref la), (4, .ref lw), (3, .ref ly), (2, .ref lx), (1, .ref xo), (0, .ref b)]) hx hb dL_law_87 hl9 (k := 0) rfl (by decide) (by decide) rfl (fun ls hl9 => ?_)
    refine lv_goto (tgt := 68) hx hb dL_law_90 (by decide) ?_
    refine lv_iload hx hb dL_law_68 (lv_at hl9 0 rfl) ?_
    refine lv_bipush (v := 12) hx hb dL_law_70 (by decide) ?_
    refine lv_icmp_ge (tgt := 93) hx hb dL_law_72 (by decide) (fun c9 => absurd c9 (by decide)) (fun _ => ?_)
    refine lv_aload hx hb dL_law_75 (lv_at hl9 8 rfl) ?_
    refine lv_iload hx hb dL_law_77 (lv_at hl9 0 rfl) ?_
    refine lv_iconst (v := (-1)) hx hb dL_law_79 (by decide) ?_
    have h519 : f517 lw = some (.inl (cI G, 12, .inl (mAk 10))) := by rw [ef517, va_up_ne _ _ n456]; exact h515
    refine hp_iast B0 hw hS h519 (by unfold vp_in; decide) dL_law_80 (fun H locs f520 ef520 hw hS => ?_)
    rw [show (upd (mAk 10) (10 : Int32).toNatClampNeg (-1) : Nat → Int32) = (mAk 11) from (mAk_u (k := 10) (by decide))] at ef520
    have h521 : f520 lw = some (.inl (cI G, 12, .inl (mAk 11))) := by rw [ef520, va_up_self]
    refine lv_aload hx hb dL_law_81 (lv_at hl9 6 rfl) ?_
    refine lv_iload hx hb dL_law_83 (lv_at hl9 0 rfl) ?_
    refine lv_iconst (v := (-1)) hx hb dL_law_85 (by decide) ?_
    have h522 : f520 lq = some (.inl (cI G, 12, .inl (mAk 10))) := by rw [ef520, va_up_ne _ _ (Ne.symm n456)]; exact h518
    refine hp_iast B0 hw hS h522 (by unfold vp_in; decide) dL_law_86 (fun H locs f523 ef523 hw hS => ?_)
    rw [show (upd (mAk 10) (10 : Int32).toNatClampNeg (-1) : Nat → Int32) = (mAk 11) from (mAk_u (k := 10) (by decide))] at ef523
    have h524 : f523 lq = some (.inl (cI G, 12, .inl (mAk 11))) := by rw [ef523, va_up_self]
    refine lv_iinc (v := 11) (lv' := [(12, .int 11), (11, .ref lg), (10, .ref lr), (9, .ref lh), (8, .ref lb), (7, .ref le), (6, .ref lq), (5, .ref la), (4, .ref lw), (3, .ref ly), (2, .ref lx), (1, .ref xo), (0, .ref b)]) hx hb dL_law_87 hl9 (k := 0) rfl (by decide) (by decide) rfl (fun ls hl9 => ?_)
    refine lv_goto (tgt := 68) hx hb dL_law_90 (by decide) ?_
    refine lv_iload hx hb dL_law_68 (lv_at hl9 0 rfl) ?_
    refine lv_bipush (v := 12) hx hb dL_law_70 (by decide) ?_
    refine lv_icmp_ge (tgt := 93) hx hb dL_law_72 (by decide) (fun c9 => absurd c9 (by decide)) (fun _ => ?_)
    refine lv_aload hx hb dL_law_75 (lv_at hl9 8 rfl) ?_
    refine lv_iload hx hb dL_law_77 (lv_at hl9 0 rfl) ?_
    refine lv_iconst (v := (-1)) hx hb dL_law_79 (by decide) ?_
    have h525 : f523 lw = some (.inl (cI G, 12, .inl (mAk 11))) := by rw [ef523, va_up_ne _ _ n456]; exact h521
    refine hp_iast B0 hw hS h525 (by unfold vp_in; decide) dL_law_80 (fun H locs f526 ef526 hw hS => ?_)
    rw [show (upd (mAk 11) (11 : Int32).toNatClampNeg (-1) : Nat → Int32) = (mAk 12) from (mAk_u (k := 11) (by decide))] at ef526
    have h527 : f526 lw = some (.inl (cI G, 12, .inl (mAk 12))) := by rw [ef526, va_up_self]
    refine lv_aload hx hb dL_law_81 (lv_at hl9 6 rfl) ?_
    refine lv_iload hx hb dL_law_83 (lv_at hl9 0 rfl) ?_
    refine lv_iconst (v := (-1)) hx hb dL_law_85 (by decide) ?_
    have h528 : f526 lq = some (.inl (cI G, 12, .inl (mAk 11))) := by rw [ef526, va_up_ne _ _ (Ne.symm n456)]; exact h524
    refine hp_iast B0 hw hS h528 (by unfold vp_in; decide) dL_law_86 (fun H locs f529 ef529 hw hS => ?_)
    rw [show (upd (mAk 11) (11 : Int32).toNatClampNeg (-1) : Nat → Int32) = (mAk 12) from (mAk_u (k := 11) (by decide))] at ef529
    have h530 : f529 lq = some (.inl (cI G, 12, .inl (mAk 12))) := by rw [ef529, va_up_self]
    refine lv_iinc (v := 12) (lv' := [(12, .int 12), (11, .ref lg), (10, .ref lr), (9, .ref lh), (8, .ref lb), (7, .ref le), (6, .ref lq), (5, .ref la), (4, .ref lw), (3, .ref ly), (2, .ref lx), (1, .ref xo), (0, .ref b)]) hx hb dL_law_87 hl9 (k := 0) rfl (by decide) (by decide) rfl (fun ls hl9 => ?_)
    refine lv_goto (tgt := 68) hx hb dL_law_90 (by decide) ?_
    refine lv_iload hx hb dL_law_68 (lv_at hl9 0 rfl) ?_
    refine lv_bipush (v := 12) hx hb dL_law_70 (by decide) ?_
    refine lv_icmp_ge (tgt := 93) hx hb dL_law_72 (by decide) (fun _ => ?_) (fun c9 => absurd (by decide) c9)
    refine lv_aload hx hb dL_law_93 (lv_at hl9 5 rfl) ?_
    refine lv_iconst (v := 1) hx hb dL_law_95 (by decide) ?_
    refine lv_iconst (v := (-1)) hx hb dL_law_96 (by decide) ?_
    have h531 : f53 le = some (.inl (cI G, 16, .inl (fun _ => 0))) := by rw [ef53, va_up_ne _ _ (hnew h452 w52)]; exact h452
    have n533 : lw ≠ le := hnew h421 w40
    have h532 : f459 le = some (.inl (cI G, 16, .inl (fun _ => 0))) := by rw [ef459, va_up_ne _ _ (Ne.symm n533)]; exact h531
    have n535 : lq ≠ le := hnew h39 w40
    have h534 : f463 le = some (.inl (cI G, 16, .inl (fun _ => 0))) := by rw [ef463, va_up_ne _ _ (Ne.symm n535)]; exact h532
    have h536 : f466 le = some (.inl (cI G, 16, .inl (fun _ => 0))) := by rw [ef466, va_up_ne _ _ (Ne.symm n533)]; exact h534
    have h537 : f469 le = some (.inl (cI G, 16, .inl (fun _ => 0))) := by rw [ef469, va_up_ne _ _ (Ne.symm n535)]; exact h536
    have h538 : f472 le = some (.inl (cI G, 16, .inl (fun _ => 0))) := by rw [ef472, va_up_ne _ _ (Ne.symm n533)]; exact h537
    have h539 : f475 le = some (.inl (cI G, 16, .inl (fun _ => 0))) := by rw [ef475, va_up_ne _ _ (Ne.symm n535)]; exact h538
    have h540 : f478 le = some (.inl (cI G, 16, .inl (fun _ => 0))) := by rw [ef478, va_up_ne _ _ (Ne.symm n533)]; exact h539
    have h541 : f481 le = some (.inl (cI G, 16, .inl (fun _ => 0))) := by rw [ef481, va_up_ne _ _ (Ne.symm n535)]; exact h540
    have h542 : f484 le = some (.inl (cI G, 16, .inl (fun _ => 0))) := by rw [ef484, va_up_ne _ _ (Ne.symm n533)]; exact h541
    have h543 : f487 le = some (.inl (cI G, 16, .inl (fun _ => 0))) := by rw [ef487, va_up_ne _ _ (Ne.symm n535)]; exact h542
    have h544 : f490 le = some (.inl (cI G, 16, .inl (fun _ => 0))) := by rw [ef490, va_up_ne _ _ (Ne.symm n533)]; exact h543
    have h545 : f493 le = some (.inl (cI G, 16, .inl (fun _ => 0))) := by rw [ef493, va_up_ne _ _ (Ne.symm n535)]; exact h544
    have h546 : f496 le = some (.inl (cI G, 16, .inl (fun _ => 0))) := by rw [ef496, va_up_ne _ _ (Ne.symm n533)]; exact h545
    have h547 : f499 le = some (.inl (cI G, 16, .inl (fun _ => 0))) := by rw [ef499, va_up_ne _ _ (Ne.symm n535)]; exact h546
    have h548 : f502 le = some (.inl (cI G, 16, .inl (fun _ => 0))) := by rw [ef502, va_up_ne _ _ (Ne.symm n533)]; exact h547
    have h549 : f505 le = some (.inl (cI G, 16, .inl (fun _ => 0))) := by rw [ef505, va_up_ne _ _ (Ne.symm n535)]; exact h548
    have h550 : f508 le = some (.inl (cI G, 16, .inl (fun _ => 0))) := by rw [ef508, va_up_ne _ _ (Ne.symm n533)]; exact h549
    have h551 : f511 le = some (.inl (cI G, 16, .inl (fun _ => 0))) := by rw [ef511, va_up_ne _ _ (Ne.symm n535)]; exact h550
    have h552 : f514 le = some (.inl (cI G, 16, .inl (fun _ => 0))) := by rw [ef514, va_up_ne _ _ (Ne.symm n533)]; exact h551
    have h553 : f517 le = some (.inl (cI G, 16, .inl (fun _ => 0))) := by rw [ef517, va_up_ne _ _ (Ne.symm n535)]; exact h552
    have h554 : f520 le = some (.inl (cI G, 16, .inl (fun _ => 0))) := by rw [ef520, va_up_ne _ _ (Ne.symm n533)]; exact h553
    have h555 : f523 le = some (.inl (cI G, 16, .inl (fun _ => 0))) := by rw [ef523, va_up_ne _ _ (Ne.symm n535)]; exact h554
    have h556 : f526 le = some (.inl (cI G, 16, .inl (fun _ => 0))) := by rw [ef526, va_up_ne _ _ (Ne.symm n533)]; exact h555
    have h557 : f529 le = some (.inl (cI G, 16, .inl (fun _ => 0))) := by rw [ef529, va_up_ne _ _ (Ne.symm n535)]; exact h556
    refine hp_iast B0 hw hS h557 (by unfold vp_in; decide) dL_law_97 (fun H locs f558 ef558 hw hS => ?_)
    have h559 : f558 le = some (.inl (cI G, 16, .inl (upd (fun _ => 0) (1 : Int32).toNatClampNeg (-1)))) := by rw [ef558, va_up_self]
    refine lv_aload hx hb dL_law_98 (lv_at hl9 5 rfl) ?_
    refine lv_bipush (v := 9) hx hb dL_law_100 (by decide) ?_
    refine lv_iconst (v := (-1)) hx hb dL_law_102 (by decide) ?_
    refine hp_iast B0 hw hS h559 (by unfold vp_in; decide) dL_law_103 (fun H locs f560 ef560 hw hS => ?_)
    have e561 : f560 = va_up f529 le (some (.inl (cI G, 16, .inl (upd (upd (fun _ => 0) (1 : Int32).toNatClampNeg (-1)) (9 : Int32).toNatClampNeg (-1))))) := by rw [ef560, ef558, bx_uu]
    have h562 : f560 le = some (.inl (cI G, 16, .inl (upd (upd (fun _ => 0) (1 : Int32).toNatClampNeg (-1)) (9 : Int32).toNatClampNeg (-1)))) := by rw [ef560, va_up_self]
    refine lv_aload hx hb dL_law_104 (lv_at hl9 5 rfl) ?_
    refine lv_bipush (v := 14) hx hb dL_law_106 (by decide) ?_
    refine lv_iconst (v := 1) hx hb dL_law_108 (by decide) ?_
    refine hp_iast B0 hw hS h562 (by unfold vp_in; decide) dL_law_109 (fun H locs f563 ef563 hw hS => ?_)
    have e564 : f563 = va_up f529 le (some (.inl (cI G, 16, .inl (upd (upd (upd (fun _ => 0) (1 : Int32).toNatClampNeg (-1)) (9 : Int32).toNatClampNeg (-1)) (14 : Int32).toNatClampNeg 1)))) := by rw [ef563, e561, bx_uu]
    have h565 : f563 le = some (.inl (cI G, 16, .inl (upd (upd (upd (fun _ => 0) (1 : Int32).toNatClampNeg (-1)) (9 : Int32).toNatClampNeg (-1)) (14 : Int32).toNatClampNeg 1))) := by rw [ef563, va_up_self]
    refine lv_iconst (v := 3) hx hb dL_law_110 (by decide) ?_
    refine lv_istore (lv' := [(12, .int 3), (11, .ref lg), (10, .ref lr), (9, .ref lh), (8, .ref lb), (7, .ref le), (6, .ref lq), (5, .ref la), (4, .ref lw), (3, .ref ly), (2, .ref lx), (1, .ref xo), (0, .ref b)]) hx hb dL_law_111 hl9 (by decide) rfl (fun ls hl9 => ?_)
    refine lv_iload hx hb dL_law_113 (lv_at hl9 0 rfl) ?_
    refine lv_bipush (v := 6) hx hb dL_law_115 (by decide) ?_
    refine lv_icmp_ge (tgt := 132) hx hb dL_law_117 (by decide) (fun c9 => absurd c9 (by decide)) (fun _ => ?_)
    refine lv_aload hx hb dL_law_120 (lv_at hl9 1 rfl) ?_
    refine lv_iload hx hb dL_law_122 (lv_at hl9 0 rfl) ?_
    refine lv_iconst (v := (-1)) hx hb dL_law_124 (by decide) ?_
    have h566 : f459 lg = some (.inl (cI G, 10, .inl (fun _ => 0))) := by rw [ef459, va_up_ne _ _ (Ne.symm n429)]; exact h54
    have h567 : f463 lg = some (.inl (cI G, 10, .inl (fun _ => 0))) := by rw [ef463, va_up_ne _ _ (Ne.symm n446)]; exact h566
    have h568 : f466 lg = some (.inl (cI G, 10, .inl (fun _ => 0))) := by rw [ef466, va_up_ne _ _ (Ne.symm n429)]; exact h567
    have h569 : f469 lg = some (.inl (cI G, 10, .inl (fun _ => 0))) := by rw [ef469, va_up_ne _ _ (Ne.symm n446)]; exact h568
    have h570 : f472 lg = some (.inl (cI G, 10, .inl (fun _ => 0))) := by rw [ef472, va_up_ne _ _ (Ne.symm n429)]; exact h569
    have h571 : f475 lg = some (.inl (cI G, 10, .inl (fun _ => 0))) := by rw [ef475, va_up_ne _ _ (Ne.symm n446)]; exact h570
    have h572 : f478 lg = some (.inl (cI G, 10, .inl (fun _ => 0))) := by rw [ef478, va_up_ne _ _ (Ne.symm n429)]; exact h571
    have h573 : f481 lg = some (.inl (cI G, 10, .inl (fun _ => 0))) := by rw [ef481, va_up_ne _ _ (Ne.symm n446)]; exact h572
    have h574 : f484 lg = some (.inl (cI G, 10, .inl (fun _ => 0))) := by rw [ef484, va_up_ne _ _ (Ne.symm n429)]; exact h573
    have h575 : f487 lg = some (.inl (cI G, 10, .inl (fun _ => 0))) := by rw [ef487, va_up_ne _ _ (Ne.symm n446)]; exact h574
    have h576 : f490 lg = some (.inl (cI G, 10, .inl (fun _ => 0))) := by rw [ef490, va_up_ne _ _ (Ne.symm n429)]; exact h575
    have h577 : f493 lg = some (.inl (cI G, 10, .inl (fun _ => 0))) := by rw [ef493, va_up_ne _ _ (Ne.symm n446)]; exact h576
    have h578 : f496 lg = some (.inl (cI G, 10, .inl (fun _ => 0))) := by rw [ef496, va_up_ne _ _ (Ne.symm n429)]; exact h577
    have h579 : f499 lg = some (.inl (cI G, 10, .inl (fun _ => 0))) := by rw [ef499, va_up_ne _ _ (Ne.symm n446)]; exact h578
    have h580 : f502 lg = some (.inl (cI G, 10, .inl (fun _ => 0))) := by rw [ef502, va_up_ne _ _ (Ne.symm n429)]; exact h579
    have h581 : f505 lg = some (.inl (cI G, 10, .inl (fun _ => 0))) := by rw [ef505, va_up_ne _ _ (Ne.symm n446)]; exact h580
    have h582 : f508 lg = some (.inl (cI G, 10, .inl (fun _ => 0))) := by rw [ef508, va_up_ne _ _ (Ne.symm n429)]; exact h581
    have h583 : f511 lg = some (.inl (cI G, 10, .inl (fun _ => 0))) := by rw [ef511, va_up_ne _ _ (Ne.symm n446)]; exact h582
    have h584 : f514 lg = some (.inl (cI G, 10, .inl (fun _ => 0))) := by rw [ef514, va_up_ne _ _ (Ne.symm n429)]; exact h583
    have h585 : f517 lg = some (.inl (cI G, 10, .inl (fun _ => 0))) := by rw [ef517, va_up_ne _ _ (Ne.symm n446)]; exact h584
    have h586 : f520 lg = some (.inl (cI G, 10, .inl (fun _ => 0))) := by rw [ef520, va_up_ne _ _ (Ne.symm n429)]; exact h585
    have h587 : f523 lg = some (.inl (cI G, 10, .inl (fun _ => 0))) := by rw [ef523, va_up_ne _ _ (Ne.symm n446)]; exact h586
    have h588 : f526 lg = some (.inl (cI G, 10, .inl (fun _ => 0))) := by rw [ef526, va_up_ne _ _ (Ne.symm n429)]; exact h587
    have h589 : f529 lg = some (.inl (cI G, 10, .inl (fun _ => 0))) := by rw [ef529, va_up_ne _ _ (Ne.symm n446)]; exact h588
    have h590 : f563 lg = some (.inl (cI G, 10, .inl (fun _ => 0))) := by rw [e564, va_up_ne _ _ (Ne.symm n453)]; exact h589
    refine hp_iast B0 hw hS h590 (by unfold vp_in; decide) dL_law_125 (fun H locs f591 ef591 hw hS => ?_)
    have h592 : f591 lg = some (.inl (cI G, 10, .inl (upd (fun _ => 0) (3 : Int32).toNatClampNeg (-1)))) := by rw [ef591, va_up_self]
    refine lv_iinc (v := 4) (lv' := [(12, .int 4), (11, .ref lg), (10, .ref lr), (9, .ref lh), (8, .ref lb), (7, .ref le), (6, .ref lq), (5, .ref la), (4, .ref lw), (3, .ref ly), (2, .ref lx), (1, .ref xo), (0, .ref b)]) hx hb dL_law_126 hl9 (k := 0) rfl (by decide) (by decide) rfl (fun ls hl9 => ?_)
    refine lv_goto (tgt := 113) hx hb dL_law_129 (by decide) ?_
    refine lv_iload hx hb dL_law_113 (lv_at hl9 0 rfl) ?_
    refine lv_bipush (v := 6) hx hb dL_law_115 (by decide) ?_
    refine lv_icmp_ge (tgt := 132) hx hb dL_law_117 (by decide) (fun c9 => absurd c9 (by decide)) (fun _ => ?_)
    refine lv_aload hx hb dL_law_120 (lv_at hl9 1 rfl) ?_
    refine lv_iload hx hb dL_law_122 (lv_at hl9 0 rfl) ?_
    refine lv_iconst (v := (-1)) hx hb dL_law_124 (by decide) ?_
    refine hp_iast B0 hw hS h592 (by unfold vp_in; decide) dL_law_125 (fun H locs f593 ef593 hw hS => ?_)
    have e594 : f593 = va_up f563 lg (some (.inl (cI G, 10, .inl (upd (upd (fun _ => 0) (3 : Int32).toNatClampNeg (-1)) (4 : Int32).toNatClampNeg (-1))))) := by rw [ef593, ef591, bx_uu]
    have h595 : f593 lg = some (.inl (cI G, 10, .inl (upd (upd (fun _ => 0) (3 : Int32).toNatClampNeg (-1)) (4 : Int32).toNatClampNeg (-1)))) := by rw [ef593, va_up_self]
    refine lv_iinc (v := 5) (lv' := [(12, .int 5), (11, .ref lg), (10, .ref lr), (9, .ref lh), (8, .ref lb), (7, .ref le), (6, .ref lq), (5, .ref la), (4, .ref lw), (3, .ref ly), (2, .ref lx), (1, .ref xo), (0, .ref b)]) hx hb dL_law_126 hl9 (k := 0) rfl (by decide) (by decide) rfl (fun ls hl9 => ?_)
    refine lv_goto (tgt := 113) hx hb dL_law_129 (by decide) ?_
    refine lv_iload hx hb dL_law_113 (lv_at hl9 0 rfl) ?_
    refine lv_bipush (v := 6) hx hb dL_law_115 (by decide) ?_
    refine lv_icmp_ge (tgt := 132) hx hb dL_law_117 (by decide) (fun c9 => absurd c9 (by decide)) (fun _ => ?_)
    refine lv_aload hx hb dL_law_120 (lv_at hl9 1 rfl) ?_
    refine lv_iload hx hb dL_law_122 (lv_at hl9 0 rfl) ?_
    refine lv_iconst (v := (-1)) hx hb dL_law_124 (by decide) ?_
    refine hp_iast B0 hw hS h595 (by unfold vp_in; decide) dL_law_125 (fun H locs f596 ef596 hw hS => ?_)
    have e597 : f596 = va_up f563 lg (some (.inl (cI G, 10, .inl (upd (upd (upd (fun _ => 0) (3 : Int32).toNatClampNeg (-1)) (4 : Int32).toNatClampNeg (-1)) (5 : Int32).toNatClampNeg (-1))))) := by rw [ef596, e594, bx_uu]
    have h598 : f596 lg = some (.inl (cI G, 10, .inl (upd (upd (upd (fun _ => 0) (3 : Int32).toNatClampNeg (-1)) (4 : Int32).toNatClampNeg (-1)) (5 : Int32).toNatClampNeg (-1)))) := by rw [ef596, va_up_self]
    refine lv_iinc (v := 6) (lv' := [(12, .int 6), (11, .ref lg), (10, .ref lr), (9, .ref lh), (8, .ref lb), (7, .ref le), (6, .ref lq), (5, .ref la), (4, .ref lw), (3, .ref ly), (2, .ref lx), (1, .ref xo), (0, .ref b)]) hx hb dL_law_126 hl9 (k := 0) rfl (by decide) (by decide) rfl (fun ls hl9 => ?_)
    refine lv_goto (tgt := 113) hx hb dL_law_129 (by decide) ?_
    refine lv_iload hx hb dL_law_113 (lv_at hl9 0 rfl) ?_
    refine lv_bipush (v := 6) hx hb dL_law_115 (by decide) ?_
    refine lv_icmp_ge (tgt := 132) hx hb dL_law_117 (by decide) (fun _ => ?_) (fun c9 => absurd (by decide) c9)
    refine lv_aload_n hx hb dL_law_132 rfl (lv_at hl9 11 rfl) ?_
    refine lv_aload hx hb dL_law_133 (lv_at hl9 6 rfl) ?_
    refine lv_aload hx hb dL_law_135 (lv_at hl9 5 rfl) ?_
    refine lv_aload hx hb dL_law_137 (lv_at hl9 2 rfl) ?_
    refine lv_aload hx hb dL_law_139 (lv_at hl9 1 rfl) ?_
    have hdis : ∀ p, p ∈ [xo, ez, eo, bu, nw0, na0, nq0, nr0, nw1, na1, nq1, nr1, bs, bp, bh, bf, bl, bg] → p ∉ [lx, ly, lw, la, lq, le, lb, lh, lr, lg] := by
      intro p hp
      simp only [List.mem_cons, List.not_mem_nil, or_false] at hp
      rcases hp with hp | hp | hp | hp | hp | hp | hp | hp | hp | hp | hp | hp | hp | hp | hp | hp | hp | hp
      · rw [hp]; exact (ninc n55 (ninc n57 (ninc n59 (ninc n61 (ninc n63 (ninc n65 (ninc n67 (ninc n69 (ninc n71 (ninc n73 nin0))))))))))
      · rw [hp]; exact (ninc n74 (ninc n76 (ninc n78 (ninc n80 (ninc n82 (ninc n84 (ninc n86 (ninc n88 (ninc n90 (ninc n92 nin0))))))))))
      · rw [hp]; exact (ninc n93 (ninc n95 (ninc n97 (ninc n99 (ninc n101 (ninc n103 (ninc n105 (ninc n107 (ninc n109 (ninc n111 nin0))))))))))
      · rw [hp]; exact (ninc n112 (ninc n114 (ninc n116 (ninc n118 (ninc n120 (ninc n122 (ninc n124 (ninc n126 (ninc n128 (ninc n130 nin0))))))))))
      · rw [hp]; exact (ninc n131 (ninc n133 (ninc n135 (ninc n137 (ninc n139 (ninc n141 (ninc n143 (ninc n145 (ninc n147 (ninc n149 nin0))))))))))
      · rw [hp]; exact (ninc n150 (ninc n152 (ninc n154 (ninc n156 (ninc n158 (ninc n160 (ninc n162 (ninc n164 (ninc n166 (ninc n168 nin0))))))))))
      · rw [hp]; exact (ninc n169 (ninc n171 (ninc n173 (ninc n175 (ninc n177 (ninc n179 (ninc n181 (ninc n183 (ninc n185 (ninc n187 nin0))))))))))
      · rw [hp]; exact (ninc n188 (ninc n190 (ninc n192 (ninc n194 (ninc n196 (ninc n198 (ninc n200 (ninc n202 (ninc n204 (ninc n206 nin0))))))))))
      · rw [hp]; exact (ninc n207 (ninc n209 (ninc n211 (ninc n213 (ninc n215 (ninc n217 (ninc n219 (ninc n221 (ninc n223 (ninc n225 nin0))))))))))
      · rw [hp]; exact (ninc n226 (ninc n228 (ninc n230 (ninc n232 (ninc n234 (ninc n236 (ninc n238 (ninc n240 (ninc n242 (ninc n244 nin0))))))))))
      · rw [hp]; exact (ninc n245 (ninc n247 (ninc n249 (ninc n251 (ninc n253 (ninc n255 (ninc n257 (ninc n259 (ninc n261 (ninc n263 nin0))))))))))
      · rw [hp]; exact (ninc n264 (ninc n266 (ninc n268 (ninc n270 (ninc n272 (ninc n274 (ninc n276 (ninc n278 (ninc n280 (ninc n282 nin0))))))))))
      · rw [hp]; exact (ninc n283 (ninc n285 (ninc n287 (ninc n289 (ninc n291 (ninc n293 (ninc n295 (ninc n297 (ninc n299 (ninc n301 nin0))))))))))
      · rw [hp]; exact (ninc n302 (ninc n304 (ninc n306 (ninc n308 (ninc n310 (ninc n312 (ninc n314 (ninc n316 (ninc n318 (ninc n320 nin0))))))))))
      · rw [hp]; exact (ninc n321 (ninc n323 (ninc n325 (ninc n327 (ninc n329 (ninc n331 (ninc n333 (ninc n335 (ninc n337 (ninc n339 nin0))))))))))
      · rw [hp]; exact (ninc n340 (ninc n342 (ninc n344 (ninc n346 (ninc n348 (ninc n350 (ninc n352 (ninc n354 (ninc n356 (ninc n358 nin0))))))))))
      · rw [hp]; exact (ninc n359 (ninc n361 (ninc n363 (ninc n365 (ninc n367 (ninc n369 (ninc n371 (ninc n373 (ninc n375 (ninc n377 nin0))))))))))
      · rw [hp]; exact (ninc n378 (ninc n380 (ninc n382 (ninc n384 (ninc n386 (ninc n388 (ninc n390 (ninc n392 (ninc n394 (ninc n396 nin0))))))))))
    have hdos : ∀ p, p ∈ [lx, ly, lw, la, lq, le, lb, lh, lr, lg] → p ∉ [xo, ez, eo, bu, nw0, na0, nq0, nr0, nw1, na1, nq1, nr1, bs, bp, bh, bf, bl, bg] := by
      intro p hp
      simp only [List.mem_cons, List.not_mem_nil, or_false] at hp
      rcases hp with hp | hp | hp | hp | hp | hp | hp | hp | hp | hp
      · rw [hp]; exact (ninc (Ne.symm n55) (ninc (Ne.symm n74) (ninc (Ne.symm n93) (ninc (Ne.symm n112) (ninc (Ne.symm n131) (ninc (Ne.symm n150) (ninc (Ne.symm n169) (ninc (Ne.symm n188) (ninc (Ne.symm n207) (ninc (Ne.symm n226) (ninc (Ne.symm n245) (ninc (Ne.symm n264) (ninc (Ne.symm n283) (ninc (Ne.symm n302) (ninc (Ne.symm n321) (ninc (Ne.symm n340) (ninc (Ne.symm n359) (ninc (Ne.symm n378) nin0))))))))))))))))))
      · rw [hp]; exact (ninc (Ne.symm n57) (ninc (Ne.symm n76) (ninc (Ne.symm n95) (ninc (Ne.symm n114) (ninc (Ne.symm n133) (ninc (Ne.symm n152) (ninc (Ne.symm n171) (ninc (Ne.symm n190) (ninc (Ne.symm n209) (ninc (Ne.symm n228) (ninc (Ne.symm n247) (ninc (Ne.symm n266) (ninc (Ne.symm n285) (ninc (Ne.symm n304) (ninc (Ne.symm n323) (ninc (Ne.symm n342) (ninc (Ne.symm n361) (ninc (Ne.symm n380) nin0))))))))))))))))))
      · rw [hp]; exact (ninc (Ne.symm n59) (ninc (Ne.symm n78) (ninc (Ne.symm n97) (ninc (Ne.symm n116) (ninc (Ne.symm n135) (ninc (Ne.symm n154) (ninc (Ne.symm n173) (ninc (Ne.symm n192) (ninc (Ne.symm n211) (ninc (Ne.symm n230) (ninc (Ne.symm n249) (ninc (Ne.symm n268) (ninc (Ne.symm n287) (ninc (Ne.symm n306) (ninc (Ne.symm n325) (ninc (Ne.symm n344) (ninc (Ne.symm n363) (ninc (Ne.symm n382) nin0))))))))))))))))))
      · rw [hp]; exact (ninc (Ne.symm n61) (ninc (Ne.symm n80) (ninc (Ne.symm n99) (ninc (Ne.symm n118) (ninc (Ne.symm n137) (ninc (Ne.symm n156) (ninc (Ne.symm n175) (ninc (Ne.symm n194) (ninc (Ne.symm n213) (ninc (Ne.symm n232) (ninc (Ne.symm n251) (ninc (Ne.symm n270) (ninc (Ne.symm n289) (ninc (Ne.symm n308) (ninc (Ne.symm n327) (ninc (Ne.symm n346) (ninc (Ne.symm n365) (ninc (Ne.symm n384) nin0))))))))))))))))))
      · rw [hp]; exact (ninc (Ne.symm n63) (ninc (Ne.symm n82) (ninc (Ne.symm n101) (ninc (Ne.symm n120) (ninc (Ne.symm n139) (ninc (Ne.symm n158) (ninc (Ne.symm n177) (ninc (Ne.symm n196) (ninc (Ne.symm n215) (ninc (Ne.symm n234) (ninc (Ne.symm n253) (ninc (Ne.symm n272) (ninc (Ne.symm n291) (ninc (Ne.symm n310) (ninc (Ne.symm n329) (ninc (Ne.symm n348) (ninc (Ne.symm n367) (ninc (Ne.symm n386) nin0))))))))))))))))))
      · rw [hp]; exact (ninc (Ne.symm n65) (ninc (Ne.symm n84) (ninc (Ne.symm n103) (ninc (Ne.symm n122) (ninc (Ne.symm n141) (ninc (Ne.symm n160) (ninc (Ne.symm n179) (ninc (Ne.symm n198) (ninc (Ne.symm n217) (ninc (Ne.symm n236) (ninc (Ne.symm n255) (ninc (Ne.symm n274) (ninc (Ne.symm n293) (ninc (Ne.symm n312) (ninc (Ne.symm n331) (ninc (Ne.symm n350) (ninc (Ne.symm n369) (ninc (Ne.symm n388) nin0))))))))))))))))))
      · rw [hp]; exact (ninc (Ne.symm n67) (ninc (Ne.symm n86) (ninc (Ne.symm n105) (ninc (Ne.symm n124) (ninc (Ne.symm n143) (ninc (Ne.symm n162) (ninc (Ne.symm n181) (ninc (Ne.symm n200) (ninc (Ne.symm n219) (ninc (Ne.symm n238) (ninc (Ne.symm n257) (ninc (Ne.symm n276) (ninc (Ne.symm n295) (ninc (Ne.symm n314) (ninc (Ne.symm n333) (ninc (Ne.symm n352) (ninc (Ne.symm n371) (ninc (Ne.symm n390) nin0))))))))))))))))))
      · rw [hp]; exact (ninc (Ne.symm n69) (ninc (Ne.symm n88) (ninc (Ne.symm n107) (ninc (Ne.symm n126) (ninc (Ne.symm n145) (ninc (Ne.symm n164) (ninc (Ne.symm n183) (ninc (Ne.symm n202) (ninc (Ne.symm n221) (ninc (Ne.symm n240) (ninc (Ne.symm n259) (ninc (Ne.symm n278) (ninc (Ne.symm n297) (ninc (Ne.symm n316) (ninc (Ne.symm n335) (ninc (Ne.symm n354) (ninc (Ne.symm n373) (ninc (Ne.symm n392) nin0))))))))))))))))))
      · rw [hp]; exact (ninc (Ne.symm n71) (ninc (Ne.symm n90) (ninc (Ne.symm n109) (ninc (Ne.symm n128) (ninc (Ne.symm n147) (ninc (Ne.symm n166) (ninc (Ne.symm n185) (ninc (Ne.symm n204) (ninc (Ne.symm n223) (ninc (Ne.symm n242) (ninc (Ne.symm n261) (ninc (Ne.symm n280) (ninc (Ne.symm n299) (ninc (Ne.symm n318) (ninc (Ne.symm n337) (ninc (Ne.symm n356) (ninc (Ne.symm n375) (ninc (Ne.symm n394) nin0))))))))))))))))))
      · rw [hp]; exact (ninc (Ne.symm n73) (ninc (Ne.symm n92) (ninc (Ne.symm n111) (ninc (Ne.symm n130) (ninc (Ne.symm n149) (ninc (Ne.symm n168) (ninc (Ne.symm n187) (ninc (Ne.symm n206) (ninc (Ne.symm n225) (ninc (Ne.symm n244) (ninc (Ne.symm n263) (ninc (Ne.symm n282) (ninc (Ne.symm n301) (ninc (Ne.symm n320) (ninc (Ne.symm n339) (ninc (Ne.symm n358) (ninc (Ne.symm n377) (ninc (Ne.symm n396) nin0))))))))))))))))))
    have hlb : ∀ p, p ∈ [lx, ly, lw, la, lq, le] → p ∉ [lb, lh, lr, lg] := by
      intro p hp
      simp only [List.mem_cons, List.not_mem_nil, or_false] at hp
      rcases hp with hp | hp | hp | hp | hp | hp
      · rw [hp]; exact (ninc n402 (ninc n404 (ninc n406 (ninc n408 nin0))))
      · rw [hp]; exact (ninc n413 (ninc n415 (ninc n417 (ninc n419 nin0))))
      · rw [hp]; exact (ninc n423 (ninc n425 (ninc n427 (ninc n429 nin0))))
      · rw [hp]; exact (ninc n432 (ninc n434 (ninc n436 (ninc n438 nin0))))
      · rw [hp]; exact (ninc n440 (ninc n442 (ninc n444 (ninc n446 nin0))))
      · rw [hp]; exact (ninc n447 (ninc n449 (ninc n451 (ninc n453 nin0))))
    have hbl9 : ∀ p, p ∈ [lb, lh, lr, lg] → p ∉ [lx, ly, lw, la, lq, le] := by
      intro p hp
      simp only [List.mem_cons, List.not_mem_nil, or_false] at hp
      rcases hp with hp | hp | hp | hp
      · rw [hp]; exact (ninc (Ne.symm n402) (ninc (Ne.symm n413) (ninc (Ne.symm n423) (ninc (Ne.symm n432) (ninc (Ne.symm n440) (ninc (Ne.symm n447) nin0))))))
      · rw [hp]; exact (ninc (Ne.symm n404) (ninc (Ne.symm n415) (ninc (Ne.symm n425) (ninc (Ne.symm n434) (ninc (Ne.symm n442) (ninc (Ne.symm n449) nin0))))))
      · rw [hp]; exact (ninc (Ne.symm n406) (ninc (Ne.symm n417) (ninc (Ne.symm n427) (ninc (Ne.symm n436) (ninc (Ne.symm n444) (ninc (Ne.symm n451) nin0))))))
      · rw [hp]; exact (ninc (Ne.symm n408) (ninc (Ne.symm n419) (ninc (Ne.symm n429) (ninc (Ne.symm n438) (ninc (Ne.symm n446) (ninc (Ne.symm n453) nin0))))))
    have n_lx_ly : lx ≠ ly := n454
    have n_lw_la : lw ≠ la := n455
    have n_lw_lq : lw ≠ lq := n456
    have n_la_lq : la ≠ lq := n457
    have h599 : f53 xo = some (.inr (4, [.ref ez, .ref eo, .ref bu])) := by rw [ef53, va_up_ne _ _ (hnew h72 w52)]; exact h72
    have h600 : f459 xo = some (.inr (4, [.ref ez, .ref eo, .ref bu])) := by rw [ef459, va_up_ne _ _ n59]; exact h599
    have h601 : f463 xo = some (.inr (4, [.ref ez, .ref eo, .ref bu])) := by rw [ef463, va_up_ne _ _ n63]; exact h600
    have h602 : f466 xo = some (.inr (4, [.ref ez, .ref eo, .ref bu])) := by rw [ef466, va_up_ne _ _ n59]; exact h601
    have h603 : f469 xo = some (.inr (4, [.ref ez, .ref eo, .ref bu])) := by rw [ef469, va_up_ne _ _ n63]; exact h602
    have h604 : f472 xo = some (.inr (4, [.ref ez, .ref eo, .ref bu])) := by rw [ef472, va_up_ne _ _ n59]; exact h603
    have h605 : f475 xo = some (.inr (4, [.ref ez, .ref eo, .ref bu])) := by rw [ef475, va_up_ne _ _ n63]; exact h604
    have h606 : f478 xo = some (.inr (4, [.ref ez, .ref eo, .ref bu])) := by rw [ef478, va_up_ne _ _ n59]; exact h605
    have h607 : f481 xo = some (.inr (4, [.ref ez, .ref eo, .ref bu])) := by rw [ef481, va_up_ne _ _ n63]; exact h606
    have h608 : f484 xo = some (.inr (4, [.ref ez, .ref eo, .ref bu])) := by rw [ef484, va_up_ne _ _ n59]; exact h607
    have h609 : f487 xo = some (.inr (4, [.ref ez, .ref eo, .ref bu])) := by rw [ef487, va_up_ne _ _ n63]; exact h608
    have h610 : f490 xo = some (.inr (4, [.ref ez, .ref eo, .ref bu])) := by rw [ef490, va_up_ne _ _ n59]; exact h609
    have h611 : f493 xo = some (.inr (4, [.ref ez, .ref eo, .ref bu])) := by rw [ef493, va_up_ne _ _ n63]; exact h610
    have h612 : f496 xo = some (.inr (4, [.ref ez, .ref eo, .ref bu])) := by rw [ef496, va_up_ne _ _ n59]; exact h611
    have h613 : f499 xo = some (.inr (4, [.ref ez, .ref eo, .ref bu])) := by rw [ef499, va_up_ne _ _ n63]; exact h612
    have h614 : f502 xo = some (.inr (4, [.ref ez, .ref eo, .ref bu])) := by rw [ef502, va_up_ne _ _ n59]; exact h613
    have h615 : f505 xo = some (.inr (4, [.ref ez, .ref eo, .ref bu])) := by rw [ef505, va_up_ne _ _ n63]; exact h614
    have h616 : f508 xo = some (.inr (4, [.ref ez, .ref eo, .ref bu])) := by rw [ef508, va_up_ne _ _ n59]; exact h615
    have h617 : f511 xo = some (.inr (4, [.ref ez, .ref eo, .ref bu])) := by rw [ef511, va_up_ne _ _ n63]; exact h616
    have h618 : f514 xo = some (.inr (4, [.ref ez, .ref eo, .ref bu])) := by rw [ef514, va_up_ne _ _ n59]; exact h617
    have h619 : f517 xo = some (.inr (4, [.ref ez, .ref eo, .ref bu])) := by rw [ef517, va_up_ne _ _ n63]; exact h618
    have h620 : f520 xo = some (.inr (4, [.ref ez, .ref eo, .ref bu])) := by rw [ef520, va_up_ne _ _ n59]; exact h619
    have h621 : f523 xo = some (.inr (4, [.ref ez, .ref eo, .ref bu])) := by rw [ef523, va_up_ne _ _ n63]; exact h620
    have h622 : f526 xo = some (.inr (4, [.ref ez, .ref eo, .ref bu])) := by rw [ef526, va_up_ne _ _ n59]; exact h621
    have h623 : f529 xo = some (.inr (4, [.ref ez, .ref eo, .ref bu])) := by rw [ef529, va_up_ne _ _ n63]; exact h622
    have h624 : f563 xo = some (.inr (4, [.ref ez, .ref eo, .ref bu])) := by rw [e564, va_up_ne _ _ n65]; exact h623
    have h625 : f596 xo = some (.inr (4, [.ref ez, .ref eo, .ref bu])) := by rw [e597, va_up_ne _ _ n73]; exact h624
    have h626 : f53 ez = some (.inr (1, [.ref nw0, .ref na0, .ref nq0, .ref nr0, .int 1, .int 0, .int 0, .int 0, .int (-1), .int 0, .int 0])) := by rw [ef53, va_up_ne _ _ (hnew h91 w52)]; exact h91
    have h627 : f459 ez = some (.inr (1, [.ref nw0, .ref na0, .ref nq0, .ref nr0, .int 1, .int 0, .int 0, .int 0, .int (-1), .int 0, .int 0])) := by rw [ef459, va_up_ne _ _ n78]; exact h626
    have h628 : f463 ez = some (.inr (1, [.ref nw0, .ref na0, .ref nq0, .ref nr0, .int 1, .int 0, .int 0, .int 0, .int (-1), .int 0, .int 0])) := by rw [ef463, va_up_ne _ _ n82]; exact h627
    have h629 : f466 ez = some (.inr (1, [.ref nw0, .ref na0, .ref nq0, .ref nr0, .int 1, .int 0, .int 0, .int 0, .int (-1), .int 0, .int 0])) := by rw [ef466, va_up_ne _ _ n78]; exact h628
    have h630 : f469 ez = some (.inr (1, [.ref nw0, .ref na0, .ref nq0, .ref nr0, .int 1, .int 0, .int 0, .int 0, .int (-1), .int 0, .int 0])) := by rw [ef469, va_up_ne _ _ n82]; exact h629
    have h631 : f472 ez = some (.inr (1, [.ref nw0, .ref na0, .ref nq0, .ref nr0, .int 1, .int 0, .int 0, .int 0, .int (-1), .int 0, .int 0])) := by rw [ef472, va_up_ne _ _ n78]; exact h630
    have h632 : f475 ez = some (.inr (1, [.ref nw0, .ref na0, .ref nq0, .ref nr0, .int 1, .int 0, .int 0, .int 0, .int (-1), .int 0, .int 0])) := by rw [ef475, va_up_ne _ _ n82]; exact h631
    have h633 : f478 ez = some (.inr (1, [.ref nw0, .ref na0, .ref nq0, .ref nr0, .int 1, .int 0, .int 0, .int 0, .int (-1), .int 0, .int 0])) := by rw [ef478, va_up_ne _ _ n78]; exact h632
    have h634 : f481 ez = some (.inr (1, [.ref nw0, .ref na0, .ref nq0, .ref nr0, .int 1, .int 0, .int 0, .int 0, .int (-1), .int 0, .int 0])) := by rw [ef481, va_up_ne _ _ n82]; exact h633
    have h635 : f484 ez = some (.inr (1, [.ref nw0, .ref na0, .ref nq0, .ref nr0, .int 1, .int 0, .int 0, .int 0, .int (-1), .int 0, .int 0])) := by rw [ef484, va_up_ne _ _ n78]; exact h634
    have h636 : f487 ez = some (.inr (1, [.ref nw0, .ref na0, .ref nq0, .ref nr0, .int 1, .int 0, .int 0, .int 0, .int (-1), .int 0, .int 0])) := by rw [ef487, va_up_ne _ _ n82]; exact h635
    have h637 : f490 ez = some (.inr (1, [.ref nw0, .ref na0, .ref nq0, .ref nr0, .int 1, .int 0, .int 0, .int 0, .int (-1), .int 0, .int 0])) := by rw [ef490, va_up_ne _ _ n78]; exact h636
    have h638 : f493 ez = some (.inr (1, [.ref nw0, .ref na0, .ref nq0, .ref nr0, .int 1, .int 0, .int 0, .int 0, .int (-1), .int 0, .int 0])) := by rw [ef493, va_up_ne _ _ n82]; exact h637
    have h639 : f496 ez = some (.inr (1, [.ref nw0, .ref na0, .ref nq0, .ref nr0, .int 1, .int 0, .int 0, .int 0, .int (-1), .int 0, .int 0])) := by rw [ef496, va_up_ne _ _ n78]; exact h638
    have h640 : f499 ez = some (.inr (1, [.ref nw0, .ref na0, .ref nq0, .ref nr0, .int 1, .int 0, .int 0, .int 0, .int (-1), .int 0, .int 0])) := by rw [ef499, va_up_ne _ _ n82]; exact h639
    have h641 : f502 ez = some (.inr (1, [.ref nw0, .ref na0, .ref nq0, .ref nr0, .int 1, .int 0, .int 0, .int 0, .int (-1), .int 0, .int 0])) := by rw [ef502, va_up_ne _ _ n78]; exact h640
    have h642 : f505 ez = some (.inr (1, [.ref nw0, .ref na0, .ref nq0, .ref nr0, .int 1, .int 0, .int 0, .int 0, .int (-1), .int 0, .int 0])) := by rw [ef505, va_up_ne _ _ n82]; exact h641
    have h643 : f508 ez = some (.inr (1, [.ref nw0, .ref na0, .ref nq0, .ref nr0, .int 1, .int 0, .int 0, .int 0, .int (-1), .int 0, .int 0])) := by rw [ef508, va_up_ne _ _ n78]; exact h642
    have h644 : f511 ez = some (.inr (1, [.ref nw0, .ref na0, .ref nq0, .ref nr0, .int 1, .int 0, .int 0, .int 0, .int (-1), .int 0, .int 0])) := by rw [ef511, va_up_ne _ _ n82]; exact h643
    have h645 : f514 ez = some (.inr (1, [.ref nw0, .ref na0, .ref nq0, .ref nr0, .int 1, .int 0, .int 0, .int 0, .int (-1), .int 0, .int 0])) := by rw [ef514, va_up_ne _ _ n78]; exact h644
    have h646 : f517 ez = some (.inr (1, [.ref nw0, .ref na0, .ref nq0, .ref nr0, .int 1, .int 0, .int 0, .int 0, .int (-1), .int 0, .int 0])) := by rw [ef517, va_up_ne _ _ n82]; exact h645
    have h647 : f520 ez = some (.inr (1, [.ref nw0, .ref na0, .ref nq0, .ref nr0, .int 1, .int 0, .int 0, .int 0, .int (-1), .int 0, .int 0])) := by rw [ef520, va_up_ne _ _ n78]; exact h646
    have h648 : f523 ez = some (.inr (1, [.ref nw0, .ref na0, .ref nq0, .ref nr0, .int 1, .int 0, .int 0, .int 0, .int (-1), .int 0, .int 0])) := by rw [ef523, va_up_ne _ _ n82]; exact h647
    have h649 : f526 ez = some (.inr (1, [.ref nw0, .ref na0, .ref nq0, .ref nr0, .int 1, .int 0, .int 0, .int 0, .int (-1), .int 0, .int 0])) := by rw [ef526, va_up_ne _ _ n78]; exact h648
    have h650 : f529 ez = some (.inr (1, [.ref nw0, .ref na0, .ref nq0, .ref nr0, .int 1, .int 0, .int 0, .int 0, .int (-1), .int 0, .int 0])) := by rw [ef529, va_up_ne _ _ n82]; exact h649
    have h651 : f563 ez = some (.inr (1, [.ref nw0, .ref na0, .ref nq0, .ref nr0, .int 1, .int 0, .int 0, .int 0, .int (-1), .int 0, .int 0])) := by rw [e564, va_up_ne _ _ n84]; exact h650
    have h652 : f596 ez = some (.inr (1, [.ref nw0, .ref na0, .ref nq0, .ref nr0, .int 1, .int 0, .int 0, .int 0, .int (-1), .int 0, .int 0])) := by rw [e597, va_up_ne _ _ n92]; exact h651
    have h653 : f53 nq0 = some (.inl (cI G, 6, .inl (fun j => if j < 6 then (-1) else (fun _ => 0) j))) := by rw [ef53, va_up_ne _ _ (hnew h186 w52)]; exact h186
    have h654 : f459 nq0 = some (.inl (cI G, 6, .inl (fun j => if j < 6 then (-1) else (fun _ => 0) j))) := by rw [ef459, va_up_ne _ _ n173]; exact h653
    have h655 : f463 nq0 = some (.inl (cI G, 6, .inl (fun j => if j < 6 then (-1) else (fun _ => 0) j))) := by rw [ef463, va_up_ne _ _ n177]; exact h654
    have h656 : f466 nq0 = some (.inl (cI G, 6, .inl (fun j => if j < 6 then (-1) else (fun _ => 0) j))) := by rw [ef466, va_up_ne _ _ n173]; exact h655
    have h657 : f469 nq0 = some (.inl (cI G, 6, .inl (fun j => if j < 6 then (-1) else (fun _ => 0) j))) := by rw [ef469, va_up_ne _ _ n177]; exact h656
    have h658 : f472 nq0 = some (.inl (cI G, 6, .inl (fun j => if j < 6 then (-1) else (fun _ => 0) j))) := by rw [ef472, va_up_ne _ _ n173]; exact h657
    have h659 : f475 nq0 = some (.inl (cI G, 6, .inl (fun j => if j < 6 then (-1) else (fun _ => 0) j))) := by rw [ef475, va_up_ne _ _ n177]; exact h658
    have h660 : f478 nq0 = some (.inl (cI G, 6, .inl (fun j => if j < 6 then (-1) else (fun _ => 0) j))) := by rw [ef478, va_up_ne _ _ n173]; exact h659
    have h661 : f481 nq0 = some (.inl (cI G, 6, .inl (fun j => if j < 6 then (-1) else (fun _ => 0) j))) := by rw [ef481, va_up_ne _ _ n177]; exact h660
    have h662 : f484 nq0 = some (.inl (cI G, 6, .inl (fun j => if j < 6 then (-1) else (fun _ => 0) j))) := by rw [ef484, va_up_ne _ _ n173]; exact h661
    have h663 : f487 nq0 = some (.inl (cI G, 6, .inl (fun j => if j < 6 then (-1) else (fun _ => 0) j))) := by rw [ef487, va_up_ne _ _ n177]; exact h662
    have h664 : f490 nq0 = some (.inl (cI G, 6, .inl (fun j => if j < 6 then (-1) else (fun _ => 0) j))) := by rw [ef490, va_up_ne _ _ n173]; exact h663
    have h665 : f493 nq0 = some (.inl (cI G, 6, .inl (fun j => if j < 6 then (-1) else (fun _ => 0) j))) := by rw [ef493, va_up_ne _ _ n177]; exact h664
    have h666 : f496 nq0 = some (.inl (cI G, 6, .inl (fun j => if j < 6 then (-1) else (fun _ => 0) j))) := by rw [ef496, va_up_ne _ _ n173]; exact h665
    have h667 : f499 nq0 = some (.inl (cI G, 6, .inl (fun j => if j < 6 then (-1) else (fun _ => 0) j))) := by rw [ef499, va_up_ne _ _ n177]; exact h666
    have h668 : f502 nq0 = some (.inl (cI G, 6, .inl (fun j => if j < 6 then (-1) else (fun _ => 0) j))) := by rw [ef502, va_up_ne _ _ n173]; exact h667
    have h669 : f505 nq0 = some (.inl (cI G, 6, .inl (fun j => if j < 6 then (-1) else (fun _ => 0) j))) := by rw [ef505, va_up_ne _ _ n177]; exact h668
    have h670 : f508 nq0 = some (.inl (cI G, 6, .inl (fun j => if j < 6 then (-1) else (fun _ => 0) j))) := by rw [ef508, va_up_ne _ _ n173]; exact h669
    have h671 : f511 nq0 = some (.inl (cI G, 6, .inl (fun j => if j < 6 then (-1) else (fun _ => 0) j))) := by rw [ef511, va_up_ne _ _ n177]; exact h670
    have h672 : f514 nq0 = some (.inl (cI G, 6, .inl (fun j => if j < 6 then (-1) else (fun _ => 0) j))) := by rw [ef514, va_up_ne _ _ n173]; exact h671
    have h673 : f517 nq0 = some (.inl (cI G, 6, .inl (fun j => if j < 6 then (-1) else (fun _ => 0) j))) := by rw [ef517, va_up_ne _ _ n177]; exact h672
    have h674 : f520 nq0 = some (.inl (cI G, 6, .inl (fun j => if j < 6 then (-1) else (fun _ => 0) j))) := by rw [ef520, va_up_ne _ _ n173]; exact h673
    have h675 : f523 nq0 = some (.inl (cI G, 6, .inl (fun j => if j < 6 then (-1) else (fun _ => 0) j))) := by rw [ef523, va_up_ne _ _ n177]; exact h674
    have h676 : f526 nq0 = some (.inl (cI G, 6, .inl (fun j => if j < 6 then (-1) else (fun _ => 0) j))) := by rw [ef526, va_up_ne _ _ n173]; exact h675
    have h677 : f529 nq0 = some (.inl (cI G, 6, .inl (fun j => if j < 6 then (-1) else (fun _ => 0) j))) := by rw [ef529, va_up_ne _ _ n177]; exact h676
    have h678 : f563 nq0 = some (.inl (cI G, 6, .inl (fun j => if j < 6 then (-1) else (fun _ => 0) j))) := by rw [e564, va_up_ne _ _ n179]; exact h677
    have h679 : f596 nq0 = some (.inl (cI G, 6, .inl (fun j => if j < 6 then (-1) else (fun _ => 0) j))) := by rw [e597, va_up_ne _ _ n187]; exact h678
    have h680 : f53 nr0 = some (.inr (3, [.null, .null, .int 0])) := by rw [ef53, va_up_ne _ _ (hnew h205 w52)]; exact h205
    have h681 : f459 nr0 = some (.inr (3, [.null, .null, .int 0])) := by rw [ef459, va_up_ne _ _ n192]; exact h680
    have h682 : f463 nr0 = some (.inr (3, [.null, .null, .int 0])) := by rw [ef463, va_up_ne _ _ n196]; exact h681
    have h683 : f466 nr0 = some (.inr (3, [.null, .null, .int 0])) := by rw [ef466, va_up_ne _ _ n192]; exact h682
    have h684 : f469 nr0 = some (.inr (3, [.null, .null, .int 0])) := by rw [ef469, va_up_ne _ _ n196]; exact h683
    have h685 : f472 nr0 = some (.inr (3, [.null, .null, .int 0])) := by rw [ef472, va_up_ne _ _ n192]; exact h684
    have h686 : f475 nr0 = some (.inr (3, [.null, .null, .int 0])) := by rw [ef475, va_up_ne _ _ n196]; exact h685
    have h687 : f478 nr0 = some (.inr (3, [.null, .null, .int 0])) := by rw [ef478, va_up_ne _ _ n192]; exact h686
    have h688 : f481 nr0 = some (.inr (3, [.null, .null, .int 0])) := by rw [ef481, va_up_ne _ _ n196]; exact h687
    have h689 : f484 nr0 = some (.inr (3, [.null, .null, .int 0])) := by rw [ef484, va_up_ne _ _ n192]; exact h688
    have h690 : f487 nr0 = some (.inr (3, [.null, .null, .int 0])) := by rw [ef487, va_up_ne _ _ n196]; exact h689
    have h691 : f490 nr0 = some (.inr (3, [.null, .null, .int 0])) := by rw [ef490, va_up_ne _ _ n192]; exact h690
    have h692 : f493 nr0 = some (.inr (3, [.null, .null, .int 0])) := by rw [ef493, va_up_ne _ _ n196]; exact h691
    have h693 : f496 nr0 = some (.inr (3, [.null, .null, .int 0])) := by rw [ef496, va_up_ne _ _ n192]; exact h692
    have h694 : f499 nr0 = some (.inr (3, [.null, .null, .int 0])) := by rw [ef499, va_up_ne _ _ n196]; exact h693
    have h695 : f502 nr0 = some (.inr (3, [.null, .null, .int 0])) := by rw [ef502, va_up_ne _ _ n192]; exact h694
    have h696 : f505 nr0 = some (.inr (3, [.null, .null, .int 0])) := by rw [ef505, va_up_ne _ _ n196]; exact h695
    have h697 : f508 nr0 = some (.inr (3, [.null, .null, .int 0])) := by rw [ef508, va_up_ne _ _ n192]; exact h696
    have h698 : f511 nr0 = some (.inr (3, [.null, .null, .int 0])) := by rw [ef511, va_up_ne _ _ n196]; exact h697
    have h699 : f514 nr0 = some (.inr (3, [.null, .null, .int 0])) := by rw [ef514, va_up_ne _ _ n192]; exact h698
    have h700 : f517 nr0 = some (.inr (3, [.null, .null, .int 0])) := by rw [ef517, va_up_ne _ _ n196]; exact h699
    have h701 : f520 nr0 = some (.inr (3, [.null, .null, .int 0])) := by rw [ef520, va_up_ne _ _ n192]; exact h700
    have h702 : f523 nr0 = some (.inr (3, [.null, .null, .int 0])) := by rw [ef523, va_up_ne _ _ n196]; exact h701
    have h703 : f526 nr0 = some (.inr (3, [.null, .null, .int 0])) := by rw [ef526, va_up_ne _ _ n192]; exact h702
    have h704 : f529 nr0 = some (.inr (3, [.null, .null, .int 0])) := by rw [ef529, va_up_ne _ _ n196]; exact h703
    have h705 : f563 nr0 = some (.inr (3, [.null, .null, .int 0])) := by rw [e564, va_up_ne _ _ n198]; exact h704
    have h706 : f596 nr0 = some (.inr (3, [.null, .null, .int 0])) := by rw [e597, va_up_ne _ _ n206]; exact h705
    have h707 : f53 eo = some (.inr (1, [.ref nw1, .ref na1, .ref nq1, .ref nr1, .int 2, .int 0, .int 0, .int 0, .int (-1), .int 0, .int 0])) := by rw [ef53, va_up_ne _ _ (hnew h110 w52)]; exact h110
    have h708 : f459 eo = some (.inr (1, [.ref nw1, .ref na1, .ref nq1, .ref nr1, .int 2, .int 0, .int 0, .int 0, .int (-1), .int 0, .int 0])) := by rw [ef459, va_up_ne _ _ n97]; exact h707
    have h709 : f463 eo = some (.inr (1, [.ref nw1, .ref na1, .ref nq1, .ref nr1, .int 2, .int 0, .int 0, .int 0, .int (-1), .int 0, .int 0])) := by rw [ef463, va_up_ne _ _ n101]; exact h708
    have h710 : f466 eo = some (.inr (1, [.ref nw1, .ref na1, .ref nq1, .ref nr1, .int 2, .int 0, .int 0, .int 0, .int (-1), .int 0, .int 0])) := by rw [ef466, va_up_ne _ _ n97]; exact h709
    have h711 : f469 eo = some (.inr (1, [.ref nw1, .ref na1, .ref nq1, .ref nr1, .int 2, .int 0, .int 0, .int 0, .int (-1), .int 0, .int 0])) := by rw [ef469, va_up_ne _ _ n101]; exact h710
    have h712 : f472 eo = some (.inr (1, [.ref nw1, .ref na1, .ref nq1, .ref nr1, .int 2, .int 0, .int 0, .int 0, .int (-1), .int 0, .int 0])) := by rw [ef472, va_up_ne _ _ n97]; exact h711
    have h713 : f475 eo = some (.inr (1, [.ref nw1, .ref na1, .ref nq1, .ref nr1, .int 2, .int 0, .int 0, .int 0, .int (-1), .int 0, .int 0])) := by rw [ef475, va_up_ne _ _ n101]; exact h712
    have h714 : f478 eo = some (.inr (1, [.ref nw1, .ref na1, .ref nq1, .ref nr1, .int 2, .int 0, .int 0, .int 0, .int (-1), .int 0, .int 0])) := by rw [ef478, va_up_ne _ _ n97]; exact h713
    have h715 : f481 eo = some (.inr (1, [.ref nw1, .ref na1, .ref nq1, .ref nr1, .int 2, .int 0, .int 0, .int 0, .int (-1), .int 0, .int 0])) := by rw [ef481, va_up_ne _ _ n101]; exact h714
    have h716 : f484 eo = some (.inr (1, [.ref nw1, .ref na1, .ref nq1, .ref nr1, .int 2, .int 0, .int 0, .int 0, .int (-1), .int 0, .int 0])) := by rw [ef484, va_up_ne _ _ n97]; exact h715
    have h717 : f487 eo = some (.inr (1, [.ref nw1, .ref na1, .ref nq1, .ref nr1, .int 2, .int 0, .int 0, .int 0, .int (-1), .int 0, .int 0])) := by rw [ef487, va_up_ne _ _ n101]; exact h716
    have h718 : f490 eo = some (.inr (1, [.ref nw1, .ref na1, .ref nq1, .ref nr1, .int 2, .int 0, .int 0, .int 0, .int (-1), .int 0, .int 0])) := by rw [ef490, va_up_ne _ _ n97]; exact h717
    have h719 : f493 eo = some (.inr (1, [.ref nw1, .ref na1, .ref nq1, .ref nr1, .int 2, .int 0, .int 0, .int 0, .int (-1), .int 0, .int 0])) := by rw [ef493, va_up_ne _ _ n101]; exact h718
    have h720 : f496 eo = some (.inr (1, [.ref nw1, .ref na1, .ref nq1, .ref nr1, .int 2, .int 0, .int 0, .int 0, .int (-1), .int 0, .int 0])) := by rw [ef496, va_up_ne _ _ n97]; exact h719
    have h721 : f499 eo = some (.inr (1, [.ref nw1, .ref na1, .ref nq1, .ref nr1, .int 2, .int 0, .int 0, .int 0, .int (-1), .int 0, .int 0])) := by rw [ef499, va_up_ne _ _ n101]; exact h720
    have h722 : f502 eo = some (.inr (1, [.ref nw1, .ref na1, .ref nq1, .ref nr1, .int 2, .int 0, .int 0, .int 0, .int (-1), .int 0, .int 0])) := by rw [ef502, va_up_ne _ _ n97]; exact h721
    have h723 : f505 eo = some (.inr (1, [.ref nw1, .ref na1, .ref nq1, .ref nr1, .int 2, .int 0, .int 0, .int 0, .int (-1), .int 0, .int 0])) := by rw [ef505, va_up_ne _ _ n101]; exact h722
    have h724 : f508 eo = some (.inr (1, [.ref nw1, .ref na1, .ref nq1, .ref nr1, .int 2, .int 0, .int 0, .int 0, .int (-1), .int 0, .int 0])) := by rw [ef508, va_up_ne _ _ n97]; exact h723
    have h725 : f511 eo = some (.inr (1, [.ref nw1, .ref na1, .ref nq1, .ref nr1, .int 2, .int 0, .int 0, .int 0, .int (-1), .int 0, .int 0])) := by rw [ef511, va_up_ne _ _ n101]; exact h724
    have h726 : f514 eo = some (.inr (1, [.ref nw1, .ref na1, .ref nq1, .ref nr1, .int 2, .int 0, .int 0, .int 0, .int (-1), .int 0, .int 0])) := by rw [ef514, va_up_ne _ _ n97]; exact h725
    have h727 : f517 eo = some (.inr (1, [.ref nw1, .ref na1, .ref nq1, .ref nr1, .int 2, .int 0, .int 0, .int 0, .int (-1), .int 0, .int 0])) := by rw [ef517, va_up_ne _ _ n101]; exact h726
    have h728 : f520 eo = some (.inr (1, [.ref nw1, .ref na1, .ref nq1, .ref nr1, .int 2, .int 0, .int 0, .int 0, .int (-1), .int 0, .int 0])) := by rw [ef520, va_up_ne _ _ n97]; exact h727
    have h729 : f523 eo = some (.inr (1, [.ref nw1, .ref na1, .ref nq1, .ref nr1, .int 2, .int 0, .int 0, .int 0, .int (-1), .int 0, .int 0])) := by rw [ef523, va_up_ne _ _ n101]; exact h728
    have h730 : f526 eo = some (.inr (1, [.ref nw1, .ref na1, .ref nq1, .ref nr1, .int 2, .int 0, .int 0, .int 0, .int (-1), .int 0, .int 0])) := by rw [ef526, va_up_ne _ _ n97]; exact h729
    have h731 : f529 eo = some (.inr (1, [.ref nw1, .ref na1, .ref nq1, .ref nr1, .int 2, .int 0, .int 0, .int 0, .int (-1), .int 0, .int 0])) := by rw [ef529, va_up_ne _ _ n101]; exact h730
    have h732 : f563 eo = some (.inr (1, [.ref nw1, .ref na1, .ref nq1, .ref nr1, .int 2, .int 0, .int 0, .int 0, .int (-1), .int 0, .int 0])) := by rw [e564, va_up_ne _ _ n103]; exact h731
    have h733 : f596 eo = some (.inr (1, [.ref nw1, .ref na1, .ref nq1, .ref nr1, .int 2, .int 0, .int 0, .int 0, .int (-1), .int 0, .int 0])) := by rw [e597, va_up_ne _ _ n111]; exact h732
    have h734 : f53 nq1 = some (.inl (cI G, 6, .inl (fun j => if j < 6 then (-1) else (fun _ => 0) j))) := by rw [ef53, va_up_ne _ _ (hnew h262 w52)]; exact h262
    have h735 : f459 nq1 = some (.inl (cI G, 6, .inl (fun j => if j < 6 then (-1) else (fun _ => 0) j))) := by rw [ef459, va_up_ne _ _ n249]; exact h734
    have h736 : f463 nq1 = some (.inl (cI G, 6, .inl (fun j => if j < 6 then (-1) else (fun _ => 0) j))) := by rw [ef463, va_up_ne _ _ n253]; exact h735
    have h737 : f466 nq1 = some (.inl (cI G, 6, .inl (fun j => if j < 6 then (-1) else (fun _ => 0) j))) := by rw [ef466, va_up_ne _ _ n249]; exact h736
    have h738 : f469 nq1 = some (.inl (cI G, 6, .inl (fun j => if j < 6 then (-1) else (fun _ => 0) j))) := by rw [ef469, va_up_ne _ _ n253]; exact h737
    have h739 : f472 nq1 = some (.inl (cI G, 6, .inl (fun j => if j < 6 then (-1) else (fun _ => 0) j))) := by rw [ef472, va_up_ne _ _ n249]; exact h738
    have h740 : f475 nq1 = some (.inl (cI G, 6, .inl (fun j => if j < 6 then (-1) else (fun _ => 0) j))) := by rw [ef475, va_up_ne _ _ n253]; exact h739
    have h741 : f478 nq1 = some (.inl (cI G, 6, .inl (fun j => if j < 6 then (-1) else (fun _ => 0) j))) := by rw [ef478, va_up_ne _ _ n249]; exact h740
    have h742 : f481 nq1 = some (.inl (cI G, 6, .inl (fun j => if j < 6 then (-1) else (fun _ => 0) j))) := by rw [ef481, va_up_ne _ _ n253]; exact h741
    have h743 : f484 nq1 = some (.inl (cI G, 6, .inl (fun j => if j < 6 then (-1) else (fun _ => 0) j))) := by rw [ef484, va_up_ne _ _ n249]; exact h742
    have h744 : f487 nq1 = some (.inl (cI G, 6, .inl (fun j => if j < 6 then (-1) else (fun _ => 0) j))) := by rw [ef487, va_up_ne _ _ n253]; exact h743
    have h745 : f490 nq1 = some (.inl (cI G, 6, .inl (fun j => if j < 6 then (-1) else (fun _ => 0) j))) := by rw [ef490, va_up_ne _ _ n249]; exact h744
    have h746 : f493 nq1 = some (.inl (cI G, 6, .inl (fun j => if j < 6 then (-1) else (fun _ => 0) j))) := by rw [ef493, va_up_ne _ _ n253]; exact h745
    have h747 : f496 nq1 = some (.inl (cI G, 6, .inl (fun j => if j < 6 then (-1) else (fun _ => 0) j))) := by rw [ef496, va_up_ne _ _ n249]; exact h746
    have h748 : f499 nq1 = some (.inl (cI G, 6, .inl (fun j => if j < 6 then (-1) else (fun _ => 0) j))) := by rw [ef499, va_up_ne _ _ n253]; exact h747
    have h749 : f502 nq1 = some (.inl (cI G, 6, .inl (fun j => if j < 6 then (-1) else (fun _ => 0) j))) := by rw [ef502, va_up_ne _ _ n249]; exact h748
    have h750 : f505 nq1 = some (.inl (cI G, 6, .inl (fun j => if j < 6 then (-1) else (fun _ => 0) j))) := by rw [ef505, va_up_ne _ _ n253]; exact h749
    have h751 : f508 nq1 = some (.inl (cI G, 6, .inl (fun j => if j < 6 then (-1) else (fun _ => 0) j))) := by rw [ef508, va_up_ne _ _ n249]; exact h750
    have h752 : f511 nq1 = some (.inl (cI G, 6, .inl (fun j => if j < 6 then (-1) else (fun _ => 0) j))) := by rw [ef511, va_up_ne _ _ n253]; exact h751
    have h753 : f514 nq1 = some (.inl (cI G, 6, .inl (fun j => if j < 6 then (-1) else (fun _ => 0) j))) := by rw [ef514, va_up_ne _ _ n249]; exact h752
    have h754 : f517 nq1 = some (.inl (cI G, 6, .inl (fun j => if j < 6 then (-1) else (fun _ => 0) j))) := by rw [ef517, va_up_ne _ _ n253]; exact h753
    have h755 : f520 nq1 = some (.inl (cI G, 6, .inl (fun j => if j < 6 then (-1) else (fun _ => 0) j))) := by rw [ef520, va_up_ne _ _ n249]; exact h754
    have h756 : f523 nq1 = some (.inl (cI G, 6, .inl (fun j => if j < 6 then (-1) else (fun _ => 0) j))) := by rw [ef523, va_up_ne _ _ n253]; exact h755
    have h757 : f526 nq1 = some (.inl (cI G, 6, .inl (fun j => if j < 6 then (-1) else (fun _ => 0) j))) := by rw [ef526, va_up_ne _ _ n249]; exact h756
    have h758 : f529 nq1 = some (.inl (cI G, 6, .inl (fun j => if j < 6 then (-1) else (fun _ => 0) j))) := by rw [ef529, va_up_ne _ _ n253]; exact h757
    have h759 : f563 nq1 = some (.inl (cI G, 6, .inl (fun j => if j < 6 then (-1) else (fun _ => 0) j))) := by rw [e564, va_up_ne _ _ n255]; exact h758
    have h760 : f596 nq1 = some (.inl (cI G, 6, .inl (fun j => if j < 6 then (-1) else (fun _ => 0) j))) := by rw [e597, va_up_ne _ _ n263]; exact h759
    have h761 : f53 nr1 = some (.inr (3, [.null, .null, .int 0])) := by rw [ef53, va_up_ne _ _ (hnew h281 w52)]; exact h281
    have h762 : f459 nr1 = some (.inr (3, [.null, .null, .int 0])) := by rw [ef459, va_up_ne _ _ n268]; exact h761
    have h763 : f463 nr1 = some (.inr (3, [.null, .null, .int 0])) := by rw [ef463, va_up_ne _ _ n272]; exact h762
    have h764 : f466 nr1 = some (.inr (3, [.null, .null, .int 0])) := by rw [ef466, va_up_ne _ _ n268]; exact h763
    have h765 : f469 nr1 = some (.inr (3, [.null, .null, .int 0])) := by rw [ef469, va_up_ne _ _ n272]; exact h764
    have h766 : f472 nr1 = some (.inr (3, [.null, .null, .int 0])) := by rw [ef472, va_up_ne _ _ n268]; exact h765
    have h767 : f475 nr1 = some (.inr (3, [.null, .null, .int 0])) := by rw [ef475, va_up_ne _ _ n272]; exact h766
    have h768 : f478 nr1 = some (.inr (3, [.null, .null, .int 0])) := by rw [ef478, va_up_ne _ _ n268]; exact h767
    have h769 : f481 nr1 = some (.inr (3, [.null, .null, .int 0])) := by rw [ef481, va_up_ne _ _ n272]; exact h768
    have h770 : f484 nr1 = some (.inr (3, [.null, .null, .int 0])) := by rw [ef484, va_up_ne _ _ n268]; exact h769
    have h771 : f487 nr1 = some (.inr (3, [.null, .null, .int 0])) := by rw [ef487, va_up_ne _ _ n272]; exact h770
    have h772 : f490 nr1 = some (.inr (3, [.null, .null, .int 0])) := by rw [ef490, va_up_ne _ _ n268]; exact h771
    have h773 : f493 nr1 = some (.inr (3, [.null, .null, .int 0])) := by rw [ef493, va_up_ne _ _ n272]; exact h772
    have h774 : f496 nr1 = some (.inr (3, [.null, .null, .int 0])) := by rw [ef496, va_up_ne _ _ n268]; exact h773
    have h775 : f499 nr1 = some (.inr (3, [.null, .null, .int 0])) := by rw [ef499, va_up_ne _ _ n272]; exact h774
    have h776 : f502 nr1 = some (.inr (3, [.null, .null, .int 0])) := by rw [ef502, va_up_ne _ _ n268]; exact h775
    have h777 : f505 nr1 = some (.inr (3, [.null, .null, .int 0])) := by rw [ef505, va_up_ne _ _ n272]; exact h776
    have h778 : f508 nr1 = some (.inr (3, [.null, .null, .int 0])) := by rw [ef508, va_up_ne _ _ n268]; exact h777
    have h779 : f511 nr1 = some (.inr (3, [.null, .null, .int 0])) := by rw [ef511, va_up_ne _ _ n272]; exact h778
    have h780 : f514 nr1 = some (.inr (3, [.null, .null, .int 0])) := by rw [ef514, va_up_ne _ _ n268]; exact h779
    have h781 : f517 nr1 = some (.inr (3, [.null, .null, .int 0])) := by rw [ef517, va_up_ne _ _ n272]; exact h780
    have h782 : f520 nr1 = some (.inr (3, [.null, .null, .int 0])) := by rw [ef520, va_up_ne _ _ n268]; exact h781
    have h783 : f523 nr1 = some (.inr (3, [.null, .null, .int 0])) := by rw [ef523, va_up_ne _ _ n272]; exact h782
    have h784 : f526 nr1 = some (.inr (3, [.null, .null, .int 0])) := by rw [ef526, va_up_ne _ _ n268]; exact h783
    have h785 : f529 nr1 = some (.inr (3, [.null, .null, .int 0])) := by rw [ef529, va_up_ne _ _ n272]; exact h784
    have h786 : f563 nr1 = some (.inr (3, [.null, .null, .int 0])) := by rw [e564, va_up_ne _ _ n274]; exact h785
    have h787 : f596 nr1 = some (.inr (3, [.null, .null, .int 0])) := by rw [e597, va_up_ne _ _ n282]; exact h786
    have h788 : f53 nw0 = some (.inl (cI G, 6, .inl (fun j => if j < 6 then (-1) else (fun _ => 0) j))) := by rw [ef53, va_up_ne _ _ (hnew h148 w52)]; exact h148
    have h789 : f459 nw0 = some (.inl (cI G, 6, .inl (fun j => if j < 6 then (-1) else (fun _ => 0) j))) := by rw [ef459, va_up_ne _ _ n135]; exact h788
    have h790 : f463 nw0 = some (.inl (cI G, 6, .inl (fun j => if j < 6 then (-1) else (fun _ => 0) j))) := by rw [ef463, va_up_ne _ _ n139]; exact h789
    have h791 : f466 nw0 = some (.inl (cI G, 6, .inl (fun j => if j < 6 then (-1) else (fun _ => 0) j))) := by rw [ef466, va_up_ne _ _ n135]; exact h790
    have h792 : f469 nw0 = some (.inl (cI G, 6, .inl (fun j => if j < 6 then (-1) else (fun _ => 0) j))) := by rw [ef469, va_up_ne _ _ n139]; exact h791
    have h793 : f472 nw0 = some (.inl (cI G, 6, .inl (fun j => if j < 6 then (-1) else (fun _ => 0) j))) := by rw [ef472, va_up_ne _ _ n135]; exact h792
    have h794 : f475 nw0 = some (.inl (cI G, 6, .inl (fun j => if j < 6 then (-1) else (fun _ => 0) j))) := by rw [ef475, va_up_ne _ _ n139]; exact h793
    have h795 : f478 nw0 = some (.inl (cI G, 6, .inl (fun j => if j < 6 then (-1) else (fun _ => 0) j))) := by rw [ef478, va_up_ne _ _ n135]; exact h794
    have h796 : f481 nw0 = some (.inl (cI G, 6, .inl (fun j => if j < 6 then (-1) else (fun _ => 0) j))) := by rw [ef481, va_up_ne _ _ n139]; exact h795
    have h797 : f484 nw0 = some (.inl (cI G, 6, .inl (fun j => if j < 6 then (-1) else (fun _ => 0) j))) := by rw [ef484, va_up_ne _ _ n135]; exact h796
    have h798 : f487 nw0 = some (.inl (cI G, 6, .inl (fun j => if j < 6 then (-1) else (fun _ => 0) j))) := by rw [ef487, va_up_ne _ _ n139]; exact h797
    have h799 : f490 nw0 = some (.inl (cI G, 6, .inl (fun j => if j < 6 then (-1) else (fun _ => 0) j))) := by rw [ef490, va_up_ne _ _ n135]; exact h798
    have h800 : f493 nw0 = some (.inl (cI G, 6, .inl (fun j => if j < 6 then (-1) else (fun _ => 0) j))) := by rw [ef493, va_up_ne _ _ n139]; exact h799
    have h801 : f496 nw0 = some (.inl (cI G, 6, .inl (fun j => if j < 6 then (-1) else (fun _ => 0) j))) := by rw [ef496, va_up_ne _ _ n135]; exact h800
    have h802 : f499 nw0 = some (.inl (cI G, 6, .inl (fun j => if j < 6 then (-1) else (fun _ => 0) j))) := by rw [ef499, va_up_ne _ _ n139]; exact h801
    have h803 : f502 nw0 = some (.inl (cI G, 6, .inl (fun j => if j < 6 then (-1) else (fun _ => 0) j))) := by rw [ef502, va_up_ne _ _ n135]; exact h802
    have h804 : f505 nw0 = some (.inl (cI G, 6, .inl (fun j => if j < 6 then (-1) else (fun _ => 0) j))) := by rw [ef505, va_up_ne _ _ n139]; exact h803
    have h805 : f508 nw0 = some (.inl (cI G, 6, .inl (fun j => if j < 6 then (-1) else (fun _ => 0) j))) := by rw [ef508, va_up_ne _ _ n135]; exact h804
    have h806 : f511 nw0 = some (.inl (cI G, 6, .inl (fun j => if j < 6 then (-1) else (fun _ => 0) j))) := by rw [ef511, va_up_ne _ _ n139]; exact h805
    have h807 : f514 nw0 = some (.inl (cI G, 6, .inl (fun j => if j < 6 then (-1) else (fun _ => 0) j))) := by rw [ef514, va_up_ne _ _ n135]; exact h806
    have h808 : f517 nw0 = some (.inl (cI G, 6, .inl (fun j => if j < 6 then (-1) else (fun _ => 0) j))) := by rw [ef517, va_up_ne _ _ n139]; exact h807
    have h809 : f520 nw0 = some (.inl (cI G, 6, .inl (fun j => if j < 6 then (-1) else (fun _ => 0) j))) := by rw [ef520, va_up_ne _ _ n135]; exact h808
    have h810 : f523 nw0 = some (.inl (cI G, 6, .inl (fun j => if j < 6 then (-1) else (fun _ => 0) j))) := by rw [ef523, va_up_ne _ _ n139]; exact h809
    have h811 : f526 nw0 = some (.inl (cI G, 6, .inl (fun j => if j < 6 then (-1) else (fun _ => 0) j))) := by rw [ef526, va_up_ne _ _ n135]; exact h810
    have h812 : f529 nw0 = some (.inl (cI G, 6, .inl (fun j => if j < 6 then (-1) else (fun _ => 0) j))) := by rw [ef529, va_up_ne _ _ n139]; exact h811
    have h813 : f563 nw0 = some (.inl (cI G, 6, .inl (fun j => if j < 6 then (-1) else (fun _ => 0) j))) := by rw [e564, va_up_ne _ _ n141]; exact h812
    have h814 : f596 nw0 = some (.inl (cI G, 6, .inl (fun j => if j < 6 then (-1) else (fun _ => 0) j))) := by rw [e597, va_up_ne _ _ n149]; exact h813
    have h815 : f53 na0 = some (.inl (cI G, 6, .inl (fun _ => 0))) := by rw [ef53, va_up_ne _ _ (hnew h167 w52)]; exact h167
    have h816 : f459 na0 = some (.inl (cI G, 6, .inl (fun _ => 0))) := by rw [ef459, va_up_ne _ _ n154]; exact h815
    have h817 : f463 na0 = some (.inl (cI G, 6, .inl (fun _ => 0))) := by rw [ef463, va_up_ne _ _ n158]; exact h816
    have h818 : f466 na0 = some (.inl (cI G, 6, .inl (fun _ => 0))) := by rw [ef466, va_up_ne _ _ n154]; exact h817
    have h819 : f469 na0 = some (.inl (cI G, 6, .inl (fun _ => 0))) := by rw [ef469, va_up_ne _ _ n158]; exact h818
    have h820 : f472 na0 = some (.inl (cI G, 6, .inl (fun _ => 0))) := by rw [ef472, va_up_ne _ _ n154]; exact h819
    have h821 : f475 na0 = some (.inl (cI G, 6, .inl (fun _ => 0))) := by rw [ef475, va_up_ne _ _ n158]; exact h820
    have h822 : f478 na0 = some (.inl (cI G, 6, .inl (fun _ => 0))) := by rw [ef478, va_up_ne _ _ n154]; exact h821
    have h823 : f481 na0 = some (.inl (cI G, 6, .inl (fun _ => 0))) := by rw [ef481, va_up_ne _ _ n158]; exact h822
    have h824 : f484 na0 = some (.inl (cI G, 6, .inl (fun _ => 0))) := by rw [ef484, va_up_ne _ _ n154]; exact h823
    have h825 : f487 na0 = some (.inl (cI G, 6, .inl (fun _ => 0))) := by rw [ef487, va_up_ne _ _ n158]; exact h824
    have h826 : f490 na0 = some (.inl (cI G, 6, .inl (fun _ => 0))) := by rw [ef490, va_up_ne _ _ n154]; exact h825
    have h827 : f493 na0 = some (.inl (cI G, 6, .inl (fun _ => 0))) := by rw [ef493, va_up_ne _ _ n158]; exact h826
    have h828 : f496 na0 = some (.inl (cI G, 6, .inl (fun _ => 0))) := by rw [ef496, va_up_ne _ _ n154]; exact h827
    have h829 : f499 na0 = some (.inl (cI G, 6, .inl (fun _ => 0))) := by rw [ef499, va_up_ne _ _ n158]; exact h828
    have h830 : f502 na0 = some (.inl (cI G, 6, .inl (fun _ => 0))) := by rw [ef502, va_up_ne _ _ n154]; exact h829
    have h831 : f505 na0 = some (.inl (cI G, 6, .inl (fun _ => 0))) := by rw [ef505, va_up_ne _ _ n158]; exact h830
    have h832 : f508 na0 = some (.inl (cI G, 6, .inl (fun _ => 0))) := by rw [ef508, va_up_ne _ _ n154]; exact h831
    have h833 : f511 na0 = some (.inl (cI G, 6, .inl (fun _ => 0))) := by rw [ef511, va_up_ne _ _ n158]; exact h832
    have h834 : f514 na0 = some (.inl (cI G, 6, .inl (fun _ => 0))) := by rw [ef514, va_up_ne _ _ n154]; exact h833
    have h835 : f517 na0 = some (.inl (cI G, 6, .inl (fun _ => 0))) := by rw [ef517, va_up_ne _ _ n158]; exact h834
    have h836 : f520 na0 = some (.inl (cI G, 6, .inl (fun _ => 0))) := by rw [ef520, va_up_ne _ _ n154]; exact h835
    have h837 : f523 na0 = some (.inl (cI G, 6, .inl (fun _ => 0))) := by rw [ef523, va_up_ne _ _ n158]; exact h836
    have h838 : f526 na0 = some (.inl (cI G, 6, .inl (fun _ => 0))) := by rw [ef526, va_up_ne _ _ n154]; exact h837
    have h839 : f529 na0 = some (.inl (cI G, 6, .inl (fun _ => 0))) := by rw [ef529, va_up_ne _ _ n158]; exact h838
    have h840 : f563 na0 = some (.inl (cI G, 6, .inl (fun _ => 0))) := by rw [e564, va_up_ne _ _ n160]; exact h839
    have h841 : f596 na0 = some (.inl (cI G, 6, .inl (fun _ => 0))) := by rw [e597, va_up_ne _ _ n168]; exact h840
    have h842 : f53 nw1 = some (.inl (cI G, 6, .inl (fun j => if j < 6 then (-1) else (fun _ => 0) j))) := by rw [ef53, va_up_ne _ _ (hnew h224 w52)]; exact h224
    have h843 : f459 nw1 = some (.inl (cI G, 6, .inl (fun j => if j < 6 then (-1) else (fun _ => 0) j))) := by rw [ef459, va_up_ne _ _ n211]; exact h842
    have h844 : f463 nw1 = some (.inl (cI G, 6, .inl (fun j => if j < 6 then (-1) else (fun _ => 0) j))) := by rw [ef463, va_up_ne _ _ n215]; exact h843
    have h845 : f466 nw1 = some (.inl (cI G, 6, .inl (fun j => if j < 6 then (-1) else (fun _ => 0) j))) := by rw [ef466, va_up_ne _ _ n211]; exact h844
    have h846 : f469 nw1 = some (.inl (cI G, 6, .inl (fun j => if j < 6 then (-1) else (fun _ => 0) j))) := by rw [ef469, va_up_ne _ _ n215]; exact h845
    have h847 : f472 nw1 = some (.inl (cI G, 6, .inl (fun j => if j < 6 then (-1) else (fun _ => 0) j))) := by rw [ef472, va_up_ne _ _ n211]; exact h846
    have h848 : f475 nw1 = some (.inl (cI G, 6, .inl (fun j => if j < 6 then (-1) else (fun _ => 0) j))) := by rw [ef475, va_up_ne _ _ n215]; exact h847
    have h849 : f478 nw1 = some (.inl (cI G, 6, .inl (fun j => if j < 6 then (-1) else (fun _ => 0) j))) := by rw [ef478, va_up_ne _ _ n211]; exact h848
    have h850 : f481 nw1 = some (.inl (cI G, 6, .inl (fun j => if j < 6 then (-1) else (fun _ => 0) j))) := by rw [ef481, va_up_ne _ _ n215]; exact h849
    have h851 : f484 nw1 = some (.inl (cI G, 6, .inl (fun j => if j < 6 then (-1) else (fun _ => 0) j))) := by rw [ef484, va_up_ne _ _ n211]; exact h850
    have h852 : f487 nw1 = some (.inl (cI G, 6, .inl (fun j => if j < 6 then (-1) else (fun _ => 0) j))) := by rw [ef487, va_up_ne _ _ n215]; exact h851
    have h853 : f490 nw1 = some (.inl (cI G, 6, .inl (fun j => if j < 6 then (-1) else (fun _ => 0) j))) := by rw [ef490, va_up_ne _ _ n211]; exact h852
    have h854 : f493 nw1 = some (.inl (cI G, 6, .inl (fun j => if j < 6 then (-1) else (fun _ => 0) j))) := by rw [ef493, va_up_ne _ _ n215]; exact h853
    have h855 : f496 nw1 = some (.inl (cI G, 6, .inl (fun j => if j < 6 then (-1) else (fun _ => 0) j))) := by rw [ef496, va_up_ne _ _ n211]; exact h854
    have h856 : f499 nw1 = some (.inl (cI G, 6, .inl (fun j => if j < 6 then (-1) else (fun _ => 0) j))) := by rw [ef499, va_up_ne _ _ n215]; exact h855
    have h857 : f502 nw1 = some (.inl (cI G, 6, .inl (fun j => if j < 6 then (-1) else (fun _ => 0) j))) := by rw [ef502, va_up_ne _ _ n211]; exact h856
    have h858 : f505 nw1 = some (.inl (cI G, 6, .inl (fun j => if j < 6 then (-1) else (fun _ => 0) j))) := by rw [ef505, va_up_ne _ _ n215]; exact h857
    have h859 : f508 nw1 = some (.inl (cI G, 6, .inl (fun j => if j < 6 then (-1) else (fun _ => 0) j))) := by rw [ef508, va_up_ne _ _ n211]; exact h858
    have h860 : f511 nw1 = some (.inl (cI G, 6, .inl (fun j => if j < 6 then (-1) else (fun _ => 0) j))) := by rw [ef511, va_up_ne _ _ n215]; exact h859
    have h861 : f514 nw1 = some (.inl (cI G, 6, .inl (fun j => if j < 6 then (-1) else (fun _ => 0) j))) := by rw [ef514, va_up_ne _ _ n211]; exact h860
    have h862 : f517 nw1 = some (.inl (cI G, 6, .inl (fun j => if j < 6 then (-1) else (fun _ => 0) j))) := by rw [ef517, va_up_ne _ _ n215]; exact h861
    have h863 : f520 nw1 = some (.inl (cI G, 6, .inl (fun j => if j < 6 then (-1) else (fun _ => 0) j))) := by rw [ef520, va_up_ne _ _ n211]; exact h862
    have h864 : f523 nw1 = some (.inl (cI G, 6, .inl (fun j => if j < 6 then (-1) else (fun _ => 0) j))) := by rw [ef523, va_up_ne _ _ n215]; exact h863
    have h865 : f526 nw1 = some (.inl (cI G, 6, .inl (fun j => if j < 6 then (-1) else (fun _ => 0) j))) := by rw [ef526, va_up_ne _ _ n211]; exact h864
    have h866 : f529 nw1 = some (.inl (cI G, 6, .inl (fun j => if j < 6 then (-1) else (fun _ => 0) j))) := by rw [ef529, va_up_ne _ _ n215]; exact h865
    have h867 : f563 nw1 = some (.inl (cI G, 6, .inl (fun j => if j < 6 then (-1) else (fun _ => 0) j))) := by rw [e564, va_up_ne _ _ n217]; exact h866
    have h868 : f596 nw1 = some (.inl (cI G, 6, .inl (fun j => if j < 6 then (-1) else (fun _ => 0) j))) := by rw [e597, va_up_ne _ _ n225]; exact h867
    have h869 : f53 na1 = some (.inl (cI G, 6, .inl (fun _ => 0))) := by rw [ef53, va_up_ne _ _ (hnew h243 w52)]; exact h243
    have h870 : f459 na1 = some (.inl (cI G, 6, .inl (fun _ => 0))) := by rw [ef459, va_up_ne _ _ n230]; exact h869
    have h871 : f463 na1 = some (.inl (cI G, 6, .inl (fun _ => 0))) := by rw [ef463, va_up_ne _ _ n234]; exact h870
    have h872 : f466 na1 = some (.inl (cI G, 6, .inl (fun _ => 0))) := by rw [ef466, va_up_ne _ _ n230]; exact h871
    have h873 : f469 na1 = some (.inl (cI G, 6, .inl (fun _ => 0))) := by rw [ef469, va_up_ne _ _ n234]; exact h872
    have h874 : f472 na1 = some (.inl (cI G, 6, .inl (fun _ => 0))) := by rw [ef472, va_up_ne _ _ n230]; exact h873
    have h875 : f475 na1 = some (.inl (cI G, 6, .inl (fun _ => 0))) := by rw [ef475, va_up_ne _ _ n234]; exact h874
    have h876 : f478 na1 = some (.inl (cI G, 6, .inl (fun _ => 0))) := by rw [ef478, va_up_ne _ _ n230]; exact h875
    have h877 : f481 na1 = some (.inl (cI G, 6, .inl (fun _ => 0))) := by rw [ef481, va_up_ne _ _ n234]; exact h876
    have h878 : f484 na1 = some (.inl (cI G, 6, .inl (fun _ => 0))) := by rw [ef484, va_up_ne _ _ n230]; exact h877
    have h879 : f487 na1 = some (.inl (cI G, 6, .inl (fun _ => 0))) := by rw [ef487, va_up_ne _ _ n234]; exact h878
    have h880 : f490 na1 = some (.inl (cI G, 6, .inl (fun _ => 0))) := by rw [ef490, va_up_ne _ _ n230]; exact h879
    have h881 : f493 na1 = some (.inl (cI G, 6, .inl (fun _ => 0))) := by rw [ef493, va_up_ne _ _ n234]; exact h880
    have h882 : f496 na1 = some (.inl (cI G, 6, .inl (fun _ => 0))) := by rw [ef496, va_up_ne _ _ n230]; exact h881
    have h883 : f499 na1 = some (.inl (cI G, 6, .inl (fun _ => 0))) := by rw [ef499, va_up_ne _ _ n234]; exact h882
    have h884 : f502 na1 = some (.inl (cI G, 6, .inl (fun _ => 0))) := by rw [ef502, va_up_ne _ _ n230]; exact h883
    have h885 : f505 na1 = some (.inl (cI G, 6, .inl (fun _ => 0))) := by rw [ef505, va_up_ne _ _ n234]; exact h884
    have h886 : f508 na1 = some (.inl (cI G, 6, .inl (fun _ => 0))) := by rw [ef508, va_up_ne _ _ n230]; exact h885
    have h887 : f511 na1 = some (.inl (cI G, 6, .inl (fun _ => 0))) := by rw [ef511, va_up_ne _ _ n234]; exact h886
    have h888 : f514 na1 = some (.inl (cI G, 6, .inl (fun _ => 0))) := by rw [ef514, va_up_ne _ _ n230]; exact h887
    have h889 : f517 na1 = some (.inl (cI G, 6, .inl (fun _ => 0))) := by rw [ef517, va_up_ne _ _ n234]; exact h888
    have h890 : f520 na1 = some (.inl (cI G, 6, .inl (fun _ => 0))) := by rw [ef520, va_up_ne _ _ n230]; exact h889
    have h891 : f523 na1 = some (.inl (cI G, 6, .inl (fun _ => 0))) := by rw [ef523, va_up_ne _ _ n234]; exact h890
    have h892 : f526 na1 = some (.inl (cI G, 6, .inl (fun _ => 0))) := by rw [ef526, va_up_ne _ _ n230]; exact h891
    have h893 : f529 na1 = some (.inl (cI G, 6, .inl (fun _ => 0))) := by rw [ef529, va_up_ne _ _ n234]; exact h892
    have h894 : f563 na1 = some (.inl (cI G, 6, .inl (fun _ => 0))) := by rw [e564, va_up_ne _ _ n236]; exact h893
    have h895 : f596 na1 = some (.inl (cI G, 6, .inl (fun _ => 0))) := by rw [e597, va_up_ne _ _ n244]; exact h894
    have h896 : f53 bu = some (.inr (0, [.ref bs, .ref bp, .ref bh, .ref bf, .ref bl, .ref bg, .int 0, .int 0, .int 0])) := by rw [ef53, va_up_ne _ _ (hnew h129 w52)]; exact h129
    have h897 : f459 bu = some (.inr (0, [.ref bs, .ref bp, .ref bh, .ref bf, .ref bl, .ref bg, .int 0, .int 0, .int 0])) := by rw [ef459, va_up_ne _ _ n116]; exact h896
    have h898 : f463 bu = some (.inr (0, [.ref bs, .ref bp, .ref bh, .ref bf, .ref bl, .ref bg, .int 0, .int 0, .int 0])) := by rw [ef463, va_up_ne _ _ n120]; exact h897
    have h899 : f466 bu = some (.inr (0, [.ref bs, .ref bp, .ref bh, .ref bf, .ref bl, .ref bg, .int 0, .int 0, .int 0])) := by rw [ef466, va_up_ne _ _ n116]; exact h898
    have h900 : f469 bu = some (.inr (0, [.ref bs, .ref bp, .ref bh, .ref bf, .ref bl, .ref bg, .int 0, .int 0, .int 0])) := by rw [ef469, va_up_ne _ _ n120]; exact h899
    have h901 : f472 bu = some (.inr (0, [.ref bs, .ref bp, .ref bh, .ref bf, .ref bl, .ref bg, .int 0, .int 0, .int 0])) := by rw [ef472, va_up_ne _ _ n116]; exact h900
    have h902 : f475 bu = some (.inr (0, [.ref bs, .ref bp, .ref bh, .ref bf, .ref bl, .ref bg, .int 0, .int 0, .int 0])) := by rw [ef475, va_up_ne _ _ n120]; exact h901
    have h903 : f478 bu = some (.inr (0, [.ref bs, .ref bp, .ref bh, .ref bf, .ref bl, .ref bg, .int 0, .int 0, .int 0])) := by rw [ef478, va_up_ne _ _ n116]; exact h902
    have h904 : f481 bu = some (.inr (0, [.ref bs, .ref bp, .ref bh, .ref bf, .ref bl, .ref bg, .int 0, .int 0, .int 0])) := by rw [ef481, va_up_ne _ _ n120]; exact h903
    have h905 : f484 bu = some (.inr (0, [.ref bs, .ref bp, .ref bh, .ref bf, .ref bl, .ref bg, .int 0, .int 0, .int 0])) := by rw [ef484, va_up_ne _ _ n116]; exact h904
    have h906 : f487 bu = some (.inr (0, [.ref bs, .ref bp, .ref bh, .ref bf, .ref bl, .ref bg, .int 0, .int 0, .int 0])) := by rw [ef487, va_up_ne _ _ n120]; exact h905
    have h907 : f490 bu = some (.inr (0, [.ref bs, .ref bp, .ref bh, .ref bf, .ref bl, .ref bg, .int 0, .int 0, .int 0])) := by rw [ef490, va_up_ne _ _ n116]; exact h906
    have h908 : f493 bu = some (.inr (0, [.ref bs, .ref bp, .ref bh, .ref bf, .ref bl, .ref bg, .int 0, .int 0, .int 0])) := by rw [ef493, va_up_ne _ _ n120]; exact h907
    have h909 : f496 bu = some (.inr (0, [.ref bs, .ref bp, .ref bh, .ref bf, .ref bl, .ref bg, .int 0, .int 0, .int 0])) := by rw [ef496, va_up_ne _ _ n116]; exact h908
    have h910 : f499 bu = some (.inr (0, [.ref bs, .ref bp, .ref bh, .ref bf, .ref bl, .ref bg, .int 0, .int 0, .int 0])) := by rw [ef499, va_up_ne _ _ n120]; exact h909
    have h911 : f502 bu = some (.inr (0, [.ref bs, .ref bp, .ref bh, .ref bf, .ref bl, .ref bg, .int 0, .int 0, .int 0])) := by rw [ef502, va_up_ne _ _ n116]; exact h910
    have h912 : f505 bu = some (.inr (0, [.ref bs, .ref bp, .ref bh, .ref bf, .ref bl, .ref bg, .int 0, .int 0, .int 0])) := by rw [ef505, va_up_ne _ _ n120]; exact h911
    have h913 : f508 bu = some (.inr (0, [.ref bs, .ref bp, .ref bh, .ref bf, .ref bl, .ref bg, .int 0, .int 0, .int 0])) := by rw [ef508, va_up_ne _ _ n116]; exact h912
    have h914 : f511 bu = some (.inr (0, [.ref bs, .ref bp, .ref bh, .ref bf, .ref bl, .ref bg, .int 0, .int 0, .int 0])) := by rw [ef511, va_up_ne _ _ n120]; exact h913
    have h915 : f514 bu = some (.inr (0, [.ref bs, .ref bp, .ref bh, .ref bf, .ref bl, .ref bg, .int 0, .int 0, .int 0])) := by rw [ef514, va_up_ne _ _ n116]; exact h914
    have h916 : f517 bu = some (.inr (0, [.ref bs, .ref bp, .ref bh, .ref bf, .ref bl, .ref bg, .int 0, .int 0, .int 0])) := by rw [ef517, va_up_ne _ _ n120]; exact h915
    have h917 : f520 bu = some (.inr (0, [.ref bs, .ref bp, .ref bh, .ref bf, .ref bl, .ref bg, .int 0, .int 0, .int 0])) := by rw [ef520, va_up_ne _ _ n116]; exact h916
    have h918 : f523 bu = some (.inr (0, [.ref bs, .ref bp, .ref bh, .ref bf, .ref bl, .ref bg, .int 0, .int 0, .int 0])) := by rw [ef523, va_up_ne _ _ n120]; exact h917
    have h919 : f526 bu = some (.inr (0, [.ref bs, .ref bp, .ref bh, .ref bf, .ref bl, .ref bg, .int 0, .int 0, .int 0])) := by rw [ef526, va_up_ne _ _ n116]; exact h918
    have h920 : f529 bu = some (.inr (0, [.ref bs, .ref bp, .ref bh, .ref bf, .ref bl, .ref bg, .int 0, .int 0, .int 0])) := by rw [ef529, va_up_ne _ _ n120]; exact h919
    have h921 : f563 bu = some (.inr (0, [.ref bs, .ref bp, .ref bh, .ref bf, .ref bl, .ref bg, .int 0, .int 0, .int 0])) := by rw [e564, va_up_ne _ _ n122]; exact h920
    have h922 : f596 bu = some (.inr (0, [.ref bs, .ref bp, .ref bh, .ref bf, .ref bl, .ref bg, .int 0, .int 0, .int 0])) := by rw [e597, va_up_ne _ _ n130]; exact h921
    have h923 : f53 bs = some (.inl (cI G, 61, .inl (fun _ => 0))) := by rw [ef53, va_up_ne _ _ (hnew h300 w52)]; exact h300
    have h924 : f459 bs = some (.inl (cI G, 61, .inl (fun _ => 0))) := by rw [ef459, va_up_ne _ _ n287]; exact h923
    have h925 : f463 bs = some (.inl (cI G, 61, .inl (fun _ => 0))) := by rw [ef463, va_up_ne _ _ n291]; exact h924
    have h926 : f466 bs = some (.inl (cI G, 61, .inl (fun _ => 0))) := by rw [ef466, va_up_ne _ _ n287]; exact h925
    have h927 : f469 bs = some (.inl (cI G, 61, .inl (fun _ => 0))) := by rw [ef469, va_up_ne _ _ n291]; exact h926
    have h928 : f472 bs = some (.inl (cI G, 61, .inl (fun _ => 0))) := by rw [ef472, va_up_ne _ _ n287]; exact h927
    have h929 : f475 bs = some (.inl (cI G, 61, .inl (fun _ => 0))) := by rw [ef475, va_up_ne _ _ n291]; exact h928
    have h930 : f478 bs = some (.inl (cI G, 61, .inl (fun _ => 0))) := by rw [ef478, va_up_ne _ _ n287]; exact h929
    have h931 : f481 bs = some (.inl (cI G, 61, .inl (fun _ => 0))) := by rw [ef481, va_up_ne _ _ n291]; exact h930
    have h932 : f484 bs = some (.inl (cI G, 61, .inl (fun _ => 0))) := by rw [ef484, va_up_ne _ _ n287]; exact h931
    have h933 : f487 bs = some (.inl (cI G, 61, .inl (fun _ => 0))) := by rw [ef487, va_up_ne _ _ n291]; exact h932
    have h934 : f490 bs = some (.inl (cI G, 61, .inl (fun _ => 0))) := by rw [ef490, va_up_ne _ _ n287]; exact h933
    have h935 : f493 bs = some (.inl (cI G, 61, .inl (fun _ => 0))) := by rw [ef493, va_up_ne _ _ n291]; exact h934
    have h936 : f496 bs = some (.inl (cI G, 61, .inl (fun _ => 0))) := by rw [ef496, va_up_ne _ _ n287]; exact h935
    have h937 : f499 bs = some (.inl (cI G, 61, .inl (fun _ => 0))) := by rw [ef499, va_up_ne _ _ n291]; exact h936
    have h938 : f502 bs = some (.inl (cI G, 61, .inl (fun _ => 0))) := by rw [ef502, va_up_ne _ _ n287]; exact h937
    have h939 : f505 bs = some (.inl (cI G, 61, .inl (fun _ => 0))) := by rw [ef505, va_up_ne _ _ n291]; exact h938
    have h940 : f508 bs = some (.inl (cI G, 61, .inl (fun _ => 0))) := by rw [ef508, va_up_ne _ _ n287]; exact h939
    have h941 : f511 bs = some (.inl (cI G, 61, .inl (fun _ => 0))) := by rw [ef511, va_up_ne _ _ n291]; exact h940
    have h942 : f514 bs = some (.inl (cI G, 61, .inl (fun _ => 0))) := by rw [ef514, va_up_ne _ _ n287]; exact h941
    have h943 : f517 bs = some (.inl (cI G, 61, .inl (fun _ => 0))) := by rw [ef517, va_up_ne _ _ n291]; exact h942
    have h944 : f520 bs = some (.inl (cI G, 61, .inl (fun _ => 0))) := by rw [ef520, va_up_ne _ _ n287]; exact h943
    have h945 : f523 bs = some (.inl (cI G, 61, .inl (fun _ => 0))) := by rw [ef523, va_up_ne _ _ n291]; exact h944
    have h946 : f526 bs = some (.inl (cI G, 61, .inl (fun _ => 0))) := by rw [ef526, va_up_ne _ _ n287]; exact h945
    have h947 : f529 bs = some (.inl (cI G, 61, .inl (fun _ => 0))) := by rw [ef529, va_up_ne _ _ n291]; exact h946
    have h948 : f563 bs = some (.inl (cI G, 61, .inl (fun _ => 0))) := by rw [e564, va_up_ne _ _ n293]; exact h947
    have h949 : f596 bs = some (.inl (cI G, 61, .inl (fun _ => 0))) := by rw [e597, va_up_ne _ _ n301]; exact h948
    have h950 : f53 bp = some (.inl (cI G, 240, .inl (fun _ => 0))) := by rw [ef53, va_up_ne _ _ (hnew h319 w52)]; exact h319
    have h951 : f459 bp = some (.inl (cI G, 240, .inl (fun _ => 0))) := by rw [ef459, va_up_ne _ _ n306]; exact h950
    have h952 : f463 bp = some (.inl (cI G, 240, .inl (fun _ => 0))) := by rw [ef463, va_up_ne _ _ n310]; exact h951
    have h953 : f466 bp = some (.inl (cI G, 240, .inl (fun _ => 0))) := by rw [ef466, va_up_ne _ _ n306]; exact h952
    have h954 : f469 bp = some (.inl (cI G, 240, .inl (fun _ => 0))) := by rw [ef469, va_up_ne _ _ n310]; exact h953
    have h955 : f472 bp = some (.inl (cI G, 240, .inl (fun _ => 0))) := by rw [ef472, va_up_ne _ _ n306]; exact h954
    have h956 : f475 bp = some (.inl (cI G, 240, .inl (fun _ => 0))) := by rw [ef475, va_up_ne _ _ n310]; exact h955
    have h957 : f478 bp = some (.inl (cI G, 240, .inl (fun _ => 0))) := by rw [ef478, va_up_ne _ _ n306]; exact h956
    have h958 : f481 bp = some (.inl (cI G, 240, .inl (fun _ => 0))) := by rw [ef481, va_up_ne _ _ n310]; exact h957
    have h959 : f484 bp = some (.inl (cI G, 240, .inl (fun _ => 0))) := by rw [ef484, va_up_ne _ _ n306]; exact h958
    have h960 : f487 bp = some (.inl (cI G, 240, .inl (fun _ => 0))) := by rw [ef487, va_up_ne _ _ n310]; exact h959
    have h961 : f490 bp = some (.inl (cI G, 240, .inl (fun _ => 0))) := by rw [ef490, va_up_ne _ _ n306]; exact h960
    have h962 : f493 bp = some (.inl (cI G, 240, .inl (fun _ => 0))) := by rw [ef493, va_up_ne _ _ n310]; exact h961
    have h963 : f496 bp = some (.inl (cI G, 240, .inl (fun _ => 0))) := by rw [ef496, va_up_ne _ _ n306]; exact h962
    have h964 : f499 bp = some (.inl (cI G, 240, .inl (fun _ => 0))) := by rw [ef499, va_up_ne _ _ n310]; exact h963
    have h965 : f502 bp = some (.inl (cI G, 240, .inl (fun _ => 0))) := by rw [ef502, va_up_ne _ _ n306]; exact h964
    have h966 : f505 bp = some (.inl (cI G, 240, .inl (fun _ => 0))) := by rw [ef505, va_up_ne _ _ n310]; exact h965
    have h967 : f508 bp = some (.inl (cI G, 240, .inl (fun _ => 0))) := by rw [ef508, va_up_ne _ _ n306]; exact h966
    have h968 : f511 bp = some (.inl (cI G, 240, .inl (fun _ => 0))) := by rw [ef511, va_up_ne _ _ n310]; exact h967
    have h969 : f514 bp = some (.inl (cI G, 240, .inl (fun _ => 0))) := by rw [ef514, va_up_ne _ _ n306]; exact h968
    have h970 : f517 bp = some (.inl (cI G, 240, .inl (fun _ => 0))) := by rw [ef517, va_up_ne _ _ n310]; exact h969
    have h971 : f520 bp = some (.inl (cI G, 240, .inl (fun _ => 0))) := by rw [ef520, va_up_ne _ _ n306]; exact h970
    have h972 : f523 bp = some (.inl (cI G, 240, .inl (fun _ => 0))) := by rw [ef523, va_up_ne _ _ n310]; exact h971
    have h973 : f526 bp = some (.inl (cI G, 240, .inl (fun _ => 0))) := by rw [ef526, va_up_ne _ _ n306]; exact h972
    have h974 : f529 bp = some (.inl (cI G, 240, .inl (fun _ => 0))) := by rw [ef529, va_up_ne _ _ n310]; exact h973
    have h975 : f563 bp = some (.inl (cI G, 240, .inl (fun _ => 0))) := by rw [e564, va_up_ne _ _ n312]; exact h974
    have h976 : f596 bp = some (.inl (cI G, 240, .inl (fun _ => 0))) := by rw [e597, va_up_ne _ _ n320]; exact h975
    have h977 : f53 bh = some (.inl (cZ G, 240, .inl (fun _ => 0))) := by rw [ef53, va_up_ne _ _ (hnew h338 w52)]; exact h338
    have h978 : f459 bh = some (.inl (cZ G, 240, .inl (fun _ => 0))) := by rw [ef459, va_up_ne _ _ n325]; exact h977
    have h979 : f463 bh = some (.inl (cZ G, 240, .inl (fun _ => 0))) := by rw [ef463, va_up_ne _ _ n329]; exact h978
    have h980 : f466 bh = some (.inl (cZ G, 240, .inl (fun _ => 0))) := by rw [ef466, va_up_ne _ _ n325]; exact h979
    have h981 : f469 bh = some (.inl (cZ G, 240, .inl (fun _ => 0))) := by rw [ef469, va_up_ne _ _ n329]; exact h980
    have h982 : f472 bh = some (.inl (cZ G, 240, .inl (fun _ => 0))) := by rw [ef472, va_up_ne _ _ n325]; exact h981
    have h983 : f475 bh = some (.inl (cZ G, 240, .inl (fun _ => 0))) := by rw [ef475, va_up_ne _ _ n329]; exact h982
    have h984 : f478 bh = some (.inl (cZ G, 240, .inl (fun _ => 0))) := by rw [ef478, va_up_ne _ _ n325]; exact h983
    have h985 : f481 bh = some (.inl (cZ G, 240, .inl (fun _ => 0))) := by rw [ef481, va_up_ne _ _ n329]; exact h984
    have h986 : f484 bh = some (.inl (cZ G, 240, .inl (fun _ => 0))) := by rw [ef484, va_up_ne _ _ n325]; exact h985
    have h987 : f487 bh = some (.inl (cZ G, 240, .inl (fun _ => 0))) := by rw [ef487, va_up_ne _ _ n329]; exact h986
    have h988 : f490 bh = some (.inl (cZ G, 240, .inl (fun _ => 0))) := by rw [ef490, va_up_ne _ _ n325]; exact h987
    have h989 : f493 bh = some (.inl (cZ G, 240, .inl (fun _ => 0))) := by rw [ef493, va_up_ne _ _ n329]; exact h988
    have h990 : f496 bh = some (.inl (cZ G, 240, .inl (fun _ => 0))) := by rw [ef496, va_up_ne _ _ n325]; exact h989
    have h991 : f499 bh = some (.inl (cZ G, 240, .inl (fun _ => 0))) := by rw [ef499, va_up_ne _ _ n329]; exact h990
    have h992 : f502 bh = some (.inl (cZ G, 240, .inl (fun _ => 0))) := by rw [ef502, va_up_ne _ _ n325]; exact h991
    have h993 : f505 bh = some (.inl (cZ G, 240, .inl (fun _ => 0))) := by rw [ef505, va_up_ne _ _ n329]; exact h992
    have h994 : f508 bh = some (.inl (cZ G, 240, .inl (fun _ => 0))) := by rw [ef508, va_up_ne _ _ n325]; exact h993
    have h995 : f511 bh = some (.inl (cZ G, 240, .inl (fun _ => 0))) := by rw [ef511, va_up_ne _ _ n329]; exact h994
    have h996 : f514 bh = some (.inl (cZ G, 240, .inl (fun _ => 0))) := by rw [ef514, va_up_ne _ _ n325]; exact h995
    have h997 : f517 bh = some (.inl (cZ G, 240, .inl (fun _ => 0))) := by rw [ef517, va_up_ne _ _ n329]; exact h996
    have h998 : f520 bh = some (.inl (cZ G, 240, .inl (fun _ => 0))) := by rw [ef520, va_up_ne _ _ n325]; exact h997
    have h999 : f523 bh = some (.inl (cZ G, 240, .inl (fun _ => 0))) := by rw [ef523, va_up_ne _ _ n329]; exact h998
    have h1000 : f526 bh = some (.inl (cZ G, 240, .inl (fun _ => 0))) := by rw [ef526, va_up_ne _ _ n325]; exact h999
    have h1001 : f529 bh = some (.inl (cZ G, 240, .inl (fun _ => 0))) := by rw [ef529, va_up_ne _ _ n329]; exact h1000
    have h1002 : f563 bh = some (.inl (cZ G, 240, .inl (fun _ => 0))) := by rw [e564, va_up_ne _ _ n331]; exact h1001
    have h1003 : f596 bh = some (.inl (cZ G, 240, .inl (fun _ => 0))) := by rw [e597, va_up_ne _ _ n339]; exact h1002
    have h1004 : f53 bf = some (.inl (cI G, 3, .inl (upd (upd (upd (fun _ => 0) (0 : Int32).toNatClampNeg 0) (1 : Int32).toNatClampNeg 1) (2 : Int32).toNatClampNeg 2))) := by rw [ef53, va_up_ne _ _ (hnew h357 w52)]; exact h357
    have h1005 : f459 bf = some (.inl (cI G, 3, .inl (upd (upd (upd (fun _ => 0) (0 : Int32).toNatClampNeg 0) (1 : Int32).toNatClampNeg 1) (2 : Int32).toNatClampNeg 2))) := by rw [ef459, va_up_ne _ _ n344]; exact h1004
    have h1006 : f463 bf = some (.inl (cI G, 3, .inl (upd (upd (upd (fun _ => 0) (0 : Int32).toNatClampNeg 0) (1 : Int32).toNatClampNeg 1) (2 : Int32).toNatClampNeg 2))) := by rw [ef463, va_up_ne _ _ n348]; exact h1005
    have h1007 : f466 bf = some (.inl (cI G, 3, .inl (upd (upd (upd (fun _ => 0) (0 : Int32).toNatClampNeg 0) (1 : Int32).toNatClampNeg 1) (2 : Int32).toNatClampNeg 2))) := by rw [ef466, va_up_ne _ _ n344]; exact h1006
    have h1008 : f469 bf = some (.inl (cI G, 3, .inl (upd (upd (upd (fun _ => 0) (0 : Int32).toNatClampNeg 0) (1 : Int32).toNatClampNeg 1) (2 : Int32).toNatClampNeg 2))) := by rw [ef469, va_up_ne _ _ n348]; exact h1007
    have h1009 : f472 bf = some (.inl (cI G, 3, .inl (upd (upd (upd (fun _ => 0) (0 : Int32).toNatClampNeg 0) (1 : Int32).toNatClampNeg 1) (2 : Int32).toNatClampNeg 2))) := by rw [ef472, va_up_ne _ _ n344]; exact h1008
    have h1010 : f475 bf = some (.inl (cI G, 3, .inl (upd (upd (upd (fun _ => 0) (0 : Int32).toNatClampNeg 0) (1 : Int32).toNatClampNeg 1) (2 : Int32).toNatClampNeg 2))) := by rw [ef475, va_up_ne _ _ n348]; exact h1009
    have h1011 : f478 bf = some (.inl (cI G, 3, .inl (upd (upd (upd (fun _ => 0) (0 : Int32).toNatClampNeg 0) (1 : Int32).toNatClampNeg 1) (2 : Int32).toNatClampNeg 2))) := by rw [ef478, va_up_ne _ _ n344]; exact h1010
    have h1012 : f481 bf = some (.inl (cI G, 3, .inl (upd (upd (upd (fun _ => 0) (0 : Int32).toNatClampNeg 0) (1 : Int32).toNatClampNeg 1) (2 : Int32).toNatClampNeg 2))) := by rw [ef481, va_up_ne _ _ n348]; exact h1011
    have h1013 : f484 bf = some (.inl (cI G, 3, .inl (upd (upd (upd (fun _ => 0) (0 : Int32).toNatClampNeg 0) (1 : Int32).toNatClampNeg 1) (2 : Int32).toNatClampNeg 2))) := by rw [ef484, va_up_ne _ _ n344]; exact h1012
    have h1014 : f487 bf = some (.inl (cI G, 3, .inl (upd (upd (upd (fun _ => 0) (0 : Int32).toNatClampNeg 0) (1 : Int32).toNatClampNeg 1) (2 : Int32).toNatClampNeg 2))) := by rw [ef487, va_up_ne _ _ n348]; exact h1013
    have h1015 : f490 bf = some (.inl (cI G, 3, .inl (upd (upd (upd (fun _ => 0) (0 : Int32).toNatClampNeg 0) (1 : Int32).toNatClampNeg 1) (2 : Int32).toNatClampNeg 2))) := by rw [ef490, va_up_ne _ _ n344]; exact h1014
    have h1016 : f493 bf = some (.inl (cI G, 3, .inl (upd (upd (upd (fun _ => 0) (0 : Int32).toNatClampNeg 0) (1 : Int32).toNatClampNeg 1) (2 : Int32).toNatClampNeg 2))) := by rw [ef493, va_up_ne _ _ n348]; exact h1015
    have h1017 : f496 bf = some (.inl (cI G, 3, .inl (upd (upd (upd (fun _ => 0) (0 : Int32).toNatClampNeg 0) (1 : Int32).toNatClampNeg 1) (2 : Int32).toNatClampNeg 2))) := by rw [ef496, va_up_ne _ _ n344]; exact h1016
    have h1018 : f499 bf = some (.inl (cI G, 3, .inl (upd (upd (upd (fun _ => 0) (0 : Int32).toNatClampNeg 0) (1 : Int32).toNatClampNeg 1) (2 : Int32).toNatClampNeg 2))) := by rw [ef499, va_up_ne _ _ n348]; exact h1017
    have h1019 : f502 bf = some (.inl (cI G, 3, .inl (upd (upd (upd (fun _ => 0) (0 : Int32).toNatClampNeg 0) (1 : Int32).toNatClampNeg 1) (2 : Int32).toNatClampNeg 2))) := by rw [ef502, va_up_ne _ _ n344]; exact h1018
    have h1020 : f505 bf = some (.inl (cI G, 3, .inl (upd (upd (upd (fun _ => 0) (0 : Int32).toNatClampNeg 0) (1 : Int32).toNatClampNeg 1) (2 : Int32).toNatClampNeg 2))) := by rw [ef505, va_up_ne _ _ n348]; exact h1019
    have h1021 : f508 bf = some (.inl (cI G, 3, .inl (upd (upd (upd (fun _ => 0) (0 : Int32).toNatClampNeg 0) (1 : Int32).toNatClampNeg 1) (2 : Int32).toNatClampNeg 2))) := by rw [ef508, va_up_ne _ _ n344]; exact h1020
    have h1022 : f511 bf = some (.inl (cI G, 3, .inl (upd (upd (upd (fun _ => 0) (0 : Int32).toNatClampNeg 0) (1 : Int32).toNatClampNeg 1) (2 : Int32).toNatClampNeg 2))) := by rw [ef511, va_up_ne _ _ n348]; exact h1021
    have h1023 : f514 bf = some (.inl (cI G, 3, .inl (upd (upd (upd (fun _ => 0) (0 : Int32).toNatClampNeg 0) (1 : Int32).toNatClampNeg 1) (2 : Int32).toNatClampNeg 2))) := by rw [ef514, va_up_ne _ _ n344]; exact h1022
    have h1024 : f517 bf = some (.inl (cI G, 3, .inl (upd (upd (upd (fun _ => 0) (0 : Int32).toNatClampNeg 0) (1 : Int32).toNatClampNeg 1) (2 : Int32).toNatClampNeg 2))) := by rw [ef517, va_up_ne _ _ n348]; exact h1023
    have h1025 : f520 bf = some (.inl (cI G, 3, .inl (upd (upd (upd (fun _ => 0) (0 : Int32).toNatClampNeg 0) (1 : Int32).toNatClampNeg 1) (2 : Int32).toNatClampNeg 2))) := by rw [ef520, va_up_ne _ _ n344]; exact h1024
    have h1026 : f523 bf = some (.inl (cI G, 3, .inl (upd (upd (upd (fun _ => 0) (0 : Int32).toNatClampNeg 0) (1 : Int32).toNatClampNeg 1) (2 : Int32).toNatClampNeg 2))) := by rw [ef523, va_up_ne _ _ n348]; exact h1025
    have h1027 : f526 bf = some (.inl (cI G, 3, .inl (upd (upd (upd (fun _ => 0) (0 : Int32).toNatClampNeg 0) (1 : Int32).toNatClampNeg 1) (2 : Int32).toNatClampNeg 2))) := by rw [ef526, va_up_ne _ _ n344]; exact h1026
    have h1028 : f529 bf = some (.inl (cI G, 3, .inl (upd (upd (upd (fun _ => 0) (0 : Int32).toNatClampNeg 0) (1 : Int32).toNatClampNeg 1) (2 : Int32).toNatClampNeg 2))) := by rw [ef529, va_up_ne _ _ n348]; exact h1027
    have h1029 : f563 bf = some (.inl (cI G, 3, .inl (upd (upd (upd (fun _ => 0) (0 : Int32).toNatClampNeg 0) (1 : Int32).toNatClampNeg 1) (2 : Int32).toNatClampNeg 2))) := by rw [e564, va_up_ne _ _ n350]; exact h1028
    have h1030 : f596 bf = some (.inl (cI G, 3, .inl (upd (upd (upd (fun _ => 0) (0 : Int32).toNatClampNeg 0) (1 : Int32).toNatClampNeg 1) (2 : Int32).toNatClampNeg 2))) := by rw [e597, va_up_ne _ _ n358]; exact h1029
    have h1031 : f53 bl = some (.inl (cI G, 3, .inl (fun j => if j < 3 then (-1) else (fun _ => 0) j))) := by rw [ef53, va_up_ne _ _ (hnew h376 w52)]; exact h376
    have h1032 : f459 bl = some (.inl (cI G, 3, .inl (fun j => if j < 3 then (-1) else (fun _ => 0) j))) := by rw [ef459, va_up_ne _ _ n363]; exact h1031
    have h1033 : f463 bl = some (.inl (cI G, 3, .inl (fun j => if j < 3 then (-1) else (fun _ => 0) j))) := by rw [ef463, va_up_ne _ _ n367]; exact h1032
    have h1034 : f466 bl = some (.inl (cI G, 3, .inl (fun j => if j < 3 then (-1) else (fun _ => 0) j))) := by rw [ef466, va_up_ne _ _ n363]; exact h1033
    have h1035 : f469 bl = some (.inl (cI G, 3, .inl (fun j => if j < 3 then (-1) else (fun _ => 0) j))) := by rw [ef469, va_up_ne _ _ n367]; exact h1034
    have h1036 : f472 bl = some (.inl (cI G, 3, .inl (fun j => if j < 3 then (-1) else (fun _ => 0) j))) := by rw [ef472, va_up_ne _ _ n363]; exact h1035
    have h1037 : f475 bl = some (.inl (cI G, 3, .inl (fun j => if j < 3 then (-1) else (fun _ => 0) j))) := by rw [ef475, va_up_ne _ _ n367]; exact h1036
    have h1038 : f478 bl = some (.inl (cI G, 3, .inl (fun j => if j < 3 then (-1) else (fun _ => 0) j))) := by rw [ef478, va_up_ne _ _ n363]; exact h1037
    have h1039 : f481 bl = some (.inl (cI G, 3, .inl (fun j => if j < 3 then (-1) else (fun _ => 0) j))) := by rw [ef481, va_up_ne _ _ n367]; exact h1038
    have h1040 : f484 bl = some (.inl (cI G, 3, .inl (fun j => if j < 3 then (-1) else (fun _ => 0) j))) := by rw [ef484, va_up_ne _ _ n363]; exact h1039
    have h1041 : f487 bl = some (.inl (cI G, 3, .inl (fun j => if j < 3 then (-1) else (fun _ => 0) j))) := by rw [ef487, va_up_ne _ _ n367]; exact h1040
    have h1042 : f490 bl = some (.inl (cI G, 3, .inl (fun j => if j < 3 then (-1) else (fun _ => 0) j))) := by rw [ef490, va_up_ne _ _ n363]; exact h1041
    have h1043 : f493 bl = some (.inl (cI G, 3, .inl (fun j => if j < 3 then (-1) else (fun _ => 0) j))) := by rw [ef493, va_up_ne _ _ n367]; exact h1042
    have h1044 : f496 bl = some (.inl (cI G, 3, .inl (fun j => if j < 3 then (-1) else (fun _ => 0) j))) := by rw [ef496, va_up_ne _ _ n363]; exact h1043
    have h1045 : f499 bl = some (.inl (cI G, 3, .inl (fun j => if j < 3 then (-1) else (fun _ => 0) j))) := by rw [ef499, va_up_ne _ _ n367]; exact h1044
    have h1046 : f502 bl = some (.inl (cI G, 3, .inl (fun j => if j < 3 then (-1) else (fun _ => 0) j))) := by rw [ef502, va_up_ne _ _ n363]; exact h1045
    have h1047 : f505 bl = some (.inl (cI G, 3, .inl (fun j => if j < 3 then (-1) else (fun _ => 0) j))) := by rw [ef505, va_up_ne _ _ n367]; exact h1046
    have h1048 : f508 bl = some (.inl (cI G, 3, .inl (fun j => if j < 3 then (-1) else (fun _ => 0) j))) := by rw [ef508, va_up_ne _ _ n363]; exact h1047
    have h1049 : f511 bl = some (.inl (cI G, 3, .inl (fun j => if j < 3 then (-1) else (fun _ => 0) j))) := by rw [ef511, va_up_ne _ _ n367]; exact h1048
    have h1050 : f514 bl = some (.inl (cI G, 3, .inl (fun j => if j < 3 then (-1) else (fun _ => 0) j))) := by rw [ef514, va_up_ne _ _ n363]; exact h1049
    have h1051 : f517 bl = some (.inl (cI G, 3, .inl (fun j => if j < 3 then (-1) else (fun _ => 0) j))) := by rw [ef517, va_up_ne _ _ n367]; exact h1050
    have h1052 : f520 bl = some (.inl (cI G, 3, .inl (fun j => if j < 3 then (-1) else (fun _ => 0) j))) := by rw [ef520, va_up_ne _ _ n363]; exact h1051
    have h1053 : f523 bl = some (.inl (cI G, 3, .inl (fun j => if j < 3 then (-1) else (fun _ => 0) j))) := by rw [ef523, va_up_ne _ _ n367]; exact h1052
    have h1054 : f526 bl = some (.inl (cI G, 3, .inl (fun j => if j < 3 then (-1) else (fun _ => 0) j))) := by rw [ef526, va_up_ne _ _ n363]; exact h1053
    have h1055 : f529 bl = some (.inl (cI G, 3, .inl (fun j => if j < 3 then (-1) else (fun _ => 0) j))) := by rw [ef529, va_up_ne _ _ n367]; exact h1054
    have h1056 : f563 bl = some (.inl (cI G, 3, .inl (fun j => if j < 3 then (-1) else (fun _ => 0) j))) := by rw [e564, va_up_ne _ _ n369]; exact h1055
    have h1057 : f596 bl = some (.inl (cI G, 3, .inl (fun j => if j < 3 then (-1) else (fun _ => 0) j))) := by rw [e597, va_up_ne _ _ n377]; exact h1056
    have h1058 : f53 bg = some (.inl (cI G, 60, .inl (fun _ => 0))) := by rw [ef53, va_up_ne _ _ (hnew h395 w52)]; exact h395
    have h1059 : f459 bg = some (.inl (cI G, 60, .inl (fun _ => 0))) := by rw [ef459, va_up_ne _ _ n382]; exact h1058
    have h1060 : f463 bg = some (.inl (cI G, 60, .inl (fun _ => 0))) := by rw [ef463, va_up_ne _ _ n386]; exact h1059
    have h1061 : f466 bg = some (.inl (cI G, 60, .inl (fun _ => 0))) := by rw [ef466, va_up_ne _ _ n382]; exact h1060
    have h1062 : f469 bg = some (.inl (cI G, 60, .inl (fun _ => 0))) := by rw [ef469, va_up_ne _ _ n386]; exact h1061
    have h1063 : f472 bg = some (.inl (cI G, 60, .inl (fun _ => 0))) := by rw [ef472, va_up_ne _ _ n382]; exact h1062
    have h1064 : f475 bg = some (.inl (cI G, 60, .inl (fun _ => 0))) := by rw [ef475, va_up_ne _ _ n386]; exact h1063
    have h1065 : f478 bg = some (.inl (cI G, 60, .inl (fun _ => 0))) := by rw [ef478, va_up_ne _ _ n382]; exact h1064
    have h1066 : f481 bg = some (.inl (cI G, 60, .inl (fun _ => 0))) := by rw [ef481, va_up_ne _ _ n386]; exact h1065
    have h1067 : f484 bg = some (.inl (cI G, 60, .inl (fun _ => 0))) := by rw [ef484, va_up_ne _ _ n382]; exact h1066
    have h1068 : f487 bg = some (.inl (cI G, 60, .inl (fun _ => 0))) := by rw [ef487, va_up_ne _ _ n386]; exact h1067
    have h1069 : f490 bg = some (.inl (cI G, 60, .inl (fun _ => 0))) := by rw [ef490, va_up_ne _ _ n382]; exact h1068
    have h1070 : f493 bg = some (.inl (cI G, 60, .inl (fun _ => 0))) := by rw [ef493, va_up_ne _ _ n386]; exact h1069
    have h1071 : f496 bg = some (.inl (cI G, 60, .inl (fun _ => 0))) := by rw [ef496, va_up_ne _ _ n382]; exact h1070
    have h1072 : f499 bg = some (.inl (cI G, 60, .inl (fun _ => 0))) := by rw [ef499, va_up_ne _ _ n386]; exact h1071
    have h1073 : f502 bg = some (.inl (cI G, 60, .inl (fun _ => 0))) := by rw [ef502, va_up_ne _ _ n382]; exact h1072
    have h1074 : f505 bg = some (.inl (cI G, 60, .inl (fun _ => 0))) := by rw [ef505, va_up_ne _ _ n386]; exact h1073
    have h1075 : f508 bg = some (.inl (cI G, 60, .inl (fun _ => 0))) := by rw [ef508, va_up_ne _ _ n382]; exact h1074
    have h1076 : f511 bg = some (.inl (cI G, 60, .inl (fun _ => 0))) := by rw [ef511, va_up_ne _ _ n386]; exact h1075
    have h1077 : f514 bg = some (.inl (cI G, 60, .inl (fun _ => 0))) := by rw [ef514, va_up_ne _ _ n382]; exact h1076
    have h1078 : f517 bg = some (.inl (cI G, 60, .inl (fun _ => 0))) := by rw [ef517, va_up_ne _ _ n386]; exact h1077
    have h1079 : f520 bg = some (.inl (cI G, 60, .inl (fun _ => 0))) := by rw [ef520, va_up_ne _ _ n382]; exact h1078
    have h1080 : f523 bg = some (.inl (cI G, 60, .inl (fun _ => 0))) := by rw [ef523, va_up_ne _ _ n386]; exact h1079
    have h1081 : f526 bg = some (.inl (cI G, 60, .inl (fun _ => 0))) := by rw [ef526, va_up_ne _ _ n382]; exact h1080
    have h1082 : f529 bg = some (.inl (cI G, 60, .inl (fun _ => 0))) := by rw [ef529, va_up_ne _ _ n386]; exact h1081
    have h1083 : f563 bg = some (.inl (cI G, 60, .inl (fun _ => 0))) := by rw [e564, va_up_ne _ _ n388]; exact h1082
    have h1084 : f596 bg = some (.inl (cI G, 60, .inl (fun _ => 0))) := by rw [e597, va_up_ne _ _ n396]; exact h1083
    have hC0 : CXW G f596 xo ez eo bu nw0 na0 nq0 nr0 nw1 na1 nq1 nr1 bs bp bh bf bl bg S00 S01 N6 (fun _ => 0) N6 (fun _ => 0) 0 0 0 0 (fun _ => 0) (fun _ => 0) fl0 (fun _ => 0) (fun _ => 0) (fun j => if j < 3 then (-1) else (fun _ => 0) j) := ⟨[], [], h625, EX_0 (mg := 1) (by decide) h652 h679 h706, EX_0 (mg := 2) (by decide) h733 h760 h787, h814, h841, h868, h895, h922, h949, h976, h1003, (by rw [← F3_fl]; exact h1030), h1057, h1084, BOK_0, fl0_ok, nd_ez_eo, nd_nr0_nr1, nd_nw0_na0, nd_nw0_nq0, nd_nw0_nw1, nd_nw0_na1, nd_nw0_nq1, nd_na0_nq0, nd_na0_nw1, nd_na0_na1, nd_na0_nq1, nd_nq0_nw1, nd_nq0_na1, nd_nq0_nq1, nd_nw1_na1, nd_nw1_nq1, nd_na1_nq1, nd_bh_bp, nd_bf_bl, (fun c9 h9 => (nomatch h9)), (fun c9 h9 => absurd h9 List.not_mem_nil)⟩
    have h1085 : f563 lq = some (.inl (cI G, 12, .inl (mAk 12))) := by rw [e564, va_up_ne _ _ n535]; exact h530
    have h1086 : f596 lq = some (.inl (cI G, 12, .inl (mAk 12))) := by rw [e597, va_up_ne _ _ n446]; exact h1085
    have k_lq : f596 lq = some (.inl (cI G, 12, .inl (j6r N6 N6))) := by rw [← mAk_12]; exact h1086
    have h1087 : f529 lw = some (.inl (cI G, 12, .inl (mAk 12))) := by rw [ef529, va_up_ne _ _ n456]; exact h527
    have h1088 : f563 lw = some (.inl (cI G, 12, .inl (mAk 12))) := by rw [e564, va_up_ne _ _ n533]; exact h1087
    have h1089 : f596 lw = some (.inl (cI G, 12, .inl (mAk 12))) := by rw [e597, va_up_ne _ _ n429]; exact h1088
    have k_lw : f596 lw = some (.inl (cI G, 12, .inl (j6r N6 N6))) := by rw [← mAk_12]; exact h1089
    have h1090 : f53 la = some (.inl (cI G, 12, .inl (fun _ => 0))) := by rw [ef53, va_up_ne _ _ (hnew h437 w52)]; exact h437
    have h1091 : f459 la = some (.inl (cI G, 12, .inl (fun _ => 0))) := by rw [ef459, va_up_ne _ _ (Ne.symm n455)]; exact h1090
    have h1092 : f463 la = some (.inl (cI G, 12, .inl (fun _ => 0))) := by rw [ef463, va_up_ne _ _ n457]; exact h1091
    have h1093 : f466 la = some (.inl (cI G, 12, .inl (fun _ => 0))) := by rw [ef466, va_up_ne _ _ (Ne.symm n455)]; exact h1092
    have h1094 : f469 la = some (.inl (cI G, 12, .inl (fun _ => 0))) := by rw [ef469, va_up_ne _ _ n457]; exact h1093
    have h1095 : f472 la = some (.inl (cI G, 12, .inl (fun _ => 0))) := by rw [ef472, va_up_ne _ _ (Ne.symm n455)]; exact h1094
    have h1096 : f475 la = some (.inl (cI G, 12, .inl (fun _ => 0))) := by rw [ef475, va_up_ne _ _ n457]; exact h1095
    have h1097 : f478 la = some (.inl (cI G, 12, .inl (fun _ => 0))) := by rw [ef478, va_up_ne _ _ (Ne.symm n455)]; exact h1096
    have h1098 : f481 la = some (.inl (cI G, 12, .inl (fun _ => 0))) := by rw [ef481, va_up_ne _ _ n457]; exact h1097
    have h1099 : f484 la = some (.inl (cI G, 12, .inl (fun _ => 0))) := by rw [ef484, va_up_ne _ _ (Ne.symm n455)]; exact h1098
    have h1100 : f487 la = some (.inl (cI G, 12, .inl (fun _ => 0))) := by rw [ef487, va_up_ne _ _ n457]; exact h1099
    have h1101 : f490 la = some (.inl (cI G, 12, .inl (fun _ => 0))) := by rw [ef490, va_up_ne _ _ (Ne.symm n455)]; exact h1100
    have h1102 : f493 la = some (.inl (cI G, 12, .inl (fun _ => 0))) := by rw [ef493, va_up_ne _ _ n457]; exact h1101
    have h1103 : f496 la = some (.inl (cI G, 12, .inl (fun _ => 0))) := by rw [ef496, va_up_ne _ _ (Ne.symm n455)]; exact h1102
    have h1104 : f499 la = some (.inl (cI G, 12, .inl (fun _ => 0))) := by rw [ef499, va_up_ne _ _ n457]; exact h1103
    have h1105 : f502 la = some (.inl (cI G, 12, .inl (fun _ => 0))) := by rw [ef502, va_up_ne _ _ (Ne.symm n455)]; exact h1104
    have h1106 : f505 la = some (.inl (cI G, 12, .inl (fun _ => 0))) := by rw [ef505, va_up_ne _ _ n457]; exact h1105
    have h1107 : f508 la = some (.inl (cI G, 12, .inl (fun _ => 0))) := by rw [ef508, va_up_ne _ _ (Ne.symm n455)]; exact h1106
    have h1108 : f511 la = some (.inl (cI G, 12, .inl (fun _ => 0))) := by rw [ef511, va_up_ne _ _ n457]; exact h1107
    have h1109 : f514 la = some (.inl (cI G, 12, .inl (fun _ => 0))) := by rw [ef514, va_up_ne _ _ (Ne.symm n455)]; exact h1108
    have h1110 : f517 la = some (.inl (cI G, 12, .inl (fun _ => 0))) := by rw [ef517, va_up_ne _ _ n457]; exact h1109
    have h1111 : f520 la = some (.inl (cI G, 12, .inl (fun _ => 0))) := by rw [ef520, va_up_ne _ _ (Ne.symm n455)]; exact h1110
    have h1112 : f523 la = some (.inl (cI G, 12, .inl (fun _ => 0))) := by rw [ef523, va_up_ne _ _ n457]; exact h1111
    have h1113 : f526 la = some (.inl (cI G, 12, .inl (fun _ => 0))) := by rw [ef526, va_up_ne _ _ (Ne.symm n455)]; exact h1112
    have h1114 : f529 la = some (.inl (cI G, 12, .inl (fun _ => 0))) := by rw [ef529, va_up_ne _ _ n457]; exact h1113
    have n1116 : la ≠ le := hnew h430 w40
    have h1115 : f563 la = some (.inl (cI G, 12, .inl (fun _ => 0))) := by rw [e564, va_up_ne _ _ n1116]; exact h1114
    have h1117 : f596 la = some (.inl (cI G, 12, .inl (fun _ => 0))) := by rw [e597, va_up_ne _ _ n438]; exact h1115
    have k_la : f596 la = some (.inl (cI G, 12, .inl (j6r (fun _ => 0) (fun _ => 0)))) := by rw [← j6_zero]; exact h1117
    have h1118 : f596 le = some (.inl (cI G, 16, .inl (upd (upd (upd (fun _ => 0) (1 : Int32).toNatClampNeg (-1)) (9 : Int32).toNatClampNeg (-1)) (14 : Int32).toNatClampNeg 1))) := by rw [e597, va_up_ne _ _ n453]; exact h565
    have k_le : f596 le = some (.inl (cI G, 16, .inl (jE (eSt S00) (eSt S01)))) := by rw [← le_0]; exact h1118
    have k_lg : f596 lg = some (.inl (cI G, 10, .inl (g10r (fun _ => 0) (fun j => if j < 3 then (-1) else (fun _ => 0) j) 0 0 0 0))) := by rw [← lg_0]; exact h598
    have h1119 : f53 lx = some (.inl (cJ G, 64, .inr (.inl (fun _ => 0)))) := by rw [ef53, va_up_ne _ _ (hnew h407 w52)]; exact h407
    have n1121 : lx ≠ lw := hnew h397 w31
    have h1120 : f459 lx = some (.inl (cJ G, 64, .inr (.inl (fun _ => 0)))) := by rw [ef459, va_up_ne _ _ n1121]; exact h1119
    have n1123 : lx ≠ lq := hnew h399 w37
    have h1122 : f463 lx = some (.inl (cJ G, 64, .inr (.inl (fun _ => 0)))) := by rw [ef463, va_up_ne _ _ n1123]; exact h1120
    have h1124 : f466 lx = some (.inl (cJ G, 64, .inr (.inl (fun _ => 0)))) := by rw [ef466, va_up_ne _ _ n1121]; exact h1122
    have h1125 : f469 lx = some (.inl (cJ G, 64, .inr (.inl (fun _ => 0)))) := by rw [ef469, va_up_ne _ _ n1123]; exact h1124
    have h1126 : f472 lx = some (.inl (cJ G, 64, .inr (.inl (fun _ => 0)))) := by rw [ef472, va_up_ne _ _ n1121]; exact h1125
    have h1127 : f475 lx = some (.inl (cJ G, 64, .inr (.inl (fun _ => 0)))) := by rw [ef475, va_up_ne _ _ n1123]; exact h1126
    have h1128 : f478 lx = some (.inl (cJ G, 64, .inr (.inl (fun _ => 0)))) := by rw [ef478, va_up_ne _ _ n1121]; exact h1127
    have h1129 : f481 lx = some (.inl (cJ G, 64, .inr (.inl (fun _ => 0)))) := by rw [ef481, va_up_ne _ _ n1123]; exact h1128
    have h1130 : f484 lx = some (.inl (cJ G, 64, .inr (.inl (fun _ => 0)))) := by rw [ef484, va_up_ne _ _ n1121]; exact h1129
    have h1131 : f487 lx = some (.inl (cJ G, 64, .inr (.inl (fun _ => 0)))) := by rw [ef487, va_up_ne _ _ n1123]; exact h1130
    have h1132 : f490 lx = some (.inl (cJ G, 64, .inr (.inl (fun _ => 0)))) := by rw [ef490, va_up_ne _ _ n1121]; exact h1131
    have h1133 : f493 lx = some (.inl (cJ G, 64, .inr (.inl (fun _ => 0)))) := by rw [ef493, va_up_ne _ _ n1123]; exact h1132
    have h1134 : f496 lx = some (.inl (cJ G, 64, .inr (.inl (fun _ => 0)))) := by rw [ef496, va_up_ne _ _ n1121]; exact h1133
    have h1135 : f499 lx = some (.inl (cJ G, 64, .inr (.inl (fun _ => 0)))) := by rw [ef499, va_up_ne _ _ n1123]; exact h1134
    have h1136 : f502 lx = some (.inl (cJ G, 64, .inr (.inl (fun _ => 0)))) := by rw [ef502, va_up_ne _ _ n1121]; exact h1135
    have h1137 : f505 lx = some (.inl (cJ G, 64, .inr (.inl (fun _ => 0)))) := by rw [ef505, va_up_ne _ _ n1123]; exact h1136
    have h1138 : f508 lx = some (.inl (cJ G, 64, .inr (.inl (fun _ => 0)))) := by rw [ef508, va_up_ne _ _ n1121]; exact h1137
    have h1139 : f511 lx = some (.inl (cJ G, 64, .inr (.inl (fun _ => 0)))) := by rw [ef511, va_up_ne _ _ n1123]; exact h1138
    have h1140 : f514 lx = some (.inl (cJ G, 64, .inr (.inl (fun _ => 0)))) := by rw [ef514, va_up_ne _ _ n1121]; exact h1139
    have h1141 : f517 lx = some (.inl (cJ G, 64, .inr (.inl (fun _ => 0)))) := by rw [ef517, va_up_ne _ _ n1123]; exact h1140
    have h1142 : f520 lx = some (.inl (cJ G, 64, .inr (.inl (fun _ => 0)))) := by rw [ef520, va_up_ne _ _ n1121]; exact h1141
    have h1143 : f523 lx = some (.inl (cJ G, 64, .inr (.inl (fun _ => 0)))) := by rw [ef523, va_up_ne _ _ n1123]; exact h1142
    have h1144 : f526 lx = some (.inl (cJ G, 64, .inr (.inl (fun _ => 0)))) := by rw [ef526, va_up_ne _ _ n1121]; exact h1143
    have h1145 : f529 lx = some (.inl (cJ G, 64, .inr (.inl (fun _ => 0)))) := by rw [ef529, va_up_ne _ _ n1123]; exact h1144
    have n1147 : lx ≠ le := hnew h400 w40
    have h1146 : f563 lx = some (.inl (cJ G, 64, .inr (.inl (fun _ => 0)))) := by rw [e564, va_up_ne _ _ n1147]; exact h1145
    have h1148 : f596 lx = some (.inl (cJ G, 64, .inr (.inl (fun _ => 0)))) := by rw [e597, va_up_ne _ _ n408]; exact h1146
    have h1149 : f53 ly = some (.inl (cJ G, 64, .inr (.inl (fun _ => 0)))) := by rw [ef53, va_up_ne _ _ (hnew h418 w52)]; exact h418
    have n1151 : ly ≠ lw := hnew h30 w31
    have h1150 : f459 ly = some (.inl (cJ G, 64, .inr (.inl (fun _ => 0)))) := by rw [ef459, va_up_ne _ _ n1151]; exact h1149
    have n1153 : ly ≠ lq := hnew h410 w37
    have h1152 : f463 ly = some (.inl (cJ G, 64, .inr (.inl (fun _ => 0)))) := by rw [ef463, va_up_ne _ _ n1153]; exact h1150
    have h1154 : f466 ly = some (.inl (cJ G, 64, .inr (.inl (fun _ => 0)))) := by rw [ef466, va_up_ne _ _ n1151]; exact h1152
    have h1155 : f469 ly = some (.inl (cJ G, 64, .inr (.inl (fun _ => 0)))) := by rw [ef469, va_up_ne _ _ n1153]; exact h1154
    have h1156 : f472 ly = some (.inl (cJ G, 64, .inr (.inl (fun _ => 0)))) := by rw [ef472, va_up_ne _ _ n1151]; exact h1155
    have h1157 : f475 ly = some (.inl (cJ G, 64, .inr (.inl (fun _ => 0)))) := by rw [ef475, va_up_ne _ _ n1153]; exact h1156
    have h1158 : f478 ly = some (.inl (cJ G, 64, .inr (.inl (fun _ => 0)))) := by rw [ef478, va_up_ne _ _ n1151]; exact h1157
    have h1159 : f481 ly = some (.inl (cJ G, 64, .inr (.inl (fun _ => 0)))) := by rw [ef481, va_up_ne _ _ n1153]; exact h1158
    have h1160 : f484 ly = some (.inl (cJ G, 64, .inr (.inl (fun _ => 0)))) := by rw [ef484, va_up_ne _ _ n1151]; exact h1159
    have h1161 : f487 ly = some (.inl (cJ G, 64, .inr (.inl (fun _ => 0)))) := by rw [ef487, va_up_ne _ _ n1153]; exact h1160
    have h1162 : f490 ly = some (.inl (cJ G, 64, .inr (.inl (fun _ => 0)))) := by rw [ef490, va_up_ne _ _ n1151]; exact h1161
    have h1163 : f493 ly = some (.inl (cJ G, 64, .inr (.inl (fun _ => 0)))) := by rw [ef493, va_up_ne _ _ n1153]; exact h1162
    have h1164 : f496 ly = some (.inl (cJ G, 64, .inr (.inl (fun _ => 0)))) := by rw [ef496, va_up_ne _ _ n1151]; exact h1163
    have h1165 : f499 ly = some (.inl (cJ G, 64, .inr (.inl (fun _ => 0)))) := by rw [ef499, va_up_ne _ _ n1153]; exact h1164
    have h1166 : f502 ly = some (.inl (cJ G, 64, .inr (.inl (fun _ => 0)))) := by rw [ef502, va_up_ne _ _ n1151]; exact h1165
    have h1167 : f505 ly = some (.inl (cJ G, 64, .inr (.inl (fun _ => 0)))) := by rw [ef505, va_up_ne _ _ n1153]; exact h1166
    have h1168 : f508 ly = some (.inl (cJ G, 64, .inr (.inl (fun _ => 0)))) := by rw [ef508, va_up_ne _ _ n1151]; exact h1167
    have h1169 : f511 ly = some (.inl (cJ G, 64, .inr (.inl (fun _ => 0)))) := by rw [ef511, va_up_ne _ _ n1153]; exact h1168
    have h1170 : f514 ly = some (.inl (cJ G, 64, .inr (.inl (fun _ => 0)))) := by rw [ef514, va_up_ne _ _ n1151]; exact h1169
    have h1171 : f517 ly = some (.inl (cJ G, 64, .inr (.inl (fun _ => 0)))) := by rw [ef517, va_up_ne _ _ n1153]; exact h1170
    have h1172 : f520 ly = some (.inl (cJ G, 64, .inr (.inl (fun _ => 0)))) := by rw [ef520, va_up_ne _ _ n1151]; exact h1171
    have h1173 : f523 ly = some (.inl (cJ G, 64, .inr (.inl (fun _ => 0)))) := by rw [ef523, va_up_ne _ _ n1153]; exact h1172
    have h1174 : f526 ly = some (.inl (cJ G, 64, .inr (.inl (fun _ => 0)))) := by rw [ef526, va_up_ne _ _ n1151]; exact h1173
    have h1175 : f529 ly = some (.inl (cJ G, 64, .inr (.inl (fun _ => 0)))) := by rw [ef529, va_up_ne _ _ n1153]; exact h1174
    have n1177 : ly ≠ le := hnew h411 w40
    have h1176 : f563 ly = some (.inl (cJ G, 64, .inr (.inl (fun _ => 0)))) := by rw [e564, va_up_ne _ _ n1177]; exact h1175
    have h1178 : f596 ly = some (.inl (cJ G, 64, .inr (.inl (fun _ => 0)))) := by rw [e597, va_up_ne _ _ n419]; exact h1176
    have hLX0 : LX G f596 lx ly lw la lq le S00 S01 N6 (fun _ => 0) N6 (fun _ => 0) := ⟨⟨_, h1148, XS_0⟩, ⟨_, h1178, XS_0⟩, k_lw, k_la, k_lq, k_le⟩
    have h1179 : f47 lb = some (.inl (cI G, 64, .inl (fun _ => 0))) := by rw [ef47, va_up_ne _ _ (hnew h45 w46)]; exact h45
    have h1180 : f50 lb = some (.inl (cI G, 64, .inl (fun _ => 0))) := by rw [ef50, va_up_ne _ _ (hnew h1179 w49)]; exact h1179
    have h1181 : f53 lb = some (.inl (cI G, 64, .inl (fun _ => 0))) := by rw [ef53, va_up_ne _ _ (hnew h1180 w52)]; exact h1180
    have h1182 : f459 lb = some (.inl (cI G, 64, .inl (fun _ => 0))) := by rw [ef459, va_up_ne _ _ (Ne.symm n423)]; exact h1181
    have h1183 : f463 lb = some (.inl (cI G, 64, .inl (fun _ => 0))) := by rw [ef463, va_up_ne _ _ (Ne.symm n440)]; exact h1182
    have h1184 : f466 lb = some (.inl (cI G, 64, .inl (fun _ => 0))) := by rw [ef466, va_up_ne _ _ (Ne.symm n423)]; exact h1183
    have h1185 : f469 lb = some (.inl (cI G, 64, .inl (fun _ => 0))) := by rw [ef469, va_up_ne _ _ (Ne.symm n440)]; exact h1184
    have h1186 : f472 lb = some (.inl (cI G, 64, .inl (fun _ => 0))) := by rw [ef472, va_up_ne _ _ (Ne.symm n423)]; exact h1185
    have h1187 : f475 lb = some (.inl (cI G, 64, .inl (fun _ => 0))) := by rw [ef475, va_up_ne _ _ (Ne.symm n440)]; exact h1186
    have h1188 : f478 lb = some (.inl (cI G, 64, .inl (fun _ => 0))) := by rw [ef478, va_up_ne _ _ (Ne.symm n423)]; exact h1187
    have h1189 : f481 lb = some (.inl (cI G, 64, .inl (fun _ => 0))) := by rw [ef481, va_up_ne _ _ (Ne.symm n440)]; exact h1188
    have h1190 : f484 lb = some (.inl (cI G, 64, .inl (fun _ => 0))) := by rw [ef484, va_up_ne _ _ (Ne.symm n423)]; exact h1189
    have h1191 : f487 lb = some (.inl (cI G, 64, .inl (fun _ => 0))) := by rw [ef487, va_up_ne _ _ (Ne.symm n440)]; exact h1190
    have h1192 : f490 lb = some (.inl (cI G, 64, .inl (fun _ => 0))) := by rw [ef490, va_up_ne _ _ (Ne.symm n423)]; exact h1191
    have h1193 : f493 lb = some (.inl (cI G, 64, .inl (fun _ => 0))) := by rw [ef493, va_up_ne _ _ (Ne.symm n440)]; exact h1192
    have h1194 : f496 lb = some (.inl (cI G, 64, .inl (fun _ => 0))) := by rw [ef496, va_up_ne _ _ (Ne.symm n423)]; exact h1193
    have h1195 : f499 lb = some (.inl (cI G, 64, .inl (fun _ => 0))) := by rw [ef499, va_up_ne _ _ (Ne.symm n440)]; exact h1194
    have h1196 : f502 lb = some (.inl (cI G, 64, .inl (fun _ => 0))) := by rw [ef502, va_up_ne _ _ (Ne.symm n423)]; exact h1195
    have h1197 : f505 lb = some (.inl (cI G, 64, .inl (fun _ => 0))) := by rw [ef505, va_up_ne _ _ (Ne.symm n440)]; exact h1196
    have h1198 : f508 lb = some (.inl (cI G, 64, .inl (fun _ => 0))) := by rw [ef508, va_up_ne _ _ (Ne.symm n423)]; exact h1197
    have h1199 : f511 lb = some (.inl (cI G, 64, .inl (fun _ => 0))) := by rw [ef511, va_up_ne _ _ (Ne.symm n440)]; exact h1198
    have h1200 : f514 lb = some (.inl (cI G, 64, .inl (fun _ => 0))) := by rw [ef514, va_up_ne _ _ (Ne.symm n423)]; exact h1199
    have h1201 : f517 lb = some (.inl (cI G, 64, .inl (fun _ => 0))) := by rw [ef517, va_up_ne _ _ (Ne.symm n440)]; exact h1200
    have h1202 : f520 lb = some (.inl (cI G, 64, .inl (fun _ => 0))) := by rw [ef520, va_up_ne _ _ (Ne.symm n423)]; exact h1201
    have h1203 : f523 lb = some (.inl (cI G, 64, .inl (fun _ => 0))) := by rw [ef523, va_up_ne _ _ (Ne.symm n440)]; exact h1202
    have h1204 : f526 lb = some (.inl (cI G, 64, .inl (fun _ => 0))) := by rw [ef526, va_up_ne _ _ (Ne.symm n423)]; exact h1203
    have h1205 : f529 lb = some (.inl (cI G, 64, .inl (fun _ => 0))) := by rw [ef529, va_up_ne _ _ (Ne.symm n440)]; exact h1204
    have h1206 : f563 lb = some (.inl (cI G, 64, .inl (fun _ => 0))) := by rw [e564, va_up_ne _ _ (Ne.symm n447)]; exact h1205
    have n1208 : lb ≠ lg := hnew h1180 w52
    have h1207 : f596 lb = some (.inl (cI G, 64, .inl (fun _ => 0))) := by rw [e597, va_up_ne _ _ n1208]; exact h1206
    have h1209 : f50 lh = some (.inl (cJ G, 1, .inr (.inl (fun _ => 0)))) := by rw [ef50, va_up_ne _ _ (hnew h48 w49)]; exact h48
    have h1210 : f53 lh = some (.inl (cJ G, 1, .inr (.inl (fun _ => 0)))) := by rw [ef53, va_up_ne _ _ (hnew h1209 w52)]; exact h1209
    have h1211 : f459 lh = some (.inl (cJ G, 1, .inr (.inl (fun _ => 0)))) := by rw [ef459, va_up_ne _ _ (Ne.symm n425)]; exact h1210
    have h1212 : f463 lh = some (.inl (cJ G, 1, .inr (.inl (fun _ => 0)))) := by rw [ef463, va_up_ne _ _ (Ne.symm n442)]; exact h1211
    have h1213 : f466 lh = some (.inl (cJ G, 1, .inr (.inl (fun _ => 0)))) := by rw [ef466, va_up_ne _ _ (Ne.symm n425)]; exact h1212
    have h1214 : f469 lh = some (.inl (cJ G, 1, .inr (.inl (fun _ => 0)))) := by rw [ef469, va_up_ne _ _ (Ne.symm n442)]; exact h1213
    have h1215 : f472 lh = some (.inl (cJ G, 1, .inr (.inl (fun _ => 0)))) := by rw [ef472, va_up_ne _ _ (Ne.symm n425)]; exact h1214
    have h1216 : f475 lh = some (.inl (cJ G, 1, .inr (.inl (fun _ => 0)))) := by rw [ef475, va_up_ne _ _ (Ne.symm n442)]; exact h1215
    have h1217 : f478 lh = some (.inl (cJ G, 1, .inr (.inl (fun _ => 0)))) := by rw [ef478, va_up_ne _ _ (Ne.symm n425)]; exact h1216
    have h1218 : f481 lh = some (.inl (cJ G, 1, .inr (.inl (fun _ => 0)))) := by rw [ef481, va_up_ne _ _ (Ne.symm n442)]; exact h1217
    have h1219 : f484 lh = some (.inl (cJ G, 1, .inr (.inl (fun _ => 0)))) := by rw [ef484, va_up_ne _ _ (Ne.symm n425)]; exact h1218
    have h1220 : f487 lh = some (.inl (cJ G, 1, .inr (.inl (fun _ => 0)))) := by rw [ef487, va_up_ne _ _ (Ne.symm n442)]; exact h1219
    have h1221 : f490 lh = some (.inl (cJ G, 1, .inr (.inl (fun _ => 0)))) := by rw [ef490, va_up_ne _ _ (Ne.symm n425)]; exact h1220
    have h1222 : f493 lh = some (.inl (cJ G, 1, .inr (.inl (fun _ => 0)))) := by rw [ef493, va_up_ne _ _ (Ne.symm n442)]; exact h1221
    have h1223 : f496 lh = some (.inl (cJ G, 1, .inr (.inl (fun _ => 0)))) := by rw [ef496, va_up_ne _ _ (Ne.symm n425)]; exact h1222
    have h1224 : f499 lh = some (.inl (cJ G, 1, .inr (.inl (fun _ => 0)))) := by rw [ef499, va_up_ne _ _ (Ne.symm n442)]; exact h1223
    have h1225 : f502 lh = some (.inl (cJ G, 1, .inr (.inl (fun _ => 0)))) := by rw [ef502, va_up_ne _ _ (Ne.symm n425)]; exact h1224
    have h1226 : f505 lh = some (.inl (cJ G, 1, .inr (.inl (fun _ => 0)))) := by rw [ef505, va_up_ne _ _ (Ne.symm n442)]; exact h1225
    have h1227 : f508 lh = some (.inl (cJ G, 1, .inr (.inl (fun _ => 0)))) := by rw [ef508, va_up_ne _ _ (Ne.symm n425)]; exact h1226
    have h1228 : f511 lh = some (.inl (cJ G, 1, .inr (.inl (fun _ => 0)))) := by rw [ef511, va_up_ne _ _ (Ne.symm n442)]; exact h1227
    have h1229 : f514 lh = some (.inl (cJ G, 1, .inr (.inl (fun _ => 0)))) := by rw [ef514, va_up_ne _ _ (Ne.symm n425)]; exact h1228
    have h1230 : f517 lh = some (.inl (cJ G, 1, .inr (.inl (fun _ => 0)))) := by rw [ef517, va_up_ne _ _ (Ne.symm n442)]; exact h1229
    have h1231 : f520 lh = some (.inl (cJ G, 1, .inr (.inl (fun _ => 0)))) := by rw [ef520, va_up_ne _ _ (Ne.symm n425)]; exact h1230
    have h1232 : f523 lh = some (.inl (cJ G, 1, .inr (.inl (fun _ => 0)))) := by rw [ef523, va_up_ne _ _ (Ne.symm n442)]; exact h1231
    have h1233 : f526 lh = some (.inl (cJ G, 1, .inr (.inl (fun _ => 0)))) := by rw [ef526, va_up_ne _ _ (Ne.symm n425)]; exact h1232
    have h1234 : f529 lh = some (.inl (cJ G, 1, .inr (.inl (fun _ => 0)))) := by rw [ef529, va_up_ne _ _ (Ne.symm n442)]; exact h1233
    have h1235 : f563 lh = some (.inl (cJ G, 1, .inr (.inl (fun _ => 0)))) := by rw [e564, va_up_ne _ _ (Ne.symm n449)]; exact h1234
    have n1237 : lh ≠ lg := hnew h1209 w52
    have h1236 : f596 lh = some (.inl (cJ G, 1, .inr (.inl (fun _ => 0)))) := by rw [e597, va_up_ne _ _ n1237]; exact h1235
    have h1238 : f53 lr = some (.inl (cI G, 60, .inl (fun _ => 0))) := by rw [ef53, va_up_ne _ _ (hnew h51 w52)]; exact h51
    have h1239 : f459 lr = some (.inl (cI G, 60, .inl (fun _ => 0))) := by rw [ef459, va_up_ne _ _ (Ne.symm n427)]; exact h1238
    have h1240 : f463 lr = some (.inl (cI G, 60, .inl (fun _ => 0))) := by rw [ef463, va_up_ne _ _ (Ne.symm n444)]; exact h1239
    have h1241 : f466 lr = some (.inl (cI G, 60, .inl (fun _ => 0))) := by rw [ef466, va_up_ne _ _ (Ne.symm n427)]; exact h1240
    have h1242 : f469 lr = some (.inl (cI G, 60, .inl (fun _ => 0))) := by rw [ef469, va_up_ne _ _ (Ne.symm n444)]; exact h1241
    have h1243 : f472 lr = some (.inl (cI G, 60, .inl (fun _ => 0))) := by rw [ef472, va_up_ne _ _ (Ne.symm n427)]; exact h1242
    have h1244 : f475 lr = some (.inl (cI G, 60, .inl (fun _ => 0))) := by rw [ef475, va_up_ne _ _ (Ne.symm n444)]; exact h1243
    have h1245 : f478 lr = some (.inl (cI G, 60, .inl (fun _ => 0))) := by rw [ef478, va_up_ne _ _ (Ne.symm n427)]; exact h1244
    have h1246 : f481 lr = some (.inl (cI G, 60, .inl (fun _ => 0))) := by rw [ef481, va_up_ne _ _ (Ne.symm n444)]; exact h1245
    have h1247 : f484 lr = some (.inl (cI G, 60, .inl (fun _ => 0))) := by rw [ef484, va_up_ne _ _ (Ne.symm n427)]; exact h1246
    have h1248 : f487 lr = some (.inl (cI G, 60, .inl (fun _ => 0))) := by rw [ef487, va_up_ne _ _ (Ne.symm n444)]; exact h1247
    have h1249 : f490 lr = some (.inl (cI G, 60, .inl (fun _ => 0))) := by rw [ef490, va_up_ne _ _ (Ne.symm n427)]; exact h1248
    have h1250 : f493 lr = some (.inl (cI G, 60, .inl (fun _ => 0))) := by rw [ef493, va_up_ne _ _ (Ne.symm n444)]; exact h1249
    have h1251 : f496 lr = some (.inl (cI G, 60, .inl (fun _ => 0))) := by rw [ef496, va_up_ne _ _ (Ne.symm n427)]; exact h1250
    have h1252 : f499 lr = some (.inl (cI G, 60, .inl (fun _ => 0))) := by rw [ef499, va_up_ne _ _ (Ne.symm n444)]; exact h1251
    have h1253 : f502 lr = some (.inl (cI G, 60, .inl (fun _ => 0))) := by rw [ef502, va_up_ne _ _ (Ne.symm n427)]; exact h1252
    have h1254 : f505 lr = some (.inl (cI G, 60, .inl (fun _ => 0))) := by rw [ef505, va_up_ne _ _ (Ne.symm n444)]; exact h1253
    have h1255 : f508 lr = some (.inl (cI G, 60, .inl (fun _ => 0))) := by rw [ef508, va_up_ne _ _ (Ne.symm n427)]; exact h1254
    have h1256 : f511 lr = some (.inl (cI G, 60, .inl (fun _ => 0))) := by rw [ef511, va_up_ne _ _ (Ne.symm n444)]; exact h1255
    have h1257 : f514 lr = some (.inl (cI G, 60, .inl (fun _ => 0))) := by rw [ef514, va_up_ne _ _ (Ne.symm n427)]; exact h1256
    have h1258 : f517 lr = some (.inl (cI G, 60, .inl (fun _ => 0))) := by rw [ef517, va_up_ne _ _ (Ne.symm n444)]; exact h1257
    have h1259 : f520 lr = some (.inl (cI G, 60, .inl (fun _ => 0))) := by rw [ef520, va_up_ne _ _ (Ne.symm n427)]; exact h1258
    have h1260 : f523 lr = some (.inl (cI G, 60, .inl (fun _ => 0))) := by rw [ef523, va_up_ne _ _ (Ne.symm n444)]; exact h1259
    have h1261 : f526 lr = some (.inl (cI G, 60, .inl (fun _ => 0))) := by rw [ef526, va_up_ne _ _ (Ne.symm n427)]; exact h1260
    have h1262 : f529 lr = some (.inl (cI G, 60, .inl (fun _ => 0))) := by rw [ef529, va_up_ne _ _ (Ne.symm n444)]; exact h1261
    have h1263 : f563 lr = some (.inl (cI G, 60, .inl (fun _ => 0))) := by rw [e564, va_up_ne _ _ (Ne.symm n451)]; exact h1262
    have n1265 : lr ≠ lg := hnew h51 w52
    have h1264 : f596 lr = some (.inl (cI G, 60, .inl (fun _ => 0))) := by rw [e597, va_up_ne _ _ n1265]; exact h1263
    have hLB0 : LBX G f596 lb lh lr lg 0 0 0 0 (fun _ => 0) fl0 (fun _ => 0) (fun _ => 0) (fun j => if j < 3 then (-1) else (fun _ => 0) j) := ⟨h1207, ⟨_, 0, h1236, rfl, HB_0⟩, h1264, (fun _ => 0), k_lg, fl0_tk⟩
    refine hp_S (As := [.ref xo, .ref lq, .ref le, .ref lr, .ref lg]) (rest := []) B0 hw hS (c_L_isTold hl G f596 xo ez eo bu nw0 na0 nq0 nr0 nw1 na1 nq1 nr1 bs bp bh bf bl bg S00 S01 N6 (fun _ => 0) N6 (fun _ => 0) 0 0 0 0 (fun _ => 0) (fun _ => 0) fl0 (fun _ => 0) (fun _ => 0) (fun j => if j < 3 then (-1) else (fun _ => 0) j) hC0 lq le lr lg (fun p9 hp9 h9 => hdis p9 hp9 ((sub_cons (List.mem_cons_of_mem _ (List.mem_cons_of_mem _ (List.mem_cons_of_mem _ (List.mem_cons_of_mem _ List.mem_cons_self)))) (sub_cons (List.mem_cons_of_mem _ (List.mem_cons_of_mem _ (List.mem_cons_of_mem _ (List.mem_cons_of_mem _ (List.mem_cons_of_mem _ List.mem_cons_self))))) (sub_cons (List.mem_cons_of_mem _ (List.mem_cons_of_mem _ (List.mem_cons_of_mem _ (List.mem_cons_of_mem _ (List.mem_cons_of_mem _ (List.mem_cons_of_mem _ (List.mem_cons_of_mem _ (List.mem_cons_of_mem _ List.mem_cons_self)))))))) (sub_cons (List.mem_cons_of_mem _ (List.mem_cons_of_mem _ (List.mem_cons_of_mem _ (List.mem_cons_of_mem _ (List.mem_cons_of_mem _ (List.mem_cons_of_mem _ (List.mem_cons_of_mem _ (List.mem_cons_of_mem _ (List.mem_cons_of_mem _ List.mem_cons_self))))))))) sub_nil)))) p9 h9)) (fun p9 hp9 => hdos p9 ((sub_cons (List.mem_cons_of_mem _ (List.mem_cons_of_mem _ (List.mem_cons_of_mem _ (List.mem_cons_of_mem _ List.mem_cons_self)))) (sub_cons (List.mem_cons_of_mem _ (List.mem_cons_of_mem _ (List.mem_cons_of_mem _ (List.mem_cons_of_mem _ (List.mem_cons_of_mem _ List.mem_cons_self))))) (sub_cons (List.mem_cons_of_mem _ (List.mem_cons_of_mem _ (List.mem_cons_of_mem _ (List.mem_cons_of_mem _ (List.mem_cons_of_mem _ (List.mem_cons_of_mem _ (List.mem_cons_of_mem _ (List.mem_cons_of_mem _ List.mem_cons_self)))))))) (sub_cons (List.mem_cons_of_mem _ (List.mem_cons_of_mem _ (List.mem_cons_of_mem _ (List.mem_cons_of_mem _ (List.mem_cons_of_mem _ (List.mem_cons_of_mem _ (List.mem_cons_of_mem _ (List.mem_cons_of_mem _ (List.mem_cons_of_mem _ List.mem_cons_self))))))))) sub_nil)))) p9 hp9)) _ _ _ _ _ INV_0 (Nat.zero_le _) (Nat.zero_le _) (fun _ => 0) k_lq k_le h1264 k_lg) mS_L_isTold qM_L_168 rfl rfl hl9.1 (Nat.le_of_ble_eq_true rfl) ⟨⟨Nat.le_of_ble_eq_true rfl, Nat.le_of_ble_eq_true rfl⟩, (by first | omega | (dsimp only; omega) | (show (_ : Nat) ≤ _; simp only [room_1]; omega)), (by first | omega | (dsimp only; omega) | (show (_ : Nat) ≤ _; simp only [room_1]; omega))⟩ dL_law_141 (fun E ce q9 f1266 H locs hPX hw hS hce hcv hcl => ?_) (fun v f1266 H locs hP hw hS => ?_)
    · exact hPX.elim
    · obtain ⟨ev9, hC2, hk2⟩ := hP
      subst ev9
      refine W.eq (g2 := F0 m 144 ls [.int 1]) rfl ?_
      refine lv_if_ne (tgt := 149) hx hb dL_law_144 (by decide) (fun _ => ?_) (fun c9 => absurd c9 (by decide))
      refine lv_iconst (v := 0) hx hb dL_law_149 (by decide) ?_
      refine lv_istore (lv' := [(12, .int 0), (11, .ref lg), (10, .ref lr), (9, .ref lh), (8, .ref lb), (7, .ref le), (6, .ref lq), (5, .ref la), (4, .ref lw), (3, .ref ly), (2, .ref lx), (1, .ref xo), (0, .ref b)]) hx hb dL_law_150 hl9 (by decide) rfl (fun ls hl9 => ?_)
      exact law_loop hL hx hb hr hlocks hX hbl hl B0 hbA hFs hdis hdos hlb hbl9 n_lx_ly n_lw_la n_lw_lq n_la_lq hC2 (hLX0.kp hk2 (fun p9 hp9 => hdos p9 ((sub_cons List.mem_cons_self (sub_cons (List.mem_cons_of_mem _ List.mem_cons_self) (sub_cons (List.mem_cons_of_mem _ (List.mem_cons_of_mem _ List.mem_cons_self)) (sub_cons (List.mem_cons_of_mem _ (List.mem_cons_of_mem _ (List.mem_cons_of_mem _ List.mem_cons_self))) (sub_cons (List.mem_cons_of_mem _ (List.mem_cons_of_mem _ (List.mem_cons_of_mem _ (List.mem_cons_of_mem _ List.mem_cons_self)))) (sub_cons (List.mem_cons_of_mem _ (List.mem_cons_of_mem _ (List.mem_cons_of_mem _ (List.mem_cons_of_mem _ (List.mem_cons_of_mem _ List.mem_cons_self))))) sub_nil)))))) p9 hp9))) (hLB0.kp hk2 (fun p9 hp9 => hdos p9 ((sub_cons (List.mem_cons_of_mem _ (List.mem_cons_of_mem _ (List.mem_cons_of_mem _ (List.mem_cons_of_mem _ (List.mem_cons_of_mem _ (List.mem_cons_of_mem _ List.mem_cons_self)))))) (sub_cons (List.mem_cons_of_mem _ (List.mem_cons_of_mem _ (List.mem_cons_of_mem _ (List.mem_cons_of_mem _ (List.mem_cons_of_mem _ (List.mem_cons_of_mem _ (List.mem_cons_of_mem _ List.mem_cons_self))))))) (sub_cons (List.mem_cons_of_mem _ (List.mem_cons_of_mem _ (List.mem_cons_of_mem _ (List.mem_cons_of_mem _ (List.mem_cons_of_mem _ (List.mem_cons_of_mem _ (List.mem_cons_of_mem _ (List.mem_cons_of_mem _ List.mem_cons_self)))))))) (sub_cons (List.mem_cons_of_mem _ (List.mem_cons_of_mem _ (List.mem_cons_of_mem _ (List.mem_cons_of_mem _ (List.mem_cons_of_mem _ (List.mem_cons_of_mem _ (List.mem_cons_of_mem _ (List.mem_cons_of_mem _ (List.mem_cons_of_mem _ List.mem_cons_self))))))))) sub_nil)))) p9 hp9))) INV_0 (Nat.zero_le _) (Nat.zero_le _) (Nat.zero_le _) hw hS (lv_sub hl9 [0, 12, 11, 10, 9, 8, 7, 6, 5, 4, 3, 2, 1] rfl)

