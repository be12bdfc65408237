/-- a row of counts -/
def nf (g : Nat → Nat) : Nat → Int32 := fun i => nI (g i)
theorem nf_up (g : Nat → Nat) (k v : Nat) : upd (nf g) k (nI v) = nf (va_up g k v) := by
  funext j
  simp only [upd, nf, va_up]
  by_cases h : j = k
  · rw [if_pos h, if_pos h]
  · rw [if_neg h, if_neg h]
theorem nf_at {g : Nat → Nat} {x : Int32} {k : Nat} (h : x.toNatClampNeg = k) : nf g x.toNatClampNeg = nI (g k) := by rw [h]; rfl
def mnI (x y : Int32) : Int32 := if y < x then y else x
def bnd (gl : Nat → Int32) : Int32 := mnI (mnI (gl 0) (gl 1)) (gl 2)
/-- the first from j on, of k, that has not come -/
def fGap (gh : Nat → Int32) : Nat → Nat → Nat
  | 0, j => j
  | k + 1, j => if gh j = 0 then j else fGap gh k (j + 1)
theorem fGap_s {gh : Nat → Int32} {k j : Nat} (h : ¬ gh j = 0) : fGap gh (k + 1) j = fGap gh k (j + 1) := by
  show (if gh j = 0 then j else fGap gh k (j + 1)) = _
  rw [if_neg h]
theorem fGap_z {gh : Nat → Int32} {k j : Nat} (h : gh j = 0) : fGap gh (k + 1) j = j := by
  show (if gh j = 0 then j else fGap gh k (j + 1)) = _
  rw [if_pos h]
theorem fGap_le (gh : Nat → Int32) : ∀ k j, j ≤ fGap gh k j ∧ fGap gh k j ≤ j + k := by
  intro k
  induction k with
  | zero => intro j; exact ⟨Nat.le_refl _, Nat.le_refl _⟩
  | succ k ih =>
    intro j
    unfold fGap
    split
    · exact ⟨Nat.le_refl _, Nat.le_add_right _ _⟩
    · have := ih (j + 1)
      exact ⟨by omega, by omega⟩
/-- what the numbers of a bundle keep -/
def BOK (n a c x : Nat) (s pk : Nat → Nat) : Prop := n ≤ 60 ∧ s 0 = 0 ∧ s n = a ∧ (∀ i, i < n → s i < s (i + 1) ∧ s (i + 1) ≤ s i + 4) ∧ (∀ j, j < a → pk j < n ∧ s (pk j) ≤ j ∧ j < s (pk j + 1)) ∧ x ≤ a ∧ ∃ q, q ≤ n ∧ c ≤ q ∧ s q ≤ x
theorem BOK.mono {n a c x : Nat} {s pk : Nat → Nat} (h : BOK n a c x s pk) : ∀ i j, i ≤ j → j ≤ n → s i ≤ s j ∧ s j ≤ s i + 4 * (j - i) := by
  intro i j hij hj
  induction j with
  | zero => have : i = 0 := by omega
            subst this; exact ⟨Nat.le_refl _, Nat.le_refl _⟩
  | succ j ih =>
    by_cases e : i = j + 1
    · subst e; exact ⟨Nat.le_refl _, by omega⟩
    · have h1 := ih (by omega) (by omega)
      have h2 := h.2.2.2.1 j (by omega)
      exact ⟨by omega, by omega⟩
theorem BOK.a240 {n a c x : Nat} {s pk : Nat → Nat} (h : BOK n a c x s pk) : a ≤ 240 := by
  have h1 := h.mono 0 n (Nat.zero_le _) (Nat.le_refl _)
  have h2 := h.1
  rw [h.2.1, h.2.2.1] at h1
  omega
theorem BOK.sle {n a c x : Nat} {s pk : Nat → Nat} (h : BOK n a c x s pk) {i : Nat} (hi : i ≤ n) : s i ≤ a := by
  have h1 := h.mono i n hi (Nat.le_refl _)
  rw [h.2.2.1] at h1
  exact h1.1
theorem BOK.c60 {n a c x : Nat} {s pk : Nat → Nat} (h : BOK n a c x s pk) (hx : x < a) : c ≤ pk x ∧ pk x < n := by
  obtain ⟨q, hq, hc, hs⟩ := h.2.2.2.2.2.2
  obtain ⟨h1, h2, h3⟩ := h.2.2.2.2.1 x hx
  refine ⟨?_, h1⟩
  by_cases e : q ≤ pk x
  · omega
  · have h4 := h.mono (pk x + 1) q (by omega) hq
    omega
def bStep (a : Nat) (s pk : Nat → Nat) (gh : Nat → Int32) (bd : Int32) (c x : Nat) (gv : Nat → Nat) : Option (Nat × Nat × (Nat → Nat)) :=
  if x < a then
    if gh x ≠ 0 ∧ s (pk x) = x then
      if fGap gh (s (pk x + 1) - x) x = s (pk x + 1) then some (c + 1, s (pk x + 1), va_up gv c (pk x))
      else if nI (fGap gh (s (pk x + 1) - x) x) < bd then some (c, fGap gh (s (pk x + 1) - x) x + 1, gv) else none
    else if gh x = 0 ∧ ¬ nI x < bd then none else some (c, x + 1, gv)
  else none
theorem BOK.step {n a c x : Nat} {s pk : Nat → Nat} (h : BOK n a c x s pk) {gh : Nat → Int32} {bd : Int32} {gv : Nat → Nat} {c1 x1 : Nat} {gv1 : Nat → Nat} (e : bStep a s pk gh bd c x gv = some (c1, x1, gv1)) : BOK n a c1 x1 s pk ∧ x < x1 := by
  unfold bStep at e
  by_cases hx : x < a
  · rw [if_pos hx] at e
    obtain ⟨h1, h2, h3⟩ := h.2.2.2.2.1 x hx
    have hc := (h.c60 hx).1
    have hsl := h.sle (i := pk x + 1) (by omega)
    obtain ⟨q, hq, hcq, hsq⟩ := h.2.2.2.2.2.2
    by_cases hf : gh x ≠ 0 ∧ s (pk x) = x
    · rw [if_pos hf] at e
      by_cases hg : fGap gh (s (pk x + 1) - x) x = s (pk x + 1)
      · rw [if_pos hg] at e
        cases e
        exact ⟨⟨h.1, h.2.1, h.2.2.1, h.2.2.2.1, h.2.2.2.2.1, hsl, pk x + 1, by omega, by omega, Nat.le_refl _⟩, h3⟩
      · rw [if_neg hg] at e
        have hgl := fGap_le gh (s (pk x + 1) - x) x
        by_cases hb : nI (fGap gh (s (pk x + 1) - x) x) < bd
        · rw [if_pos hb] at e
          cases e
          exact ⟨⟨h.1, h.2.1, h.2.2.1, h.2.2.2.1, h.2.2.2.2.1, by omega, q, hq, hcq, by omega⟩, by omega⟩
        · rw [if_neg hb] at e; cases e
    · rw [if_neg hf] at e
      by_cases hb : gh x = 0 ∧ ¬ nI x < bd
      · rw [if_pos hb] at e; cases e
      · rw [if_neg hb] at e
        cases e
        exact ⟨⟨h.1, h.2.1, h.2.2.1, h.2.2.2.1, h.2.2.2.2.1, by omega, q, hq, hcq, by omega⟩, by omega⟩
  · rw [if_neg hx] at e; cases e
def bRun (a : Nat) (s pk : Nat → Nat) (gh : Nat → Int32) (bd : Int32) : Nat → Nat → Nat → (Nat → Nat) → Nat × Nat × (Nat → Nat)
  | 0, c, x, gv => (c, x, gv)
  | k + 1, c, x, gv => match bStep a s pk gh bd c x gv with
    | none => (c, x, gv)
    | some (c1, x1, gv1) => bRun a s pk gh bd k c1 x1 gv1
theorem nI_dec (n : Nat) : nI (n + 1) + Int32.ofInt (-1) = nI n := by
  rw [nI_succ, Int32.add_assoc, show (1 : Int32) + Int32.ofInt (-1) = 0 from rfl, Int32.add_zero]
theorem bRun_none {a : Nat} {s pk : Nat → Nat} {gh : Nat → Int32} {bd : Int32} {c x : Nat} {gv : Nat → Nat} (h : bStep a s pk gh bd c x gv = none) (k : Nat) : bRun a s pk gh bd k c x gv = (c, x, gv) := by
  cases k with
  | zero => rfl
  | succ k => show (match bStep a s pk gh bd c x gv with | none => (c, x, gv) | some (c1, x1, gv1) => bRun a s pk gh bd k c1 x1 gv1) = _; rw [h]
theorem bRun_some {a : Nat} {s pk : Nat → Nat} {gh : Nat → Int32} {bd : Int32} {c x c1 x1 : Nat} {gv gv1 : Nat → Nat} (h : bStep a s pk gh bd c x gv = some (c1, x1, gv1)) (k : Nat) : bRun a s pk gh bd (k + 1) c x gv = bRun a s pk gh bd k c1 x1 gv1 := by
  show (match bStep a s pk gh bd c x gv with | none => (c, x, gv) | some (c1, x1, gv1) => bRun a s pk gh bd k c1 x1 gv1) = _; rw [h]
theorem bStep_lt {a : Nat} {s pk : Nat → Nat} {gh : Nat → Int32} {bd : Int32} {c x : Nat} {gv : Nat → Nat} {r : Nat × Nat × (Nat → Nat)} (h : bStep a s pk gh bd c x gv = some r) : x < a := by
  by_cases hx : x < a
  · exact hx
  · unfold bStep at h
    rw [if_neg hx] at h
    cases h
theorem BOK.a4 {n a c x : Nat} {s pk : Nat → Nat} (h : BOK n a c x s pk) : a ≤ 4 * n := by
  have h1 := h.mono 0 n (Nat.zero_le _) (Nat.le_refl _)
  rw [h.2.1, h.2.2.1] at h1
  omega
def pkA (pk : Nat → Nat) (n a k : Nat) : Nat → Nat := fun i => if a ≤ i ∧ i < a + k then n else pk i
theorem pkA_0 (pk : Nat → Nat) (n a : Nat) : pkA pk n a 0 = pk := by
  funext i
  unfold pkA
  rw [if_neg (by omega)]
theorem pkA_up (pk : Nat → Nat) (n a j : Nat) : va_up (pkA pk n a j) (a + j) n = pkA pk n a (j + 1) := by
  funext i
  unfold va_up pkA
  by_cases h : i = a + j
  · rw [if_pos h, if_pos (by omega)]
  · rw [if_neg h]
    by_cases h2 : a ≤ i ∧ i < a + j
    · rw [if_pos h2, if_pos (by omega)]
    · rw [if_neg h2, if_neg (by omega)]
theorem BOK.add {n a c x : Nat} {s pk : Nat → Nat} (h : BOK n a c x s pk) (hn : n < 60) {k : Nat} (h1 : 1 ≤ k) (h4 : k ≤ 4) : BOK (n + 1) (a + k) c x (va_up s (n + 1) (a + k)) (pkA pk n a k) := by
  have hs : ∀ i, i ≤ n → va_up s (n + 1) (a + k) i = s i := fun i hi => va_up_ne _ _ (by omega)
  obtain ⟨q, hq, hc, hx⟩ := h.2.2.2.2.2.2
  refine ⟨by omega, by rw [hs 0 (by omega)]; exact h.2.1, va_up_self _ _ _, fun i hi => ?_, fun j hj => ?_, by have := h.2.2.2.2.2.1; omega, q, by omega, hc, by rw [hs q hq]; exact hx⟩
  · by_cases e : i = n
    · subst e
      rw [va_up_self, hs _ (Nat.le_refl _), h.2.2.1]
      omega
    · rw [hs i (by omega), hs (i + 1) (by omega)]
      exact h.2.2.2.1 i (by omega)
  · unfold pkA
    by_cases e : a ≤ j ∧ j < a + k
    · rw [if_pos e, va_up_self, hs _ (Nat.le_refl _), h.2.2.1]
      omega
    · rw [if_neg e]
      have hj2 : j < a := by omega
      obtain ⟨g1, g2, g3⟩ := h.2.2.2.2.1 j hj2
      rw [hs _ (by omega), hs _ (by omega)]
      exact ⟨by omega, g2, g3⟩
section HMIN
variable {p : Program} {l : Launch} {e : Env} {R : Room} {s : State} {m : MethodId} {args : Array Value} {below : List Frame} {meth : Method} {c : Code} {H : Heap} {locs : List Loc} {cells slots : Nat} {Q : State → Prop}
theorem hp_min {cc : ByteArray} {nL pc : Nat} {own : String} {G : hG} {ls : Array Slot} {rest : List Value} {index : Nat} {x y : Int32} (B0 : hB p l s m args meth c cc nL own G) (hsz : ls.size = nL) (hlm : Cond.methodLink own index Lib.Math.min.name ∈ gW) (hst : Cond.static Lib.Math.min.name ∈ gW) (hini : Cond.initialized "java/lang/Math" ∈ gW) (hcode : Cond.code Lib.Math.min.name Lib.Math.min.code 2 (some .int) ∈ gW)
    (hR : (1 ≤ R.frames ∧ (rest.map fun v => v.category).sum + 13 ≤ R.locals) ∧ cells ≤ R.cells ∧ slots ≤ R.slots) (hdg : decode cc pc = .ok (.invokestatic index, 3))
    (kk : W p l e R s m args below meth c H locs cells slots Q (F0 m (pc + 3) ls (.int (mnI x y) :: rest))) : W p l e R s m args below meth c H locs cells slots Q (F0 m pc ls (.int y :: .int x :: rest)) := by
  obtain ⟨hx, hb, hml, hown, hts, hlk, hk0, hl⟩ := B0
  exact va_mmin hx hb (hml.trans hsz.symm) hown (hts _ hlm) (hts _ hst) (hts _ hini) (hts _ hcode) hR.1.1 hR.1.2 hR.2.1 hR.2.2 hdg kk
end HMIN
theorem qs_min : (Cond.static Lib.Math.min.name) ∈ gW := gW_mem 359 (by decide +kernel) (by decide +kernel)
theorem qc_min : (Cond.code Lib.Math.min.name Lib.Math.min.code 2 (some .int)) ∈ gW := gW_mem 360 (by decide +kernel) (by decide +kernel)
set_option maxHeartbeats 4000000 in
set_option maxRecDepth 100000 in
theorem c_X0_bound {l : Launch} (hl : l.stackTraces = false) (G : hG) (f : hM) (bu bs bp bh bf bl bg : Nat) (n a cg x : Nat) (sa pk fl gv : Nat → Nat) (gh gl : Nat → Int32) (k_bu : f bu = some (.inr (0, [.ref bs, .ref bp, .ref bh, .ref bf, .ref bl, .ref bg, .int (nI n), .int (nI cg), .int (nI x)]))) (k_bl : f bl = some (.inl (cI G, 3, .inl gl))) : CT l yX0_bound (.code yX0_bound cX0_bound 3 (some .int)) 1 15 0 0 G [.ref bu] f (fun v f1 => f1 = f ∧ v = some (.int (bnd gl))) (fun E f1 => False) := by
  refine hp_start hl (own := RX0) (by decide) rfl (Nat.le_of_ble_eq_true rfl) ?_
  intro p e s m args below meth c B0 hr hnm hout hw hS ls hl9
  have hx := B0.1
  have hb := B0.2.1
  have hl9 : lv_has ls 3 [(0, .ref bu)] := hl9
  refine lv_aload_n hx hb dX0_bound_0 rfl (lv_at hl9 0 rfl) ?_
  refine hp_get B0 hw 0 rfl in_X0 k_bu 4 (by decide) qF_X0_25 rfl dX0_bound_1 ?_
  refine lv_iconst (v := 0) hx hb dX0_bound_4 (by decide) ?_
  refine hp_iald B0 hw k_bl (by unfold vp_in; decide) dX0_bound_5 ?_
  refine hp_c (v := (gl 0)) (rfl) ?_
  refine lv_istore_n (lv' := [(1, .int (gl 0)), (0, .ref bu)]) hx hb dX0_bound_6 rfl hl9 (by decide) rfl (fun ls hl9 => ?_)
  refine lv_iconst (v := 1) hx hb dX0_bound_7 (by decide) ?_
  refine lv_istore_n (lv' := [(2, .int 1), (1, .int (gl 0)), (0, .ref bu)]) hx hb dX0_bound_8 rfl hl9 (by decide) rfl (fun ls hl9 => ?_)
  refine lv_iload_n hx hb dX0_bound_9 rfl (lv_at hl9 0 rfl) ?_
  refine lv_iconst (v := 3) hx hb dX0_bound_10 (by decide) ?_
  refine lv_icmp_ge (tgt := 31) hx hb dX0_bound_11 (by decide) (fun c9 => absurd c9 (by decide)) (fun _ => ?_)
  refine lv_iload_n hx hb dX0_bound_14 rfl (lv_at hl9 1 rfl) ?_
  refine lv_aload_n hx hb dX0_bound_15 rfl (lv_at hl9 2 rfl) ?_
  refine hp_get B0 hw 0 rfl in_X0 k_bu 4 (by decide) qF_X0_25 rfl dX0_bound_16 ?_
  refine lv_iload_n hx hb dX0_bound_19 rfl (lv_at hl9 0 rfl) ?_
  refine hp_iald B0 hw k_bl (by unfold vp_in; decide) dX0_bound_20 ?_
  refine hp_c (v := (gl 1)) (rfl) ?_
  refine hp_min B0 hl9.1 qM_X0_70 qs_min qN_java_lang_Math qc_min ⟨⟨Nat.le_of_ble_eq_true rfl, Nat.le_of_ble_eq_true rfl⟩, Nat.le_of_ble_eq_true rfl, Nat.le_of_ble_eq_true rfl⟩ dX0_bound_21 ?_
  refine lv_istore_n (lv' := [(1, .int (mnI (gl 0) (gl 1))), (2, .int 1), (0, .ref bu)]) hx hb dX0_bound_24 rfl hl9 (by decide) rfl (fun ls hl9 => ?_)
  refine lv_iinc (v := 2) (lv' := [(2, .int 2), (1, .int (mnI (gl 0) (gl 1))), (0, .ref bu)]) hx hb dX0_bound_25 hl9 (k := 1) rfl (by decide) (by decide) rfl (fun ls hl9 => ?_)
  refine lv_goto (tgt := 9) hx hb dX0_bound_28 (by decide) ?_
  refine lv_iload_n hx hb dX0_bound_9 rfl (lv_at hl9 0 rfl) ?_
  refine lv_iconst (v := 3) hx hb dX0_bound_10 (by decide) ?_
  refine lv_icmp_ge (tgt := 31) hx hb dX0_bound_11 (by decide) (fun c9 => absurd c9 (by decide)) (fun _ => ?_)
  refine lv_iload_n hx hb dX0_bound_14 rfl (lv_at hl9 1 rfl) ?_
  refine lv_aload_n hx hb dX0_bound_15 rfl (lv_at hl9 2 rfl) ?_
  refine hp_get B0 hw 0 rfl in_X0 k_bu 4 (by decide) qF_X0_25 rfl dX0_bound_16 ?_
  refine lv_iload_n hx hb dX0_bound_19 rfl (lv_at hl9 0 rfl) ?_
  refine hp_iald B0 hw k_bl (by unfold vp_in; decide) dX0_bound_20 ?_
  refine hp_c (v := (gl 2)) (rfl) ?_
  refine hp_min B0 hl9.1 qM_X0_70 qs_min qN_java_lang_Math qc_min ⟨⟨Nat.le_of_ble_eq_true rfl, Nat.le_of_ble_eq_true rfl⟩, Nat.le_of_ble_eq_true rfl, Nat.le_of_ble_eq_true rfl⟩ dX0_bound_21 ?_
  refine lv_istore_n (lv' := [(1, .int (mnI (mnI (gl 0) (gl 1)) (gl 2))), (2, .int 2), (0, .ref bu)]) hx hb dX0_bound_24 rfl hl9 (by decide) rfl (fun ls hl9 => ?_)
  refine lv_iinc (v := 3) (lv' := [(2, .int 3), (1, .int (mnI (mnI (gl 0) (gl 1)) (gl 2))), (0, .ref bu)]) hx hb dX0_bound_25 hl9 (k := 1) rfl (by decide) (by decide) rfl (fun ls hl9 => ?_)
  refine lv_goto (tgt := 9) hx hb dX0_bound_28 (by decide) ?_
  refine lv_iload_n hx hb dX0_bound_9 rfl (lv_at hl9 0 rfl) ?_
  refine lv_iconst (v := 3) hx hb dX0_bound_10 (by decide) ?_
  refine lv_icmp_ge (tgt := 31) hx hb dX0_bound_11 (by decide) (fun _ => ?_) (fun c9 => absurd (by decide) c9)
  refine lv_iload_n hx hb dX0_bound_31 rfl (lv_at hl9 1 rfl) ?_
  exact hp_iret (v := (mnI (mnI (gl 0) (gl 1)) (gl 2))) B0 hw hS hr ⟨Nat.le_of_ble_eq_true rfl, Nat.le_of_ble_eq_true rfl⟩ dX0_bound_32 (⟨rfl, rfl⟩)

set_option maxHeartbeats 4000000 in
set_option maxRecDepth 100000 in
theorem c_X0_firstNotCome {l : Launch} (hl : l.stackTraces = false) (G : hG) (f : hM) (bu bs bp bh bf bl bg : Nat) (n a cg x : Nat) (sa pk fl gv : Nat → Nat) (gh gl : Nat → Int32) (k_bu : f bu = some (.inr (0, [.ref bs, .ref bp, .ref bh, .ref bf, .ref bl, .ref bg, .int (nI n), .int (nI cg), .int (nI x)]))) (k_bs : f bs = some (.inl (cI G, 61, .inl (nf sa)))) (k_bh : f bh = some (.inl (cZ G, 240, .inl gh))) (hB9 : BOK n a cg x sa pk) (q : Nat) (hq : q < n) : CT l yX0_firstNotCome (.code yX0_firstNotCome cX0_firstNotCome 4 (some .int)) 0 0 0 0 G [.ref bu, .int (nI q)] f (fun v f1 => f1 = f ∧ v = some (.int (nI (fGap gh (sa (q + 1) - sa q) (sa q))))) (fun E f1 => False) := by
  refine hp_start hl (own := RX0) (by decide) rfl (Nat.le_of_ble_eq_true rfl) ?_
  intro p e s m args below meth c B0 hr hnm hout hw hS ls hl9
  have hx := B0.1
  have hb := B0.2.1
  have hl9 : lv_has ls 4 [(0, .ref bu), (1, .int (nI q))] := hl9
  have hq1 := hB9.2.2.2.1 q hq
  have hq2 := hB9.sle (i := q + 1) hq
  have hq3 := hB9.a240
  have hq4 := hB9.1
  refine lv_aload_n hx hb dX0_firstNotCome_0 rfl (lv_at hl9 0 rfl) ?_
  refine hp_get B0 hw 0 rfl in_X0 k_bu 0 (by decide) qF_X0_9 rfl dX0_firstNotCome_1 ?_
  refine lv_iload_n hx hb dX0_firstNotCome_4 rfl (lv_at hl9 1 rfl) ?_
  refine lv_iconst (v := 1) hx hb dX0_firstNotCome_5 (by decide) ?_
  refine lv_iadd hx hb dX0_firstNotCome_6 ?_
  refine hp_c (v := (nI (q + 1))) (nI_1 q) ?_
  refine hp_iald B0 hw k_bs (vp_in_nI (show q + 1 < 61 by omega) (by decide)) dX0_firstNotCome_7 ?_
  refine hp_c (v := (nI (sa (q + 1)))) (nf_at (nI_clamp (by omega))) ?_
  refine lv_istore_n (lv' := [(2, .int (nI (sa (q + 1)))), (0, .ref bu), (1, .int (nI q))]) hx hb dX0_firstNotCome_8 rfl hl9 (by decide) rfl (fun ls hl9 => ?_)
  refine lv_aload_n hx hb dX0_firstNotCome_9 rfl (lv_at hl9 1 rfl) ?_
  refine hp_get B0 hw 0 rfl in_X0 k_bu 0 (by decide) qF_X0_9 rfl dX0_firstNotCome_10 ?_
  refine lv_iload_n hx hb dX0_firstNotCome_13 rfl (lv_at hl9 2 rfl) ?_
  refine hp_iald B0 hw k_bs (vp_in_nI (show q < 61 by omega) (by decide)) dX0_firstNotCome_14 ?_
  refine hp_c (v := (nI (sa q))) (nf_at (nI_clamp (by omega))) ?_
  refine lv_istore_n (lv' := [(3, .int (nI (sa q))), (2, .int (nI (sa (q + 1)))), (0, .ref bu), (1, .int (nI q))]) hx hb dX0_firstNotCome_15 rfl hl9 (by decide) rfl (fun ls hl9 => ?_)
  refine hp_for (nL := 4) (pc := 16) (fun j f9 lv9 => f9 = f ∧ fGap gh (sa (q + 1) - sa q) (sa q) = fGap gh (sa (q + 1) - sa q - j) (sa q + j) ∧ lv9 = [(3, .int (nI (sa q + j))), (0, .ref bu), (1, .int (nI q)), (2, .int (nI (sa (q + 1))))]) (sa (q + 1) - sa q) (fun j f9 lv9 H locs ls hj hI hw hS hl9 ih => ?_) (fun f9 lv9 H locs ls hI hw hS hl9 => ?_) (sa (q + 1) - sa q) 0 (by omega) f _ _ _ ls ⟨rfl, rfl, rfl⟩ hw hS (lv_sub hl9 [0, 2, 3, 1] rfl)
  · obtain ⟨ef9, eg9, el9⟩ := hI
    rw [ef9] at hw
    rw [el9] at hl9
    refine lv_iload_n hx hb dX0_firstNotCome_16 rfl (lv_at hl9 0 rfl) ?_
    refine lv_iload_n hx hb dX0_firstNotCome_17 rfl (lv_at hl9 3 rfl) ?_
    refine lv_icmp_ge (tgt := 38) hx hb dX0_firstNotCome_18 (by decide) (fun c9 => absurd c9 (nI_ge (by omega) (by omega))) (fun _ => ?_)
    refine lv_aload_n hx hb dX0_firstNotCome_21 rfl (lv_at hl9 1 rfl) ?_
    refine hp_get B0 hw 0 rfl in_X0 k_bu 2 (by decide) qF_X0_18 rfl dX0_firstNotCome_22 ?_
    refine lv_iload_n hx hb dX0_firstNotCome_25 rfl (lv_at hl9 0 rfl) ?_
    refine hp_zald B0 hw k_bh (vp_in_nI (show sa q + j < 240 by omega) (by decide)) dX0_firstNotCome_26 ?_
    refine lv_if_ne (tgt := 32) hx hb dX0_firstNotCome_27 (by decide) (fun c1 => ?_) (fun c1 => ?_)
    · refine lv_iinc (v := (nI (sa q + (j + 1)))) (lv' := [(3, .int (nI (sa q + (j + 1)))), (0, .ref bu), (1, .int (nI q)), (2, .int (nI (sa (q + 1))))]) hx hb dX0_firstNotCome_32 hl9 (k := 0) rfl (nI_1 (sa q + j)) (by decide) rfl (fun ls hl9 => ?_)
      refine lv_goto (tgt := 16) hx hb dX0_firstNotCome_35 (by decide) ?_
      exact ih _ _ H locs ls ⟨rfl, (by rw [eg9, show sa (q + 1) - sa q - j = (sa (q + 1) - sa q - (j + 1)) + 1 by omega, fGap_s (by rw [nI_clamp (by omega)] at c1; exact c1)]; rfl), rfl⟩ hw hS (lv_sub hl9 [0, 1, 2, 3] rfl)
    · refine lv_iload_n hx hb dX0_firstNotCome_30 rfl (lv_at hl9 0 rfl) ?_
      exact hp_iret (v := (nI (sa q + j))) B0 hw hS hr ⟨Nat.le_of_ble_eq_true rfl, Nat.le_of_ble_eq_true rfl⟩ dX0_firstNotCome_31 (⟨rfl, by rw [eg9, show sa (q + 1) - sa q - j = (sa (q + 1) - sa q - (j + 1)) + 1 by omega, fGap_z (by rw [nI_clamp (by omega)] at c1; exact c1)]⟩)
  · obtain ⟨ef9, eg9, el9⟩ := hI
    rw [ef9] at hw
    rw [el9] at hl9
    refine lv_iload_n hx hb dX0_firstNotCome_16 rfl (lv_at hl9 0 rfl) ?_
    refine lv_iload_n hx hb dX0_firstNotCome_17 rfl (lv_at hl9 3 rfl) ?_
    refine lv_icmp_ge (tgt := 38) hx hb dX0_firstNotCome_18 (by decide) (fun _ => ?_) (fun c9 => absurd (nI_le (by omega) (by omega)) c9)
    refine lv_iload_n hx hb dX0_firstNotCome_38 rfl (lv_at hl9 3 rfl) ?_
    exact hp_iret (v := (nI (sa (q + 1)))) B0 hw hS hr ⟨Nat.le_of_ble_eq_true rfl, Nat.le_of_ble_eq_true rfl⟩ dX0_firstNotCome_39 (⟨rfl, by rw [eg9, Nat.sub_self, show sa q + (sa (q + 1) - sa q) = sa (q + 1) by omega]; rfl⟩)

set_option maxHeartbeats 4000000 in
set_option maxRecDepth 100000 in
theorem c_X0_give {l : Launch} (hl : l.stackTraces = false) (G : hG) (f : hM) (bu bs bp bh bf bl bg : Nat) (n a cg x : Nat) (sa pk fl gv : Nat → Nat) (gh gl : Nat → Int32) (k_bu : f bu = some (.inr (0, [.ref bs, .ref bp, .ref bh, .ref bf, .ref bl, .ref bg, .int (nI n), .int (nI cg), .int (nI x)]))) (k_bg : f bg = some (.inl (cI G, 60, .inl (nf gv)))) (q : Nat) (hc : cg < 60) : CT l yX0_give (.code yX0_give cX0_give 2 none) 0 0 0 0 G [.ref bu, .int (nI q)] f (fun v f1 => v = none ∧ f1 bu = some (.inr (0, [.ref bs, .ref bp, .ref bh, .ref bf, .ref bl, .ref bg, .int (nI n), .int (nI (cg + 1)), .int (nI x)])) ∧ f1 bg = some (.inl (cI G, 60, .inl (nf (va_up gv cg q)))) ∧ hEq [bu, bg] f f1) (fun E f1 => False) := by
  refine hp_start hl (own := RX0) (by decide) rfl (Nat.le_of_ble_eq_true rfl) ?_
  intro p e s m args below meth c B0 hr hnm hout hw hS ls hl9
  have hx := B0.1
  have hb := B0.2.1
  have hl9 : lv_has ls 2 [(0, .ref bu), (1, .int (nI q))] := hl9
  refine lv_aload_n hx hb dX0_give_0 rfl (lv_at hl9 0 rfl) ?_
  refine hp_get B0 hw 0 rfl in_X0 k_bu 7 (by decide) qF_X0_35 rfl dX0_give_1 ?_
  refine lv_aload_n hx hb dX0_give_4 rfl (lv_at hl9 0 rfl) ?_
  refine hp_get B0 hw 0 rfl in_X0 k_bu 5 (by decide) qF_X0_28 rfl dX0_give_5 ?_
  refine hp_alenI B0 hw k_bg (v := 60) (by decide) dX0_give_8 ?_
  refine lv_icmp_ge (tgt := 32) hx hb dX0_give_9 (by decide) (fun c9 => absurd c9 (by rw [show (60 : Int32) = nI 60 from rfl]; exact nI_ge hc (by decide))) (fun _ => ?_)
  refine lv_aload_n hx hb dX0_give_12 rfl (lv_at hl9 0 rfl) ?_
  refine hp_get B0 hw 0 rfl in_X0 k_bu 5 (by decide) qF_X0_28 rfl dX0_give_13 ?_
  refine lv_aload_n hx hb dX0_give_16 rfl (lv_at hl9 0 rfl) ?_
  refine hp_get B0 hw 0 rfl in_X0 k_bu 7 (by decide) qF_X0_35 rfl dX0_give_17 ?_
  refine lv_iload_n hx hb dX0_give_20 rfl (lv_at hl9 1 rfl) ?_
  refine hp_iast B0 hw hS k_bg (vp_in_nI hc (by decide)) dX0_give_21 (fun H locs f1 ef1 hw hS => ?_)
  rw [show (upd (nf gv) ((nI cg) : Int32).toNatClampNeg (nI q) : Nat → Int32) = (nf (va_up gv cg q)) from (by rw [nI_clamp (by omega)]; exact nf_up gv cg q)] at ef1
  have h2 : f1 bg = some (.inl (cI G, 60, .inl (nf (va_up gv cg q)))) := by rw [ef1, va_up_self]
  refine lv_aload_n hx hb dX0_give_22 rfl (lv_at hl9 0 rfl) ?_
  refine lv_dup hx hb dX0_give_23 rfl ?_
  have n4 : bu ≠ bg := hne k_bu k_bg (Nat.ne_of_beq_eq_false rfl)
  have h3 : f1 bu = some (.inr (0, [.ref bs, .ref bp, .ref bh, .ref bf, .ref bl, .ref bg, .int (nI n), .int (nI cg), .int (nI x)])) := by rw [ef1, va_up_ne _ _ n4]; exact k_bu
  refine hp_get B0 hw 0 rfl in_X0 h3 7 (by decide) qF_X0_35 rfl dX0_give_24 ?_
  refine lv_iconst (v := 1) hx hb dX0_give_27 (by decide) ?_
  refine lv_iadd hx hb dX0_give_28 ?_
  refine hp_c (v := (nI (cg + 1))) (nI_1 cg) ?_
  refine hp_put (fs1 := [.ref bs, .ref bp, .ref bh, .ref bf, .ref bl, .ref bg, .int (nI n), .int (nI (cg + 1)), .int (nI x)]) (ty := .int) B0 hw hS 0 rfl in_X0 tyX0 tyX0_ok nmX0 h3 7 (by decide) qF_X0_35 rfl (by decide +kernel) rfl rfl (Nat.le_of_ble_eq_true rfl) rfl dX0_give_29 (fun H locs f5 ef5 hw hS => ?_)
  have h6 : f5 bu = some (.inr (0, [.ref bs, .ref bp, .ref bh, .ref bf, .ref bl, .ref bg, .int (nI n), .int (nI (cg + 1)), .int (nI x)])) := by rw [ef5, va_up_self]
  have h7 : f5 bg = some (.inl (cI G, 60, .inl (nf (va_up gv cg q)))) := by rw [ef5, va_up_ne _ _ (Ne.symm n4)]; exact h2
  exact hp_vret B0 hw hS hr ⟨Nat.le_of_ble_eq_true rfl, Nat.le_of_ble_eq_true rfl⟩ dX0_give_32 (⟨rfl, h6, h7, ((show hEq [bu, bg] f f1 from (by rw [ef1]; exact hEq.up (List.mem_cons_of_mem _ List.mem_cons_self))).tr (show hEq [bu, bg] f1 f5 from (by rw [ef5]; exact hEq.up List.mem_cons_self)))⟩)

set_option maxHeartbeats 4000000 in
set_option maxRecDepth 100000 in
theorem c_X0_advFirst {l : Launch} (hl : l.stackTraces = false) (G : hG) (f : hM) (bu bs bp bh bf bl bg : Nat) (n a cg x : Nat) (sa pk fl gv : Nat → Nat) (gh gl : Nat → Int32) (k_bu : f bu = some (.inr (0, [.ref bs, .ref bp, .ref bh, .ref bf, .ref bl, .ref bg, .int (nI n), .int (nI cg), .int (nI x)]))) (k_bs : f bs = some (.inl (cI G, 61, .inl (nf sa)))) (k_bh : f bh = some (.inl (cZ G, 240, .inl gh))) (k_bl : f bl = some (.inl (cI G, 3, .inl gl))) (k_bg : f bg = some (.inl (cI G, 60, .inl (nf gv)))) (hB9 : BOK n a cg x sa pk) (hxa : x < a) (hqx : sa (pk x) = x) (hgx : gh x ≠ 0) : CT l yX0_advanceFromFirst (.code yX0_advanceFromFirst cX0_advanceFromFirst 3 (some .boolean)) 2 37 0 0 G [.ref bu, .int (nI (pk x))] f (fun v f1 => (v = some (.int 1) ∧ ∃ (c1 x1 : Nat) (gv1 : Nat → Nat), bStep a sa pk gh (bnd gl) cg x gv = some (c1, x1, gv1) ∧ f1 bu = some (.inr (0, [.ref bs, .ref bp, .ref bh, .ref bf, .ref bl, .ref bg, .int (nI n), .int (nI c1), .int (nI x1)])) ∧ f1 bg = some (.inl (cI G, 60, .inl (nf gv1))) ∧ hEq [bu, bg] f f1) ∨ (v = some (.int 0) ∧ f1 = f ∧ bStep a sa pk gh (bnd gl) cg x gv = none)) (fun E f1 => False) := by
  refine hp_start hl (own := RX0) (by decide) rfl (Nat.le_of_ble_eq_true rfl) ?_
  intro p e s m args below meth c B0 hr hnm hout hw hS ls hl9
  have hx := B0.1
  have hb := B0.2.1
  have hl9 : lv_has ls 3 [(0, .ref bu), (1, .int (nI (pk x)))] := hl9
  have hqn := (hB9.c60 hxa).2
  have hc : cg < 60 := by have h1 := hB9.c60 hxa; have h2 := hB9.1; omega
  have eg : fGap gh (sa (pk x + 1) - sa (pk x)) (sa (pk x)) = fGap gh (sa (pk x + 1) - x) x := by rw [hqx]
  have hg1 := fGap_le gh (sa (pk x + 1) - sa (pk x)) (sa (pk x))
  have hq1 := hB9.2.2.2.1 _ hqn
  have hq2 := hB9.sle (i := pk x + 1) hqn
  have hq3 := hB9.a240
  have hq4 := hB9.1
  refine lv_aload_n hx hb dX0_advanceFromFirst_0 rfl (lv_at hl9 0 rfl) ?_
  refine lv_iload_n hx hb dX0_advanceFromFirst_1 rfl (lv_at hl9 1 rfl) ?_
  refine hp_V (ci := 0) (As := [.int (nI (pk x))]) (rest := []) B0 hw hS (c_X0_firstNotCome hl G f bu bs bp bh bf bl bg n a cg x sa pk fl gv gh gl k_bu k_bs k_bh  hB9 (pk x) hqn) mV_X0_firstNotCome qM_X0_63 rfl k_bu rfl rfl hl9.1 (Nat.le_of_ble_eq_true rfl) ⟨⟨Nat.le_of_ble_eq_true rfl, Nat.le_of_ble_eq_true rfl⟩, Nat.le_of_ble_eq_true rfl, Nat.le_of_ble_eq_true rfl⟩ dX0_advanceFromFirst_2 (fun E ce q9 f1 H locs hPX hw hS hce hcv hcl => ?_) (fun v f1 H locs hP hw hS => ?_)
  · exact hPX.elim
  · obtain ⟨ef9, ev9⟩ := hP
    rw [ef9] at hw
    subst ev9
    refine W.eq (g2 := F0 m 5 ls [.int (nI (fGap gh (sa ((pk x) + 1) - sa (pk x)) (sa (pk x))))]) rfl ?_
    refine lv_istore_n (lv' := [(2, .int (nI (fGap gh (sa ((pk x) + 1) - sa (pk x)) (sa (pk x))))), (0, .ref bu), (1, .int (nI (pk x)))]) hx hb dX0_advanceFromFirst_5 rfl hl9 (by decide) rfl (fun ls hl9 => ?_)
    refine lv_iload_n hx hb dX0_advanceFromFirst_6 rfl (lv_at hl9 0 rfl) ?_
    refine lv_aload_n hx hb dX0_advanceFromFirst_7 rfl (lv_at hl9 1 rfl) ?_
    refine hp_get B0 hw 0 rfl in_X0 k_bu 0 (by decide) qF_X0_9 rfl dX0_advanceFromFirst_8 ?_
    refine lv_iload_n hx hb dX0_advanceFromFirst_11 rfl (lv_at hl9 2 rfl) ?_
    refine lv_iconst (v := 1) hx hb dX0_advanceFromFirst_12 (by decide) ?_
    refine lv_iadd hx hb dX0_advanceFromFirst_13 ?_
    refine hp_c (v := (nI (pk x + 1))) (nI_1 (pk x)) ?_
    refine hp_iald B0 hw k_bs (vp_in_nI (show pk x + 1 < 61 by omega) (by decide)) dX0_advanceFromFirst_14 ?_
    refine hp_c (v := (nI (sa (pk x + 1)))) (nf_at (nI_clamp (by omega))) ?_
    refine lv_icmp_ne (tgt := 30) hx hb dX0_advanceFromFirst_15 (by decide) (fun c2 => ?_) (fun c2 => ?_)
    · refine lv_iload_n hx hb dX0_advanceFromFirst_30 rfl (lv_at hl9 0 rfl) ?_
      refine lv_aload_n hx hb dX0_advanceFromFirst_31 rfl (lv_at hl9 1 rfl) ?_
      refine hp_V (ci := 0) (As := []) (rest := [.int (nI (fGap gh (sa ((pk x) + 1) - sa (pk x)) (sa (pk x))))]) B0 hw hS (c_X0_bound hl G f bu bs bp bh bf bl bg n a cg x sa pk fl gv gh gl k_bu k_bl ) mV_X0_bound qM_X0_59 rfl k_bu rfl rfl hl9.1 (Nat.le_of_ble_eq_true rfl) ⟨⟨Nat.le_of_ble_eq_true rfl, Nat.le_of_ble_eq_true rfl⟩, Nat.le_of_ble_eq_true rfl, Nat.le_of_ble_eq_true rfl⟩ dX0_advanceFromFirst_32 (fun E ce q9 f3 H locs hPX hw hS hce hcv hcl => ?_) (fun v f3 H locs hP hw hS => ?_)
      · exact hPX.elim
      · obtain ⟨ef9, ev9⟩ := hP
        rw [ef9] at hw
        subst ev9
        refine W.eq (g2 := F0 m 35 ls [.int (bnd gl), .int (nI (fGap gh (sa ((pk x) + 1) - sa (pk x)) (sa (pk x))))]) rfl ?_
        refine lv_icmp_lt (tgt := 40) hx hb dX0_advanceFromFirst_35 (by decide) (fun c4 => ?_) (fun c4 => ?_)
        · refine lv_aload_n hx hb dX0_advanceFromFirst_40 rfl (lv_at hl9 1 rfl) ?_
          refine lv_iload_n hx hb dX0_advanceFromFirst_41 rfl (lv_at hl9 0 rfl) ?_
          refine lv_iconst (v := 1) hx hb dX0_advanceFromFirst_42 (by decide) ?_
          refine lv_iadd hx hb dX0_advanceFromFirst_43 ?_
          refine hp_c (v := (nI (fGap gh (sa (pk x + 1) - sa (pk x)) (sa (pk x)) + 1))) (nI_1 _) ?_
          refine hp_put (fs1 := [.ref bs, .ref bp, .ref bh, .ref bf, .ref bl, .ref bg, .int (nI n), .int (nI cg), .int (nI (fGap gh (sa (pk x + 1) - sa (pk x)) (sa (pk x)) + 1))]) (ty := .int) B0 hw hS 0 rfl in_X0 tyX0 tyX0_ok nmX0 k_bu 8 (by decide) qF_X0_38 rfl (by decide +kernel) rfl rfl (Nat.le_of_ble_eq_true rfl) rfl dX0_advanceFromFirst_44 (fun H locs f5 ef5 hw hS => ?_)
          have h6 : f5 bu = some (.inr (0, [.ref bs, .ref bp, .ref bh, .ref bf, .ref bl, .ref bg, .int (nI n), .int (nI cg), .int (nI (fGap gh (sa (pk x + 1) - sa (pk x)) (sa (pk x)) + 1))])) := by rw [ef5, va_up_self]
          refine lv_iconst (v := 1) hx hb dX0_advanceFromFirst_47 (by decide) ?_
          have n8 : bg ≠ bu := hne k_bg k_bu (Nat.ne_of_beq_eq_false rfl)
          have h7 : f5 bg = some (.inl (cI G, 60, .inl (nf gv))) := by rw [ef5, va_up_ne _ _ n8]; exact k_bg
          exact hp_zret (v := 1) B0 hw hS hr ⟨Nat.le_of_ble_eq_true rfl, Nat.le_of_ble_eq_true rfl⟩ (rfl) dX0_advanceFromFirst_48 (Or.inl ⟨rfl, _, _, _, (by unfold bStep; rw [if_pos hxa, if_pos ⟨hgx, hqx⟩, if_neg (fun h9 => c2 (congrArg nI (eg.trans h9))), if_pos (by rw [← eg]; exact c4), eg]), h6, h7, (show hEq [bu, bg] f f5 from (by rw [ef5]; exact hEq.up List.mem_cons_self))⟩)
        · refine lv_iconst (v := 0) hx hb dX0_advanceFromFirst_38 (by decide) ?_
          exact hp_zret (v := 0) B0 hw hS hr ⟨Nat.le_of_ble_eq_true rfl, Nat.le_of_ble_eq_true rfl⟩ (rfl) dX0_advanceFromFirst_39 (Or.inr ⟨rfl, rfl, (by unfold bStep; rw [if_pos hxa, if_pos ⟨hgx, hqx⟩, if_neg (fun h9 => c2 (congrArg nI (eg.trans h9))), if_neg (by rw [← eg]; exact c4)])⟩)
    · refine lv_aload_n hx hb dX0_advanceFromFirst_18 rfl (lv_at hl9 1 rfl) ?_
      refine lv_iload_n hx hb dX0_advanceFromFirst_19 rfl (lv_at hl9 2 rfl) ?_
      refine hp_V (ci := 0) (As := [.int (nI (pk x))]) (rest := []) B0 hw hS (c_X0_give hl G f bu bs bp bh bf bl bg n a cg x sa pk fl gv gh gl k_bu k_bg  (pk x) hc) mV_X0_give qM_X0_66 rfl k_bu rfl rfl hl9.1 (Nat.le_of_ble_eq_true rfl) ⟨⟨Nat.le_of_ble_eq_true rfl, Nat.le_of_ble_eq_true rfl⟩, Nat.le_of_ble_eq_true rfl, Nat.le_of_ble_eq_true rfl⟩ dX0_advanceFromFirst_20 (fun E ce q9 f9 H locs hPX hw hS hce hcv hcl => ?_) (fun v f9 H locs hP hw hS => ?_)
      · exact hPX.elim
      · obtain ⟨ev9, h10, h11, k12⟩ := hP
        subst ev9
        refine W.eq (g2 := F0 m 23 ls []) rfl ?_
        refine lv_aload_n hx hb dX0_advanceFromFirst_23 rfl (lv_at hl9 1 rfl) ?_
        refine lv_iload_n hx hb dX0_advanceFromFirst_24 rfl (lv_at hl9 0 rfl) ?_
        refine hp_put (fs1 := [.ref bs, .ref bp, .ref bh, .ref bf, .ref bl, .ref bg, .int (nI n), .int (nI (cg + 1)), .int (nI (fGap gh (sa ((pk x) + 1) - sa (pk x)) (sa (pk x))))]) (ty := .int) B0 hw hS 0 rfl in_X0 tyX0 tyX0_ok nmX0 h10 8 (by decide) qF_X0_38 rfl (by decide +kernel) rfl rfl (Nat.le_of_ble_eq_true rfl) rfl dX0_advanceFromFirst_25 (fun H locs f13 ef13 hw hS => ?_)
        have h14 : f13 bu = some (.inr (0, [.ref bs, .ref bp, .ref bh, .ref bf, .ref bl, .ref bg, .int (nI n), .int (nI (cg + 1)), .int (nI (fGap gh (sa ((pk x) + 1) - sa (pk x)) (sa (pk x))))])) := by rw [ef13, va_up_self]
        refine lv_iconst (v := 1) hx hb dX0_advanceFromFirst_28 (by decide) ?_
        have hE9 := (nI_eq (by omega) (by omega)).mp c2
        have n16 : bg ≠ bu := hne k_bg k_bu (Nat.ne_of_beq_eq_false rfl)
        have h15 : f13 bg = some (.inl (cI G, 60, .inl (nf (va_up gv cg (pk x))))) := by rw [ef13, va_up_ne _ _ n16]; exact h11
        exact hp_zret (v := 1) B0 hw hS hr ⟨Nat.le_of_ble_eq_true rfl, Nat.le_of_ble_eq_true rfl⟩ (rfl) dX0_advanceFromFirst_29 (Or.inl ⟨rfl, _, _, _, (by unfold bStep; rw [if_pos hxa, if_pos ⟨hgx, hqx⟩, if_pos (by rw [← eg]; exact hE9), hE9]), h14, h15, ((show hEq [bu, bg] f f9 from (hEq.mono k12 (fun _ h9 => h9))).tr (show hEq [bu, bg] f9 f13 from (by rw [ef13]; exact hEq.up List.mem_cons_self)))⟩)

set_option maxHeartbeats 4000000 in
set_option maxRecDepth 100000 in
theorem c_X0_advance {l : Launch} (hl : l.stackTraces = false) (G : hG) (f : hM) (bu bs bp bh bf bl bg : Nat) (n a cg x : Nat) (sa pk fl gv : Nat → Nat) (gh gl : Nat → Int32) (k_bu : f bu = some (.inr (0, [.ref bs, .ref bp, .ref bh, .ref bf, .ref bl, .ref bg, .int (nI n), .int (nI cg), .int (nI x)]))) (k_bs : f bs = some (.inl (cI G, 61, .inl (nf sa)))) (k_bp : f bp = some (.inl (cI G, 240, .inl (nf pk)))) (k_bh : f bh = some (.inl (cZ G, 240, .inl gh))) (k_bl : f bl = some (.inl (cI G, 3, .inl gl))) (k_bg : f bg = some (.inl (cI G, 60, .inl (nf gv)))) (hB9 : BOK n a cg x sa pk) : CT l yX0_advance (.code yX0_advance cX0_advance 3 (some .boolean)) 3 59 0 0 G [.ref bu] f (fun v f1 => (v = some (.int 1) ∧ ∃ (c1 x1 : Nat) (gv1 : Nat → Nat), bStep a sa pk gh (bnd gl) cg x gv = some (c1, x1, gv1) ∧ f1 bu = some (.inr (0, [.ref bs, .ref bp, .ref bh, .ref bf, .ref bl, .ref bg, .int (nI n), .int (nI c1), .int (nI x1)])) ∧ f1 bg = some (.inl (cI G, 60, .inl (nf gv1))) ∧ hEq [bu, bg] f f1) ∨ (v = some (.int 0) ∧ f1 = f ∧ bStep a sa pk gh (bnd gl) cg x gv = none)) (fun E f1 => False) := by
  refine hp_start hl (own := RX0) (by decide) rfl (Nat.le_of_ble_eq_true rfl) ?_
  intro p e s m args below meth c B0 hr hnm hout hw hS ls hl9
  have hx := B0.1
  have hb := B0.2.1
  have hl9 : lv_has ls 3 [(0, .ref bu)] := hl9
  have hq3 := hB9.a240
  have hq4 := hB9.1
  have hq5 := hB9.2.2.2.2.2.1
  refine lv_aload_n hx hb dX0_advance_0 rfl (lv_at hl9 0 rfl) ?_
  refine hp_get B0 hw 0 rfl in_X0 k_bu 8 (by decide) qF_X0_38 rfl dX0_advance_1 ?_
  refine lv_istore_n (lv' := [(1, .int (nI x)), (0, .ref bu)]) hx hb dX0_advance_4 rfl hl9 (by decide) rfl (fun ls hl9 => ?_)
  refine lv_iload_n hx hb dX0_advance_5 rfl (lv_at hl9 0 rfl) ?_
  refine lv_aload_n hx hb dX0_advance_6 rfl (lv_at hl9 1 rfl) ?_
  refine hp_get B0 hw 0 rfl in_X0 k_bu 0 (by decide) qF_X0_9 rfl dX0_advance_7 ?_
  refine lv_aload_n hx hb dX0_advance_10 rfl (lv_at hl9 1 rfl) ?_
  refine hp_get B0 hw 0 rfl in_X0 k_bu 6 (by decide) qF_X0_31 rfl dX0_advance_11 ?_
  refine hp_iald B0 hw k_bs (vp_in_nI (show n < 61 by omega) (by decide)) dX0_advance_14 ?_
  refine hp_c (v := (nI a)) (((nf_at (nI_clamp (by omega))).trans (congrArg nI hB9.2.2.1))) ?_
  refine lv_icmp_lt (tgt := 20) hx hb dX0_advance_15 (by decide) (fun c1 => ?_) (fun c1 => ?_)
  · have hxa : x < a := Nat.lt_of_not_le (fun h9 => nI_nlt h9 (by omega) c1)
    have hqn := (hB9.c60 hxa).2
    have hq2 := hB9.sle (i := pk x) (by omega)
    refine lv_aload_n hx hb dX0_advance_20 rfl (lv_at hl9 1 rfl) ?_
    refine hp_get B0 hw 0 rfl in_X0 k_bu 1 (by decide) qF_X0_15 rfl dX0_advance_21 ?_
    refine lv_iload_n hx hb dX0_advance_24 rfl (lv_at hl9 0 rfl) ?_
    refine hp_iald B0 hw k_bp (vp_in_nI (show x < 240 by omega) (by decide)) dX0_advance_25 ?_
    refine hp_c (v := (nI (pk x))) (nf_at (nI_clamp (by omega))) ?_
    refine lv_istore_n (lv' := [(2, .int (nI (pk x))), (1, .int (nI x)), (0, .ref bu)]) hx hb dX0_advance_26 rfl hl9 (by decide) rfl (fun ls hl9 => ?_)
    refine lv_aload_n hx hb dX0_advance_27 rfl (lv_at hl9 2 rfl) ?_
    refine hp_get B0 hw 0 rfl in_X0 k_bu 2 (by decide) qF_X0_18 rfl dX0_advance_28 ?_
    refine lv_iload_n hx hb dX0_advance_31 rfl (lv_at hl9 1 rfl) ?_
    refine hp_zald B0 hw k_bh (vp_in_nI (show x < 240 by omega) (by decide)) dX0_advance_32 ?_
    refine hp_c (v := (gh x)) (congrArg gh (nI_clamp (by omega))) ?_
    refine lv_if_eq (tgt := 52) hx hb dX0_advance_33 (by decide) (fun c2 => ?_) (fun c2 => ?_)
    · refine lv_aload_n hx hb dX0_advance_52 rfl (lv_at hl9 2 rfl) ?_
      refine hp_get B0 hw 0 rfl in_X0 k_bu 2 (by decide) qF_X0_18 rfl dX0_advance_53 ?_
      refine lv_iload_n hx hb dX0_advance_56 rfl (lv_at hl9 1 rfl) ?_
      refine hp_zald B0 hw k_bh (vp_in_nI (show x < 240 by omega) (by decide)) dX0_advance_57 ?_
      refine hp_c (v := (gh x)) (congrArg gh (nI_clamp (by omega))) ?_
      refine lv_if_ne (tgt := 71) hx hb dX0_advance_58 (by decide) (fun c9 => absurd c2 c9) (fun _ => ?_)
      refine lv_iload_n hx hb dX0_advance_61 rfl (lv_at hl9 1 rfl) ?_
      refine lv_aload_n hx hb dX0_advance_62 rfl (lv_at hl9 2 rfl) ?_
      refine hp_V (ci := 0) (As := []) (rest := [.int (nI x)]) B0 hw hS (c_X0_bound hl G f bu bs bp bh bf bl bg n a cg x sa pk fl gv gh gl k_bu k_bl ) mV_X0_bound qM_X0_59 rfl k_bu rfl rfl hl9.1 (Nat.le_of_ble_eq_true rfl) ⟨⟨Nat.le_of_ble_eq_true rfl, Nat.le_of_ble_eq_true rfl⟩, Nat.le_of_ble_eq_true rfl, Nat.le_of_ble_eq_true rfl⟩ dX0_advance_63 (fun E ce q9 f3 H locs hPX hw hS hce hcv hcl => ?_) (fun v f3 H locs hP hw hS => ?_)
      · exact hPX.elim
      · obtain ⟨ef9, ev9⟩ := hP
        rw [ef9] at hw
        subst ev9
        refine W.eq (g2 := F0 m 66 ls [.int (bnd gl), .int (nI x)]) rfl ?_
        refine lv_icmp_lt (tgt := 71) hx hb dX0_advance_66 (by decide) (fun c4 => ?_) (fun c4 => ?_)
        · refine lv_aload_n hx hb dX0_advance_71 rfl (lv_at hl9 2 rfl) ?_
          refine lv_iload_n hx hb dX0_advance_72 rfl (lv_at hl9 1 rfl) ?_
          refine lv_iconst (v := 1) hx hb dX0_advance_73 (by decide) ?_
          refine lv_iadd hx hb dX0_advance_74 ?_
          refine hp_c (v := (nI (x + 1))) (nI_1 x) ?_
          refine hp_put (fs1 := [.ref bs, .ref bp, .ref bh, .ref bf, .ref bl, .ref bg, .int (nI n), .int (nI cg), .int (nI (x + 1))]) (ty := .int) B0 hw hS 0 rfl in_X0 tyX0 tyX0_ok nmX0 k_bu 8 (by decide) qF_X0_38 rfl (by decide +kernel) rfl rfl (Nat.le_of_ble_eq_true rfl) rfl dX0_advance_75 (fun H locs f5 ef5 hw hS => ?_)
          have h6 : f5 bu = some (.inr (0, [.ref bs, .ref bp, .ref bh, .ref bf, .ref bl, .ref bg, .int (nI n), .int (nI cg), .int (nI (x + 1))])) := by rw [ef5, va_up_self]
          refine lv_iconst (v := 1) hx hb dX0_advance_78 (by decide) ?_
          have n8 : bg ≠ bu := hne k_bg k_bu (Nat.ne_of_beq_eq_false rfl)
          have h7 : f5 bg = some (.inl (cI G, 60, .inl (nf gv))) := by rw [ef5, va_up_ne _ _ n8]; exact k_bg
          exact hp_zret (v := 1) B0 hw hS hr ⟨Nat.le_of_ble_eq_true rfl, Nat.le_of_ble_eq_true rfl⟩ (rfl) dX0_advance_79 (Or.inl ⟨rfl, _, _, _, (by unfold bStep; rw [if_pos hxa, if_neg (fun h9 => h9.1 c2), if_neg (fun h9 => h9.2 c4)]), h6, h7, (show hEq [bu, bg] f f5 from (by rw [ef5]; exact hEq.up List.mem_cons_self))⟩)
        · refine lv_iconst (v := 0) hx hb dX0_advance_69 (by decide) ?_
          exact hp_zret (v := 0) B0 hw hS hr ⟨Nat.le_of_ble_eq_true rfl, Nat.le_of_ble_eq_true rfl⟩ (rfl) dX0_advance_70 (Or.inr ⟨rfl, rfl, (by unfold bStep; rw [if_pos hxa, if_neg (fun h9 => h9.1 c2), if_pos ⟨c2, c4⟩])⟩)
    · refine lv_aload_n hx hb dX0_advance_36 rfl (lv_at hl9 2 rfl) ?_
      refine hp_get B0 hw 0 rfl in_X0 k_bu 0 (by decide) qF_X0_9 rfl dX0_advance_37 ?_
      refine lv_iload_n hx hb dX0_advance_40 rfl (lv_at hl9 0 rfl) ?_
      refine hp_iald B0 hw k_bs (vp_in_nI (show pk x < 61 by omega) (by decide)) dX0_advance_41 ?_
      refine hp_c (v := (nI (sa (pk x)))) (nf_at (nI_clamp (by omega))) ?_
      refine lv_iload_n hx hb dX0_advance_42 rfl (lv_at hl9 1 rfl) ?_
      refine lv_icmp_ne (tgt := 52) hx hb dX0_advance_43 (by decide) (fun c9 => ?_) (fun c9 => ?_)
      · refine lv_aload_n hx hb dX0_advance_52 rfl (lv_at hl9 2 rfl) ?_
        refine hp_get B0 hw 0 rfl in_X0 k_bu 2 (by decide) qF_X0_18 rfl dX0_advance_53 ?_
        refine lv_iload_n hx hb dX0_advance_56 rfl (lv_at hl9 1 rfl) ?_
        refine hp_zald B0 hw k_bh (vp_in_nI (show x < 240 by omega) (by decide)) dX0_advance_57 ?_
        refine hp_c (v := (gh x)) (congrArg gh (nI_clamp (by omega))) ?_
        refine lv_if_ne (tgt := 71) hx hb dX0_advance_58 (by decide) (fun _ => ?_) (fun c9 => absurd c9 c2)
        refine lv_aload_n hx hb dX0_advance_71 rfl (lv_at hl9 2 rfl) ?_
        refine lv_iload_n hx hb dX0_advance_72 rfl (lv_at hl9 1 rfl) ?_
        refine lv_iconst (v := 1) hx hb dX0_advance_73 (by decide) ?_
        refine lv_iadd hx hb dX0_advance_74 ?_
        refine hp_c (v := (nI (x + 1))) (nI_1 x) ?_
        refine hp_put (fs1 := [.ref bs, .ref bp, .ref bh, .ref bf, .ref bl, .ref bg, .int (nI n), .int (nI cg), .int (nI (x + 1))]) (ty := .int) B0 hw hS 0 rfl in_X0 tyX0 tyX0_ok nmX0 k_bu 8 (by decide) qF_X0_38 rfl (by decide +kernel) rfl rfl (Nat.le_of_ble_eq_true rfl) rfl dX0_advance_75 (fun H locs f10 ef10 hw hS => ?_)
        have h11 : f10 bu = some (.inr (0, [.ref bs, .ref bp, .ref bh, .ref bf, .ref bl, .ref bg, .int (nI n), .int (nI cg), .int (nI (x + 1))])) := by rw [ef10, va_up_self]
        refine lv_iconst (v := 1) hx hb dX0_advance_78 (by decide) ?_
        have n13 : bg ≠ bu := hne k_bg k_bu (Nat.ne_of_beq_eq_false rfl)
        have h12 : f10 bg = some (.inl (cI G, 60, .inl (nf gv))) := by rw [ef10, va_up_ne _ _ n13]; exact k_bg
        exact hp_zret (v := 1) B0 hw hS hr ⟨Nat.le_of_ble_eq_true rfl, Nat.le_of_ble_eq_true rfl⟩ (rfl) dX0_advance_79 (Or.inl ⟨rfl, _, _, _, (by unfold bStep; rw [if_pos hxa, if_neg (fun h9 => c9 (congrArg nI h9.2)), if_neg (fun h9 => c2 h9.1)]), h11, h12, (show hEq [bu, bg] f f10 from (by rw [ef10]; exact hEq.up List.mem_cons_self))⟩)
      · refine lv_aload_n hx hb dX0_advance_46 rfl (lv_at hl9 2 rfl) ?_
        refine lv_iload_n hx hb dX0_advance_47 rfl (lv_at hl9 0 rfl) ?_
        refine hp_V (ci := 0) (As := [.int (nI (pk x))]) (rest := []) B0 hw hS (c_X0_advFirst hl G f bu bs bp bh bf bl bg n a cg x sa pk fl gv gh gl k_bu k_bs k_bh k_bl k_bg  hB9 hxa ((nI_eq (by omega) (by omega)).mp c9) c2) mV_X0_advanceFromFirst qM_X0_55 rfl k_bu rfl rfl hl9.1 (Nat.le_of_ble_eq_true rfl) ⟨⟨Nat.le_of_ble_eq_true rfl, Nat.le_of_ble_eq_true rfl⟩, Nat.le_of_ble_eq_true rfl, Nat.le_of_ble_eq_true rfl⟩ dX0_advance_48 (fun E ce q9 f14 H locs hPX hw hS hce hcv hcl => ?_) (fun v f14 H locs hP hw hS => ?_)
        · exact hPX.elim
        · rcases hP with ⟨ev9, hP⟩ | ⟨ev9, efw, hst9⟩
          · subst ev9
            obtain ⟨cgc15, x16, g17, t18, h19, i20, k21⟩ := hP
            refine W.eq (g2 := F0 m 51 ls [.int 1]) rfl ?_
            exact hp_zret (v := 1) B0 hw hS hr ⟨Nat.le_of_ble_eq_true rfl, Nat.le_of_ble_eq_true rfl⟩ (rfl) dX0_advance_51 (Or.inl ⟨rfl, _, _, _, t18, h19, i20, (show hEq [bu, bg] f f14 from (hEq.mono k21 (fun _ h9 => h9)))⟩)
          · subst ev9
            rw [efw] at hw
            refine W.eq (g2 := F0 m 51 ls [.int 0]) rfl ?_
            exact hp_zret (v := 0) B0 hw hS hr ⟨Nat.le_of_ble_eq_true rfl, Nat.le_of_ble_eq_true rfl⟩ (rfl) dX0_advance_51 (Or.inr ⟨rfl, rfl, hst9⟩)
  · refine lv_iconst (v := 0) hx hb dX0_advance_18 (by decide) ?_
    exact hp_zret (v := 0) B0 hw hS hr ⟨Nat.le_of_ble_eq_true rfl, Nat.le_of_ble_eq_true rfl⟩ (rfl) dX0_advance_19 (Or.inr ⟨rfl, rfl, (by unfold bStep; rw [if_neg (fun h9 => c1 (nI_lt h9 (by omega)))])⟩)

set_option maxHeartbeats 4000000 in
set_option maxRecDepth 100000 in
theorem c_X0_takePiece {l : Launch} (hl : l.stackTraces = false) (G : hG) (f : hM) (bu bs bp bh bf bl bg : Nat) (n a cg x : Nat) (sa pk fl gv : Nat → Nat) (gh gl : Nat → Int32) (k_bu : f bu = some (.inr (0, [.ref bs, .ref bp, .ref bh, .ref bf, .ref bl, .ref bg, .int (nI n), .int (nI cg), .int (nI x)]))) (k_bf : f bf = some (.inl (cI G, 3, .inl (nf fl)))) (o : Int32) (hop : vp_in o 3) : CT l yX0_takePiece (.code yX0_takePiece cX0_takePiece 3 (some .int)) 0 0 0 0 G [.ref bu, .int o] f (fun v f1 => v = some (.int (nI (fl o.toNatClampNeg))) ∧ f1 bf = some (.inl (cI G, 3, .inl (nf (va_up fl o.toNatClampNeg (fl o.toNatClampNeg + 3))))) ∧ hEq [bf] f f1) (fun E f1 => False) := by
  refine hp_start hl (own := RX0) (by decide) rfl (Nat.le_of_ble_eq_true rfl) ?_
  intro p e s m args below meth c B0 hr hnm hout hw hS ls hl9
  have hx := B0.1
  have hb := B0.2.1
  have hl9 : lv_has ls 3 [(0, .ref bu), (1, .int o)] := hl9
  refine lv_aload_n hx hb dX0_takePiece_0 rfl (lv_at hl9 0 rfl) ?_
  refine hp_get B0 hw 0 rfl in_X0 k_bu 3 (by decide) qF_X0_22 rfl dX0_takePiece_1 ?_
  refine lv_iload_n hx hb dX0_takePiece_4 rfl (lv_at hl9 1 rfl) ?_
  refine hp_iald B0 hw k_bf hop dX0_takePiece_5 ?_
  refine hp_c (v := (nI (fl o.toNatClampNeg))) (rfl) ?_
  refine lv_istore_n (lv' := [(2, .int (nI (fl o.toNatClampNeg))), (0, .ref bu), (1, .int o)]) hx hb dX0_takePiece_6 rfl hl9 (by decide) rfl (fun ls hl9 => ?_)
  refine lv_aload_n hx hb dX0_takePiece_7 rfl (lv_at hl9 1 rfl) ?_
  refine hp_get B0 hw 0 rfl in_X0 k_bu 3 (by decide) qF_X0_22 rfl dX0_takePiece_8 ?_
  refine lv_iload_n hx hb dX0_takePiece_11 rfl (lv_at hl9 2 rfl) ?_
  refine lv_iload_n hx hb dX0_takePiece_12 rfl (lv_at hl9 0 rfl) ?_
  refine lv_iconst (v := 3) hx hb dX0_takePiece_13 (by decide) ?_
  refine lv_iadd hx hb dX0_takePiece_14 ?_
  refine hp_c (v := (nI (fl o.toNatClampNeg + 3))) (by rw [show (3 : Int32) = nI 3 from rfl, nI_add]) ?_
  refine hp_iast B0 hw hS k_bf hop dX0_takePiece_15 (fun H locs f1 ef1 hw hS => ?_)
  rw [show (upd (nf fl) (o : Int32).toNatClampNeg (nI (fl o.toNatClampNeg + 3)) : Nat → Int32) = (nf (va_up fl o.toNatClampNeg (fl o.toNatClampNeg + 3))) from nf_up _ _ _] at ef1
  have h2 : f1 bf = some (.inl (cI G, 3, .inl (nf (va_up fl o.toNatClampNeg (fl o.toNatClampNeg + 3))))) := by rw [ef1, va_up_self]
  refine lv_iload_n hx hb dX0_takePiece_16 rfl (lv_at hl9 0 rfl) ?_
  exact hp_iret (v := (nI (fl o.toNatClampNeg))) B0 hw hS hr ⟨Nat.le_of_ble_eq_true rfl, Nat.le_of_ble_eq_true rfl⟩ dX0_takePiece_17 (⟨rfl, h2, (show hEq [bf] f f1 from (by rw [ef1]; exact hEq.up List.mem_cons_self))⟩)

set_option maxHeartbeats 4000000 in
set_option maxRecDepth 100000 in
theorem c_X0_hasPieceOn {l : Launch} (hl : l.stackTraces = false) (G : hG) (f : hM) (bu bs bp bh bf bl bg : Nat) (n a cg x : Nat) (sa pk fl gv : Nat → Nat) (gh gl : Nat → Int32) (k_bu : f bu = some (.inr (0, [.ref bs, .ref bp, .ref bh, .ref bf, .ref bl, .ref bg, .int (nI n), .int (nI cg), .int (nI x)]))) (k_bs : f bs = some (.inl (cI G, 61, .inl (nf sa)))) (k_bf : f bf = some (.inl (cI G, 3, .inl (nf fl)))) (hB9 : BOK n a cg x sa pk) (o : Int32) (hop : vp_in o 3) (hfl : fl o.toNatClampNeg < 300) : CT l yX0_hasPieceOn (.code yX0_hasPieceOn cX0_hasPieceOn 2 (some .boolean)) 0 0 0 0 G [.ref bu, .int o] f (fun v f1 => f1 = f ∧ ((v = some (.int 1) ∧ fl o.toNatClampNeg < a) ∨ (v = some (.int 0) ∧ ¬ fl o.toNatClampNeg < a))) (fun E f1 => False) := by
  refine hp_start hl (own := RX0) (by decide) rfl (Nat.le_of_ble_eq_true rfl) ?_
  intro p e s m args below meth c B0 hr hnm hout hw hS ls hl9
  have hx := B0.1
  have hb := B0.2.1
  have hl9 : lv_has ls 2 [(0, .ref bu), (1, .int o)] := hl9
  have hq3 := hB9.a240
  have hq4 := hB9.1
  refine lv_aload_n hx hb dX0_hasPieceOn_0 rfl (lv_at hl9 0 rfl) ?_
  refine hp_get B0 hw 0 rfl in_X0 k_bu 3 (by decide) qF_X0_22 rfl dX0_hasPieceOn_1 ?_
  refine lv_iload_n hx hb dX0_hasPieceOn_4 rfl (lv_at hl9 1 rfl) ?_
  refine hp_iald B0 hw k_bf hop dX0_hasPieceOn_5 ?_
  refine hp_c (v := (nI (fl o.toNatClampNeg))) (rfl) ?_
  refine lv_aload_n hx hb dX0_hasPieceOn_6 rfl (lv_at hl9 0 rfl) ?_
  refine hp_get B0 hw 0 rfl in_X0 k_bu 0 (by decide) qF_X0_9 rfl dX0_hasPieceOn_7 ?_
  refine lv_aload_n hx hb dX0_hasPieceOn_10 rfl (lv_at hl9 0 rfl) ?_
  refine hp_get B0 hw 0 rfl in_X0 k_bu 6 (by decide) qF_X0_31 rfl dX0_hasPieceOn_11 ?_
  refine hp_iald B0 hw k_bs (vp_in_nI (show n < 61 by omega) (by decide)) dX0_hasPieceOn_14 ?_
  refine hp_c (v := (nI a)) (((nf_at (nI_clamp (by omega))).trans (congrArg nI hB9.2.2.1))) ?_
  refine lv_icmp_ge (tgt := 22) hx hb dX0_hasPieceOn_15 (by decide) (fun c1 => ?_) (fun c1 => ?_)
  · refine lv_iconst (v := 0) hx hb dX0_hasPieceOn_22 (by decide) ?_
    exact hp_zret (v := 0) B0 hw hS hr ⟨Nat.le_of_ble_eq_true rfl, Nat.le_of_ble_eq_true rfl⟩ (rfl) dX0_hasPieceOn_23 (⟨rfl, Or.inr ⟨rfl, fun h9 => nI_ge h9 (by omega) c1⟩⟩)
  · refine lv_iconst (v := 1) hx hb dX0_hasPieceOn_18 (by decide) ?_
    refine lv_goto (tgt := 23) hx hb dX0_hasPieceOn_19 (by decide) ?_
    exact hp_zret (v := 1) B0 hw hS hr ⟨Nat.le_of_ble_eq_true rfl, Nat.le_of_ble_eq_true rfl⟩ (rfl) dX0_hasPieceOn_23 (⟨rfl, Or.inl ⟨rfl, Nat.lt_of_not_le (fun h9 => c1 (nI_le h9 (by omega)))⟩⟩)

set_option maxHeartbeats 4000000 in
set_option maxRecDepth 100000 in
theorem c_X0_bring {l : Launch} (hl : l.stackTraces = false) (G : hG) (f : hM) (bu bs bp bh bf bl bg : Nat) (n a cg x : Nat) (sa pk fl gv : Nat → Nat) (gh gl : Nat → Int32) (k_bu : f bu = some (.inr (0, [.ref bs, .ref bp, .ref bh, .ref bf, .ref bl, .ref bg, .int (nI n), .int (nI cg), .int (nI x)]))) (k_bs : f bs = some (.inl (cI G, 61, .inl (nf sa)))) (k_bp : f bp = some (.inl (cI G, 240, .inl (nf pk)))) (k_bh : f bh = some (.inl (cZ G, 240, .inl gh))) (k_bf : f bf = some (.inl (cI G, 3, .inl (nf fl)))) (k_bl : f bl = some (.inl (cI G, 3, .inl gl))) (k_bg : f bg = some (.inl (cI G, 60, .inl (nf gv)))) (hB9 : BOK n a cg x sa pk) (nd_bh_bp : bh ≠ bp) (nd_bf_bl : bf ≠ bl) (o : Int32) (hop : vp_in o 3) (hpl : fl o.toNatClampNeg < a) : CT l yX0_bring (.code yX0_bring cX0_bring 5 (some .int)) 4 81 0 0 G [.ref bu, .int o] f (fun v f1 => ∃ (c1 x1 : Nat) (gv1 : Nat → Nat), bRun a sa pk (upd gh (fl o.toNatClampNeg) 1) (bnd (upd gl o.toNatClampNeg (nI (fl o.toNatClampNeg)))) 240 cg x gv = (c1, x1, gv1) ∧ BOK n a c1 x1 sa pk ∧ v = some (.int (nI c1 - nI cg)) ∧ f1 bu = some (.inr (0, [.ref bs, .ref bp, .ref bh, .ref bf, .ref bl, .ref bg, .int (nI n), .int (nI c1), .int (nI x1)])) ∧ f1 bg = some (.inl (cI G, 60, .inl (nf gv1))) ∧ f1 bh = some (.inl (cZ G, 240, .inl (upd gh (fl o.toNatClampNeg) 1))) ∧ f1 bl = some (.inl (cI G, 3, .inl (upd gl o.toNatClampNeg (nI (fl o.toNatClampNeg))))) ∧ f1 bf = some (.inl (cI G, 3, .inl (nf (va_up fl o.toNatClampNeg (fl o.toNatClampNeg + 3))))) ∧ hEq [bu, bg, bh, bl, bf] f f1) (fun E f1 => False) := by
  refine hp_start hl (own := RX0) (by decide) rfl (Nat.le_of_ble_eq_true rfl) ?_
  intro p e s m args below meth c B0 hr hnm hout hw hS ls hl9
  have hx := B0.1
  have hb := B0.2.1
  have hl9 : lv_has ls 5 [(0, .ref bu), (1, .int o)] := hl9
  have hq3 := hB9.a240
  have hq4 := hB9.1
  refine lv_aload_n hx hb dX0_bring_0 rfl (lv_at hl9 0 rfl) ?_
  refine hp_get B0 hw 0 rfl in_X0 k_bu 7 (by decide) qF_X0_35 rfl dX0_bring_1 ?_
  refine lv_istore_n (lv' := [(2, .int (nI cg)), (0, .ref bu), (1, .int o)]) hx hb dX0_bring_4 rfl hl9 (by decide) rfl (fun ls hl9 => ?_)
  refine lv_aload_n hx hb dX0_bring_5 rfl (lv_at hl9 1 rfl) ?_
  refine lv_iload_n hx hb dX0_bring_6 rfl (lv_at hl9 2 rfl) ?_
  refine hp_V (ci := 0) (As := [.int o]) (rest := []) B0 hw hS (c_X0_takePiece hl G f bu bs bp bh bf bl bg n a cg x sa pk fl gv gh gl k_bu k_bf  o hop) mV_X0_takePiece qM_X0_47 rfl k_bu rfl rfl hl9.1 (Nat.le_of_ble_eq_true rfl) ⟨⟨Nat.le_of_ble_eq_true rfl, Nat.le_of_ble_eq_true rfl⟩, Nat.le_of_ble_eq_true rfl, Nat.le_of_ble_eq_true rfl⟩ dX0_bring_7 (fun E ce q9 f1 H locs hPX hw hS hce hcv hcl => ?_) (fun v f1 H locs hP hw hS => ?_)
  · exact hPX.elim
  · obtain ⟨ev9, h2, k3⟩ := hP
    subst ev9
    refine W.eq (g2 := F0 m 10 ls [.int (nI (fl o.toNatClampNeg))]) rfl ?_
    refine lv_istore_n (lv' := [(3, .int (nI (fl o.toNatClampNeg))), (2, .int (nI cg)), (0, .ref bu), (1, .int o)]) hx hb dX0_bring_10 rfl hl9 (by decide) rfl (fun ls hl9 => ?_)
    refine lv_aload_n hx hb dX0_bring_11 rfl (lv_at hl9 2 rfl) ?_
    have n5 : bu ≠ bf := hne k_bu k_bf (Nat.ne_of_beq_eq_false rfl)
    have h4 : f1 bu = some (.inr (0, [.ref bs, .ref bp, .ref bh, .ref bf, .ref bl, .ref bg, .int (nI n), .int (nI cg), .int (nI x)])) := (hEq.k k3) _ _ k_bu (ninc n5 nin0)
    refine hp_get B0 hw 0 rfl in_X0 h4 2 (by decide) qF_X0_18 rfl dX0_bring_12 ?_
    refine lv_iload_n hx hb dX0_bring_15 rfl (lv_at hl9 0 rfl) ?_
    refine lv_iconst (v := 1) hx hb dX0_bring_16 (by decide) ?_
    have n7 : bh ≠ bf := hneL k_bh k_bf (Nat.ne_of_beq_eq_false rfl)
    have h6 : f1 bh = some (.inl (cZ G, 240, .inl gh)) := (hEq.k k3) _ _ k_bh (ninc n7 nin0)
    refine hp_zast B0 hw hS h6 (vp_in_nI (show fl o.toNatClampNeg < 240 by omega) (by decide)) dX0_bring_17 (fun H locs f8 ef8 hw hS => ?_)
    rw [show (upd gh ((nI (fl o.toNatClampNeg)) : Int32).toNatClampNeg (vp_nar .boolean 1) : Nat → Int32) = (upd gh (fl o.toNatClampNeg) 1) from (by rw [nI_clamp (by omega)]; rfl)] at ef8
    have h9 : f8 bh = some (.inl (cZ G, 240, .inl (upd gh (fl o.toNatClampNeg) 1))) := by rw [ef8, va_up_self]
    refine lv_aload_n hx hb dX0_bring_18 rfl (lv_at hl9 2 rfl) ?_
    have n11 : bu ≠ bh := hne k_bu k_bh (Nat.ne_of_beq_eq_false rfl)
    have h10 : f8 bu = some (.inr (0, [.ref bs, .ref bp, .ref bh, .ref bf, .ref bl, .ref bg, .int (nI n), .int (nI cg), .int (nI x)])) := by rw [ef8, va_up_ne _ _ n11]; exact h4
    refine hp_get B0 hw 0 rfl in_X0 h10 4 (by decide) qF_X0_25 rfl dX0_bring_19 ?_
    refine lv_iload_n hx hb dX0_bring_22 rfl (lv_at hl9 3 rfl) ?_
    refine lv_iload_n hx hb dX0_bring_23 rfl (lv_at hl9 0 rfl) ?_
    have h12 : f1 bl = some (.inl (cI G, 3, .inl gl)) := (hEq.k k3) _ _ k_bl (ninc (Ne.symm nd_bf_bl) nin0)
    have n14 : bl ≠ bh := hneL k_bl k_bh (Nat.ne_of_beq_eq_false rfl)
    have h13 : f8 bl = some (.inl (cI G, 3, .inl gl)) := by rw [ef8, va_up_ne _ _ n14]; exact h12
    refine hp_iast B0 hw hS h13 hop dX0_bring_24 (fun H locs f15 ef15 hw hS => ?_)
    rw [show (upd gl (o : Int32).toNatClampNeg (nI (fl o.toNatClampNeg)) : Nat → Int32) = (upd gl o.toNatClampNeg (nI (fl o.toNatClampNeg))) from rfl] at ef15
    have h16 : f15 bl = some (.inl (cI G, 3, .inl (upd gl o.toNatClampNeg (nI (fl o.toNatClampNeg))))) := by rw [ef15, va_up_self]
    refine lv_aload_n hx hb dX0_bring_25 rfl (lv_at hl9 2 rfl) ?_
    have n18 : bu ≠ bl := hne k_bu k_bl (Nat.ne_of_beq_eq_false rfl)
    have h17 : f15 bu = some (.inr (0, [.ref bs, .ref bp, .ref bh, .ref bf, .ref bl, .ref bg, .int (nI n), .int (nI cg), .int (nI x)])) := by rw [ef15, va_up_ne _ _ n18]; exact h10
    refine hp_get B0 hw 0 rfl in_X0 h17 2 (by decide) qF_X0_18 rfl dX0_bring_26 ?_
    have h19 : f15 bh = some (.inl (cZ G, 240, .inl (upd gh (fl o.toNatClampNeg) 1))) := by rw [ef15, va_up_ne _ _ (Ne.symm n14)]; exact h9
    refine hp_alenZ B0 hw h19 (v := 240) (by decide) dX0_bring_29 ?_
    refine lv_istore (lv' := [(4, .int 240), (3, .int (nI (fl o.toNatClampNeg))), (2, .int (nI cg)), (0, .ref bu), (1, .int o)]) hx hb dX0_bring_30 hl9 (by decide) rfl (fun ls hl9 => ?_)
    have n21 : bs ≠ bf := hneL k_bs k_bf (Nat.ne_of_beq_eq_false rfl)
    have h20 : f1 bs = some (.inl (cI G, 61, .inl (nf sa))) := (hEq.k k3) _ _ k_bs (ninc n21 nin0)
    have n23 : bs ≠ bh := hneL k_bs k_bh (Nat.ne_of_beq_eq_false rfl)
    have h22 : f8 bs = some (.inl (cI G, 61, .inl (nf sa))) := by rw [ef8, va_up_ne _ _ n23]; exact h20
    have n25 : bs ≠ bl := hneL k_bs k_bl (Nat.ne_of_beq_eq_false rfl)
    have h24 : f15 bs = some (.inl (cI G, 61, .inl (nf sa))) := by rw [ef15, va_up_ne _ _ n25]; exact h22
    have n27 : bp ≠ bf := hneL k_bp k_bf (Nat.ne_of_beq_eq_false rfl)
    have h26 : f1 bp = some (.inl (cI G, 240, .inl (nf pk))) := (hEq.k k3) _ _ k_bp (ninc n27 nin0)
    have h28 : f8 bp = some (.inl (cI G, 240, .inl (nf pk))) := by rw [ef8, va_up_ne _ _ (Ne.symm nd_bh_bp)]; exact h26
    have n30 : bp ≠ bl := hneL k_bp k_bl (Nat.ne_of_beq_eq_false rfl)
    have h29 : f15 bp = some (.inl (cI G, 240, .inl (nf pk))) := by rw [ef15, va_up_ne _ _ n30]; exact h28
    have h31 : f8 bf = some (.inl (cI G, 3, .inl (nf (va_up fl o.toNatClampNeg (fl o.toNatClampNeg + 3))))) := by rw [ef8, va_up_ne _ _ (Ne.symm n7)]; exact h2
    have h32 : f15 bf = some (.inl (cI G, 3, .inl (nf (va_up fl o.toNatClampNeg (fl o.toNatClampNeg + 3))))) := by rw [ef15, va_up_ne _ _ nd_bf_bl]; exact h31
    have n34 : bg ≠ bf := hneL k_bg k_bf (Nat.ne_of_beq_eq_false rfl)
    have h33 : f1 bg = some (.inl (cI G, 60, .inl (nf gv))) := (hEq.k k3) _ _ k_bg (ninc n34 nin0)
    have n36 : bg ≠ bh := hneL k_bg k_bh (Nat.ne_of_beq_eq_false rfl)
    have h35 : f8 bg = some (.inl (cI G, 60, .inl (nf gv))) := by rw [ef8, va_up_ne _ _ n36]; exact h33
    have n38 : bg ≠ bl := hneL k_bg k_bl (Nat.ne_of_beq_eq_false rfl)
    have h37 : f15 bg = some (.inl (cI G, 60, .inl (nf gv))) := by rw [ef15, va_up_ne _ _ n38]; exact h35
    refine hp_for (nL := 5) (pc := 32) (fun j f9 lv9 => (∃ (c9 x9 : Nat) (gv9 : Nat → Nat), bRun a sa pk (upd gh (fl o.toNatClampNeg) 1) (bnd (upd gl o.toNatClampNeg (nI (fl o.toNatClampNeg)))) (240 - j) c9 x9 gv9 = bRun a sa pk (upd gh (fl o.toNatClampNeg) 1) (bnd (upd gl o.toNatClampNeg (nI (fl o.toNatClampNeg)))) 240 cg x gv ∧ BOK n a c9 x9 sa pk ∧ f9 bu = some (.inr (0, [.ref bs, .ref bp, .ref bh, .ref bf, .ref bl, .ref bg, .int (nI n), .int (nI c9), .int (nI x9)])) ∧ f9 bg = some (.inl (cI G, 60, .inl (nf gv9))) ∧ hEq [bu, bg] f15 f9) ∧ lv9 = [(4, .int (nI (240 - j))), (0, .ref bu), (1, .int o), (2, .int (nI cg)), (3, .int (nI (fl o.toNatClampNeg)))]) 240 (fun j f9 lv9 H locs ls hj hI hw hS hl9 ih => ?_) (fun f9 lv9 H locs ls hI hw hS hl9 => ?_) 240 0 (by decide) f15 _ _ _ ls ⟨⟨_, _, _, rfl, hB9, h17, h37, hEq.rf⟩, rfl⟩ hw hS (lv_sub hl9 [0, 3, 4, 2, 1] rfl)
    · obtain ⟨⟨c9, x9, gv9, hR9, hB8, hb9, hg9, hk9⟩, el9⟩ := hI
      rw [el9] at hl9
      refine lv_iload hx hb dX0_bring_32 (lv_at hl9 0 rfl) ?_
      refine lv_if_le (tgt := 50) hx hb dX0_bring_34 (by decide) (fun c9 => absurd c9 (nI_nle (by omega) (by omega))) (fun _ => ?_)
      refine lv_aload_n hx hb dX0_bring_37 rfl (lv_at hl9 1 rfl) ?_
      have n40 : bs ≠ bg := hneL k_bs k_bg (Nat.ne_of_beq_eq_false rfl)
      have n41 : bs ≠ bu := hne k_bs k_bu (Nat.ne_of_beq_eq_false rfl)
      have h39 : f9 bs = some (.inl (cI G, 61, .inl (nf sa))) := (hEq.k hk9) _ _ h24 (ninc n41 (ninc n40 nin0))
      have n43 : bp ≠ bg := hneL k_bp k_bg (Nat.ne_of_beq_eq_false rfl)
      have n44 : bp ≠ bu := hne k_bp k_bu (Nat.ne_of_beq_eq_false rfl)
      have h42 : f9 bp = some (.inl (cI G, 240, .inl (nf pk))) := (hEq.k hk9) _ _ h29 (ninc n44 (ninc n43 nin0))
      have h45 : f9 bh = some (.inl (cZ G, 240, .inl (upd gh (fl o.toNatClampNeg) 1))) := (hEq.k hk9) _ _ h19 (ninc (Ne.symm n11) (ninc (Ne.symm n36) nin0))
      have h46 : f9 bl = some (.inl (cI G, 3, .inl (upd gl o.toNatClampNeg (nI (fl o.toNatClampNeg))))) := (hEq.k hk9) _ _ h16 (ninc (Ne.symm n18) (ninc (Ne.symm n38) nin0))
      refine hp_V (ci := 0) (As := []) (rest := []) B0 hw hS (c_X0_advance hl G f9 bu bs bp bh bf bl bg n a c9 x9 sa pk (va_up fl o.toNatClampNeg (fl o.toNatClampNeg + 3)) gv9 (upd gh (fl o.toNatClampNeg) 1) (upd gl o.toNatClampNeg (nI (fl o.toNatClampNeg))) hb9 h39 h42 h45 h46 hg9  hB8 ) mV_X0_advance qM_X0_51 rfl hb9 rfl rfl hl9.1 (Nat.le_of_ble_eq_true rfl) ⟨⟨Nat.le_of_ble_eq_true rfl, Nat.le_of_ble_eq_true rfl⟩, Nat.le_of_ble_eq_true rfl, Nat.le_of_ble_eq_true rfl⟩ dX0_bring_38 (fun E ce q9 f47 H locs hPX hw hS hce hcv hcl => ?_) (fun v f47 H locs hP hw hS => ?_)
      · exact hPX.elim
      · rcases hP with ⟨ev9, hP⟩ | ⟨ev9, efw, hst9⟩
        · subst ev9
          obtain ⟨cgc48, x49, g50, t51, h52, i53, k54⟩ := hP
          refine W.eq (g2 := F0 m 41 ls [.int 1]) rfl ?_
          refine lv_if_eq (tgt := 50) hx hb dX0_bring_41 (by decide) (fun c9 => absurd c9 (by decide)) (fun _ => ?_)
          refine lv_iinc (v := (nI (240 - (j + 1)))) (lv' := [(4, .int (nI (240 - (j + 1)))), (0, .ref bu), (1, .int o), (2, .int (nI cg)), (3, .int (nI (fl o.toNatClampNeg)))]) hx hb dX0_bring_44 hl9 (k := 0) rfl (by rw [show 240 - j = (240 - (j + 1)) + 1 by omega]; exact nI_dec _) (by decide) rfl (fun ls hl9 => ?_)
          refine lv_goto (tgt := 32) hx hb dX0_bring_47 (by decide) ?_
          have hR8 : bRun a sa pk (upd gh (fl o.toNatClampNeg) 1) (bnd (upd gl o.toNatClampNeg (nI (fl o.toNatClampNeg)))) (240 - (j + 1)) cgc48 x49 g50 = bRun a sa pk (upd gh (fl o.toNatClampNeg) 1) (bnd (upd gl o.toNatClampNeg (nI (fl o.toNatClampNeg)))) 240 cg x gv := by rw [← hR9, show 240 - j = (240 - (j + 1)) + 1 by omega, bRun_some t51]
          exact ih _ _ H locs ls ⟨⟨_, _, _, hR8, (hB8.step t51).1, h52, i53, hk9.tr k54⟩, rfl⟩ hw hS (lv_sub hl9 [0, 1, 2, 3, 4] rfl)
        · subst ev9
          rw [efw] at hw
          refine W.eq (g2 := F0 m 41 ls [.int 0]) rfl ?_
          refine lv_if_eq (tgt := 50) hx hb dX0_bring_41 (by decide) (fun _ => ?_) (fun c9 => absurd (by decide) c9)
          refine lv_aload_n hx hb dX0_bring_50 rfl (lv_at hl9 1 rfl) ?_
          refine hp_get B0 hw 0 rfl in_X0 hb9 7 (by decide) qF_X0_35 rfl dX0_bring_51 ?_
          refine lv_iload_n hx hb dX0_bring_54 rfl (lv_at hl9 3 rfl) ?_
          refine lv_isub hx hb dX0_bring_55 ?_
          have hR8 := hR9.symm.trans (bRun_none hst9 _)
          have h55 : f9 bf = some (.inl (cI G, 3, .inl (nf (va_up fl o.toNatClampNeg (fl o.toNatClampNeg + 3))))) := (hEq.k hk9) _ _ h32 (ninc (Ne.symm n5) (ninc (Ne.symm n34) nin0))
          exact hp_iret (v := ((nI c9) - (nI cg))) B0 hw hS hr ⟨Nat.le_of_ble_eq_true rfl, Nat.le_of_ble_eq_true rfl⟩ dX0_bring_56 (⟨_, _, _, hR8, hB8, rfl, hb9, hg9, h45, h46, h55, ((show hEq [bu, bg, bh, bl, bf] f f1 from (hEq.mono k3 (sub_cons (List.mem_cons_of_mem _ (List.mem_cons_of_mem _ (List.mem_cons_of_mem _ (List.mem_cons_of_mem _ List.mem_cons_self)))) sub_nil))).tr ((show hEq [bu, bg, bh, bl, bf] f1 f8 from (by rw [ef8]; exact hEq.up (List.mem_cons_of_mem _ (List.mem_cons_of_mem _ List.mem_cons_self)))).tr ((show hEq [bu, bg, bh, bl, bf] f8 f15 from (by rw [ef15]; exact hEq.up (List.mem_cons_of_mem _ (List.mem_cons_of_mem _ (List.mem_cons_of_mem _ List.mem_cons_self))))).tr (show hEq [bu, bg, bh, bl, bf] f15 f9 from (hEq.mono hk9 (sub_cons List.mem_cons_self (sub_cons (List.mem_cons_of_mem _ List.mem_cons_self) sub_nil)))))))⟩)
    · obtain ⟨⟨c9, x9, gv9, hR9, hB8, hb9, hg9, hk9⟩, el9⟩ := hI
      rw [el9] at hl9
      refine lv_iload hx hb dX0_bring_32 (lv_at hl9 0 rfl) ?_
      refine lv_if_le (tgt := 50) hx hb dX0_bring_34 (by decide) (fun _ => ?_) (fun c9 => absurd (by decide) c9)
      refine lv_aload_n hx hb dX0_bring_50 rfl (lv_at hl9 1 rfl) ?_
      refine hp_get B0 hw 0 rfl in_X0 hb9 7 (by decide) qF_X0_35 rfl dX0_bring_51 ?_
      refine lv_iload_n hx hb dX0_bring_54 rfl (lv_at hl9 3 rfl) ?_
      refine lv_isub hx hb dX0_bring_55 ?_
      have hR8 := hR9.symm
      have h56 : f9 bh = some (.inl (cZ G, 240, .inl (upd gh (fl o.toNatClampNeg) 1))) := (hEq.k hk9) _ _ h19 (ninc (Ne.symm n11) (ninc (Ne.symm n36) nin0))
      have h57 : f9 bl = some (.inl (cI G, 3, .inl (upd gl o.toNatClampNeg (nI (fl o.toNatClampNeg))))) := (hEq.k hk9) _ _ h16 (ninc (Ne.symm n18) (ninc (Ne.symm n38) nin0))
      have h58 : f9 bf = some (.inl (cI G, 3, .inl (nf (va_up fl o.toNatClampNeg (fl o.toNatClampNeg + 3))))) := (hEq.k hk9) _ _ h32 (ninc (Ne.symm n5) (ninc (Ne.symm n34) nin0))
      exact hp_iret (v := ((nI c9) - (nI cg))) B0 hw hS hr ⟨Nat.le_of_ble_eq_true rfl, Nat.le_of_ble_eq_true rfl⟩ dX0_bring_56 (⟨_, _, _, hR8, hB8, rfl, hb9, hg9, h56, h57, h58, ((show hEq [bu, bg, bh, bl, bf] f f1 from (hEq.mono k3 (sub_cons (List.mem_cons_of_mem _ (List.mem_cons_of_mem _ (List.mem_cons_of_mem _ (List.mem_cons_of_mem _ List.mem_cons_self)))) sub_nil))).tr ((show hEq [bu, bg, bh, bl, bf] f1 f8 from (by rw [ef8]; exact hEq.up (List.mem_cons_of_mem _ (List.mem_cons_of_mem _ List.mem_cons_self)))).tr ((show hEq [bu, bg, bh, bl, bf] f8 f15 from (by rw [ef15]; exact hEq.up (List.mem_cons_of_mem _ (List.mem_cons_of_mem _ (List.mem_cons_of_mem _ List.mem_cons_self))))).tr (show hEq [bu, bg, bh, bl, bf] f15 f9 from (hEq.mono hk9 (sub_cons List.mem_cons_self (sub_cons (List.mem_cons_of_mem _ List.mem_cons_self) sub_nil)))))))⟩)

set_option maxHeartbeats 4000000 in
set_option maxRecDepth 100000 in
theorem c_X0_addPacket {l : Launch} (hl : l.stackTraces = false) (G : hG) (f : hM) (bu bs bp bh bf bl bg : Nat) (n a cg x : Nat) (sa pk fl gv : Nat → Nat) (gh gl : Nat → Int32) (k_bu : f bu = some (.inr (0, [.ref bs, .ref bp, .ref bh, .ref bf, .ref bl, .ref bg, .int (nI n), .int (nI cg), .int (nI x)]))) (k_bs : f bs = some (.inl (cI G, 61, .inl (nf sa)))) (k_bp : f bp = some (.inl (cI G, 240, .inl (nf pk)))) (hB9 : BOK n a cg x sa pk) (hn : n < 60) (k : Nat) (hk1 : 1 ≤ k) (hk4 : k ≤ 4) : CT l yX0_addPacket (.code yX0_addPacket cX0_addPacket 4 (some .int)) 0 0 0 0 G [.ref bu, .int (nI k)] f (fun v f1 => v = some (.int (nI a)) ∧ f1 bu = some (.inr (0, [.ref bs, .ref bp, .ref bh, .ref bf, .ref bl, .ref bg, .int (nI (n + 1)), .int (nI cg), .int (nI x)])) ∧ f1 bp = some (.inl (cI G, 240, .inl (nf (pkA pk n a k)))) ∧ f1 bs = some (.inl (cI G, 61, .inl (nf (va_up sa (n + 1) (a + k))))) ∧ hEq [bu, bp, bs] f f1) (fun E f1 => False) := by
  refine hp_start hl (own := RX0) (by decide) rfl (Nat.le_of_ble_eq_true rfl) ?_
  intro p e s m args below meth c B0 hr hnm hout hw hS ls hl9
  have hx := B0.1
  have hb := B0.2.1
  have hl9 : lv_has ls 4 [(0, .ref bu), (1, .int (nI k))] := hl9
  have hq3 := hB9.a4
  have hq4 := hB9.1
  refine lv_aload_n hx hb dX0_addPacket_0 rfl (lv_at hl9 0 rfl) ?_
  refine hp_get B0 hw 0 rfl in_X0 k_bu 0 (by decide) qF_X0_9 rfl dX0_addPacket_1 ?_
  refine lv_aload_n hx hb dX0_addPacket_4 rfl (lv_at hl9 0 rfl) ?_
  refine hp_get B0 hw 0 rfl in_X0 k_bu 6 (by decide) qF_X0_31 rfl dX0_addPacket_5 ?_
  refine hp_iald B0 hw k_bs (vp_in_nI (show n < 61 by omega) (by decide)) dX0_addPacket_8 ?_
  refine hp_c (v := (nI a)) (((nf_at (nI_clamp (by omega))).trans (congrArg nI hB9.2.2.1))) ?_
  refine lv_istore_n (lv' := [(2, .int (nI a)), (0, .ref bu), (1, .int (nI k))]) hx hb dX0_addPacket_9 rfl hl9 (by decide) rfl (fun ls hl9 => ?_)
  refine lv_iload_n hx hb dX0_addPacket_10 rfl (lv_at hl9 0 rfl) ?_
  refine lv_istore_n (lv' := [(3, .int (nI a)), (2, .int (nI a)), (0, .ref bu), (1, .int (nI k))]) hx hb dX0_addPacket_11 rfl hl9 (by decide) rfl (fun ls hl9 => ?_)
  refine hp_for (nL := 4) (pc := 12) (fun j f9 lv9 => f9 = va_up f bp (some (.inl (cI G, 240, .inl (nf (pkA pk n a j))))) ∧ lv9 = [(3, .int (nI (a + j))), (0, .ref bu), (1, .int (nI k)), (2, .int (nI a))]) k (fun j f9 lv9 H locs ls hj hI hw hS hl9 ih => ?_) (fun f9 lv9 H locs ls hI hw hS hl9 => ?_) k 0 (by omega) f _ _ _ ls ⟨va_up_id (by rw [pkA_0]; exact k_bp), rfl⟩ hw hS (lv_sub hl9 [0, 2, 3, 1] rfl)
  · obtain ⟨efq, el9⟩ := hI
    rw [el9] at hl9
    have h1 : f9 bp = some (.inl (cI G, 240, .inl (nf (pkA pk n a j)))) := by rw [efq, va_up_self]
    refine lv_iload_n hx hb dX0_addPacket_12 rfl (lv_at hl9 0 rfl) ?_
    refine lv_iload_n hx hb dX0_addPacket_13 rfl (lv_at hl9 3 rfl) ?_
    refine lv_iload_n hx hb dX0_addPacket_14 rfl (lv_at hl9 2 rfl) ?_
    refine lv_iadd hx hb dX0_addPacket_15 ?_
    refine hp_c (v := (nI (a + k))) (nI_add a k) ?_
    refine lv_icmp_ge (tgt := 35) hx hb dX0_addPacket_16 (by decide) (fun c9 => absurd c9 (nI_ge (by omega) (by omega))) (fun _ => ?_)
    refine lv_aload_n hx hb dX0_addPacket_19 rfl (lv_at hl9 1 rfl) ?_
    have n3 : bu ≠ bp := hne k_bu k_bp (Nat.ne_of_beq_eq_false rfl)
    have h2 : f9 bu = some (.inr (0, [.ref bs, .ref bp, .ref bh, .ref bf, .ref bl, .ref bg, .int (nI n), .int (nI cg), .int (nI x)])) := by rw [efq, va_up_ne _ _ n3]; exact k_bu
    refine hp_get B0 hw 0 rfl in_X0 h2 1 (by decide) qF_X0_15 rfl dX0_addPacket_20 ?_
    refine lv_iload_n hx hb dX0_addPacket_23 rfl (lv_at hl9 0 rfl) ?_
    refine lv_aload_n hx hb dX0_addPacket_24 rfl (lv_at hl9 1 rfl) ?_
    refine hp_get B0 hw 0 rfl in_X0 h2 6 (by decide) qF_X0_31 rfl dX0_addPacket_25 ?_
    refine hp_iast B0 hw hS h1 (vp_in_nI (show a + j < 240 by omega) (by decide)) dX0_addPacket_28 (fun H locs f4 ef4 hw hS => ?_)
    rw [show (upd (nf (pkA pk n a j)) ((nI (a + j)) : Int32).toNatClampNeg (nI n) : Nat → Int32) = (nf (pkA pk n a (j + 1))) from (by rw [nI_clamp (by omega), nf_up, pkA_up])] at ef4
    have e5 : f4 = va_up f bp (some (.inl (cI G, 240, .inl (nf (pkA pk n a (j + 1)))))) := by rw [ef4, efq, bx_uu]
    have h6 : f4 bp = some (.inl (cI G, 240, .inl (nf (pkA pk n a (j + 1))))) := by rw [ef4, va_up_self]
    refine lv_iinc (v := (nI (a + (j + 1)))) (lv' := [(3, .int (nI (a + (j + 1)))), (0, .ref bu), (1, .int (nI k)), (2, .int (nI a))]) hx hb dX0_addPacket_29 hl9 (k := 0) rfl (nI_1 (a + j)) (by decide) rfl (fun ls hl9 => ?_)
    refine lv_goto (tgt := 12) hx hb dX0_addPacket_32 (by decide) ?_
    exact ih _ _ H locs ls ⟨e5, rfl⟩ hw hS (lv_sub hl9 [0, 1, 2, 3] rfl)
  · obtain ⟨efq, el9⟩ := hI
    rw [el9] at hl9
    have h7 : f9 bp = some (.inl (cI G, 240, .inl (nf (pkA pk n a k)))) := by rw [efq, va_up_self]
    refine lv_iload_n hx hb dX0_addPacket_12 rfl (lv_at hl9 0 rfl) ?_
    refine lv_iload_n hx hb dX0_addPacket_13 rfl (lv_at hl9 3 rfl) ?_
    refine lv_iload_n hx hb dX0_addPacket_14 rfl (lv_at hl9 2 rfl) ?_
    refine lv_iadd hx hb dX0_addPacket_15 ?_
    refine hp_c (v := (nI (a + k))) (nI_add a k) ?_
    refine lv_icmp_ge (tgt := 35) hx hb dX0_addPacket_16 (by decide) (fun _ => ?_) (fun c9 => absurd (nI_le (by omega) (by omega)) c9)
    refine lv_aload_n hx hb dX0_addPacket_35 rfl (lv_at hl9 1 rfl) ?_
    refine lv_dup hx hb dX0_addPacket_36 rfl ?_
    have n9 : bu ≠ bp := hne k_bu k_bp (Nat.ne_of_beq_eq_false rfl)
    have h8 : f9 bu = some (.inr (0, [.ref bs, .ref bp, .ref bh, .ref bf, .ref bl, .ref bg, .int (nI n), .int (nI cg), .int (nI x)])) := by rw [efq, va_up_ne _ _ n9]; exact k_bu
    refine hp_get B0 hw 0 rfl in_X0 h8 6 (by decide) qF_X0_31 rfl dX0_addPacket_37 ?_
    refine lv_iconst (v := 1) hx hb dX0_addPacket_40 (by decide) ?_
    refine lv_iadd hx hb dX0_addPacket_41 ?_
    refine hp_c (v := (nI (n + 1))) (nI_1 n) ?_
    refine hp_put (fs1 := [.ref bs, .ref bp, .ref bh, .ref bf, .ref bl, .ref bg, .int (nI (n + 1)), .int (nI cg), .int (nI x)]) (ty := .int) B0 hw hS 0 rfl in_X0 tyX0 tyX0_ok nmX0 h8 6 (by decide) qF_X0_31 rfl (by decide +kernel) rfl rfl (Nat.le_of_ble_eq_true rfl) rfl dX0_addPacket_42 (fun H locs f10 ef10 hw hS => ?_)
    have h11 : f10 bu = some (.inr (0, [.ref bs, .ref bp, .ref bh, .ref bf, .ref bl, .ref bg, .int (nI (n + 1)), .int (nI cg), .int (nI x)])) := by rw [ef10, va_up_self]
    refine lv_aload_n hx hb dX0_addPacket_45 rfl (lv_at hl9 1 rfl) ?_
    refine hp_get B0 hw 0 rfl in_X0 h11 0 (by decide) qF_X0_9 rfl dX0_addPacket_46 ?_
    refine lv_aload_n hx hb dX0_addPacket_49 rfl (lv_at hl9 1 rfl) ?_
    refine hp_get B0 hw 0 rfl in_X0 h11 6 (by decide) qF_X0_31 rfl dX0_addPacket_50 ?_
    refine lv_iload_n hx hb dX0_addPacket_53 rfl (lv_at hl9 3 rfl) ?_
    refine lv_iload_n hx hb dX0_addPacket_54 rfl (lv_at hl9 2 rfl) ?_
    refine lv_iadd hx hb dX0_addPacket_55 ?_
    refine hp_c (v := (nI (a + k))) (nI_add a k) ?_
    have n13 : bs ≠ bp := hneL k_bs k_bp (Nat.ne_of_beq_eq_false rfl)
    have h12 : f9 bs = some (.inl (cI G, 61, .inl (nf sa))) := by rw [efq, va_up_ne _ _ n13]; exact k_bs
    have n15 : bs ≠ bu := hne k_bs k_bu (Nat.ne_of_beq_eq_false rfl)
    have h14 : f10 bs = some (.inl (cI G, 61, .inl (nf sa))) := by rw [ef10, va_up_ne _ _ n15]; exact h12
    refine hp_iast B0 hw hS h14 (vp_in_nI (show n + 1 < 61 by omega) (by decide)) dX0_addPacket_56 (fun H locs f16 ef16 hw hS => ?_)
    rw [show (upd (nf sa) ((nI (n + 1)) : Int32).toNatClampNeg (nI (a + k)) : Nat → Int32) = (nf (va_up sa (n + 1) (a + k))) from (by rw [nI_clamp (by omega), nf_up])] at ef16
    have h17 : f16 bs = some (.inl (cI G, 61, .inl (nf (va_up sa (n + 1) (a + k))))) := by rw [ef16, va_up_self]
    refine lv_iload_n hx hb dX0_addPacket_57 rfl (lv_at hl9 3 rfl) ?_
    have h18 : f16 bu = some (.inr (0, [.ref bs, .ref bp, .ref bh, .ref bf, .ref bl, .ref bg, .int (nI (n + 1)), .int (nI cg), .int (nI x)])) := by rw [ef16, va_up_ne _ _ (Ne.symm n15)]; exact h11
    have h19 : f10 bp = some (.inl (cI G, 240, .inl (nf (pkA pk n a k)))) := by rw [ef10, va_up_ne _ _ (Ne.symm n9)]; exact h7
    have h20 : f16 bp = some (.inl (cI G, 240, .inl (nf (pkA pk n a k)))) := by rw [ef16, va_up_ne _ _ (Ne.symm n13)]; exact h19
    exact hp_iret (v := (nI a)) B0 hw hS hr ⟨Nat.le_of_ble_eq_true rfl, Nat.le_of_ble_eq_true rfl⟩ dX0_addPacket_58 (⟨rfl, h18, h20, h17, ((show hEq [bu, bp, bs] f f9 from (by rw [efq]; exact hEq.up (List.mem_cons_of_mem _ List.mem_cons_self))).tr ((show hEq [bu, bp, bs] f9 f10 from (by rw [ef10]; exact hEq.up List.mem_cons_self)).tr (show hEq [bu, bp, bs] f10 f16 from (by rw [ef16]; exact hEq.up (List.mem_cons_of_mem _ (List.mem_cons_of_mem _ List.mem_cons_self))))))⟩)

