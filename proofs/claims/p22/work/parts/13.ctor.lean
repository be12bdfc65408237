/-- no frame that wasn't one before -/
def NF (f f1 : hM) : Prop := ∀ a k, f1 a = some (.inr (2, k)) → f a = some (.inr (2, k))
theorem NF.rf {f : hM} : NF f f := fun _ _ h => h
theorem NF.tr {f f1 f2 : hM} (h : NF f f1) (h2 : NF f1 f2) : NF f f2 := fun a k q => h a k (h2 a k q)
theorem NF.up {f : hM} {a : Nat} {e : va_E} (h : hTag e ≠ 3) : NF f (va_up f a (some e)) := fun b k q => by
  by_cases z : b = a
  · rw [z, va_up_self] at q; cases q; exact absurd rfl h
  · rw [va_up_ne _ _ z] at q; exact q
theorem hneL0 : True := trivial
set_option maxHeartbeats 4000000 in
set_option maxRecDepth 100000 in
theorem c_X3_init {l : Launch} (hl : l.stackTraces = false) (G : hG) (f : hM) (nr : Nat) (k_nr : f nr = some (.inr (3, [.null, .null, .int 0]))) : CT l yX3_init (.code yX3_init cX3_init 1 none) 1 13 0 0 G [.ref nr] f (fun v f1 => v = none ∧ f1 = f) (fun E f1 => False) := by
  refine hp_start hl (own := RX3) (by decide) rfl (Nat.le_of_ble_eq_true rfl) ?_
  intro p e s m args below meth c B0 hr hnm hout hw hS ls hl9
  have hx := B0.1
  have hb := B0.2.1
  have hl9 : lv_has ls 1 [(0, .ref nr)] := hl9
  refine lv_aload_n hx hb dX3_init_0 rfl (lv_at hl9 0 rfl) ?_
  refine W.objInit hx hb B0.2.2.2.1 (B0.2.2.2.2.1 _ qM_X3_3) (B0.2.2.2.2.1 _ qi_obj) (B0.2.2.2.2.1 _ qc_obj) rfl (by rw [B0.2.2.1]; exact hl9.1) rfl dX3_init_1 (Nat.le_of_ble_eq_true rfl) (Nat.le_of_ble_eq_true rfl) ?_
  refine W.eq (g2 := F0 m 4 ls []) rfl ?_
  exact hp_vret B0 hw hS hr ⟨Nat.le_of_ble_eq_true rfl, Nat.le_of_ble_eq_true rfl⟩ dX3_init_4 (⟨rfl, rfl⟩)

theorem hKeep.none {S : List Nat} {f fj : hM} {q : Nat} (h : hKeep S f fj) (hq : fj q = none) (hn : q ∉ S) : f q = none := by
  cases h9 : f q with
  | none => rfl
  | some e => rw [h q e h9 hn] at hq; cases hq

theorem cl0 : (0 : Int32).toNatClampNeg = 0 := rfl
theorem cl1 : (1 : Int32).toNatClampNeg = 1 := rfl
theorem cl2 : (2 : Int32).toNatClampNeg = 2 := rfl
theorem cl3 : (3 : Int32).toNatClampNeg = 3 := rfl
theorem cl4 : (4 : Int32).toNatClampNeg = 4 := rfl
theorem cl5 : (5 : Int32).toNatClampNeg = 5 := rfl
theorem cl6 : (6 : Int32).toNatClampNeg = 6 := rfl
theorem cl7 : (7 : Int32).toNatClampNeg = 7 := rfl
theorem cl8 : (8 : Int32).toNatClampNeg = 8 := rfl
theorem cl9 : (9 : Int32).toNatClampNeg = 9 := rfl
theorem cl10 : (10 : Int32).toNatClampNeg = 10 := rfl
theorem cl11 : (11 : Int32).toNatClampNeg = 11 := rfl
theorem fill6 (gx : Nat → Int32) (x : Int32) : (upd (upd (upd (upd (upd (upd gx (0 : Int32).toNatClampNeg x) (1 : Int32).toNatClampNeg x) (2 : Int32).toNatClampNeg x) (3 : Int32).toNatClampNeg x) (4 : Int32).toNatClampNeg x) (5 : Int32).toNatClampNeg x) = (fun j => if j < 6 then x else gx j) := by
  funext j
  simp only [upd, cl0, cl1, cl2, cl3, cl4, cl5]
  by_cases h : j < 6
  · rw [if_pos h]
    rcases (show j = 0 ∨ j = 1 ∨ j = 2 ∨ j = 3 ∨ j = 4 ∨ j = 5 by omega) with rfl | rfl | rfl | rfl | rfl | rfl <;> rfl
  · rw [if_neg h]
    rw [if_neg (show ¬ j = 5 by omega)]
    rw [if_neg (show ¬ j = 4 by omega)]
    rw [if_neg (show ¬ j = 3 by omega)]
    rw [if_neg (show ¬ j = 2 by omega)]
    rw [if_neg (show ¬ j = 1 by omega)]
    rw [if_neg (show ¬ j = 0 by omega)]
set_option maxHeartbeats 4000000 in
set_option maxRecDepth 100000 in
theorem c_J7_fill6 {l : Launch} (hl : l.stackTraces = false) (G : hG) (f : hM) (na : Nat) (gx : Nat → Int32) (k_na : f na = some (.inl (cI G, 6, .inl gx))) (x : Int32) : CT l yJ7_fill_53178 (.code yJ7_fill_53178 cJ7_fill_53178 4 none) 0 0 0 0 G [.ref na, .int x] f (fun v f1 => v = none ∧ f1 na = some (.inl (cI G, 6, .inl (fun j => if j < 6 then x else gx j))) ∧ hKeep [na] f f1 ∧ NF f f1) (fun E f1 => False) := by
  refine hp_start hl (own := RJ7) (by decide) rfl (Nat.le_of_ble_eq_true rfl) ?_
  intro p e s m args below meth c B0 hr hnm hout hw hS ls hl9
  have hx := B0.1
  have hb := B0.2.1
  have hl9 : lv_has ls 4 [(0, .ref na), (1, .int x)] := hl9
  refine lv_iconst (v := 0) hx hb dJ7_fill_53178_0 (by decide) ?_
  refine lv_istore_n (lv' := [(2, .int 0), (0, .ref na), (1, .int x)]) hx hb dJ7_fill_53178_1 rfl hl9 (by decide) rfl (fun ls hl9 => ?_)
  refine lv_aload_n hx hb dJ7_fill_53178_2 rfl (lv_at hl9 1 rfl) ?_
  refine hp_alenI B0 hw k_na (v := 6) (by decide) dJ7_fill_53178_3 ?_
  refine lv_istore_n (lv' := [(3, .int 6), (2, .int 0), (0, .ref na), (1, .int x)]) hx hb dJ7_fill_53178_4 rfl hl9 (by decide) rfl (fun ls hl9 => ?_)
  refine lv_iload_n hx hb dJ7_fill_53178_5 rfl (lv_at hl9 1 rfl) ?_
  refine lv_iload_n hx hb dJ7_fill_53178_6 rfl (lv_at hl9 0 rfl) ?_
  refine lv_icmp_ge (tgt := 20) hx hb dJ7_fill_53178_7 (by decide) (fun c9 => absurd c9 (by decide)) (fun _ => ?_)
  refine lv_aload_n hx hb dJ7_fill_53178_10 rfl (lv_at hl9 2 rfl) ?_
  refine lv_iload_n hx hb dJ7_fill_53178_11 rfl (lv_at hl9 1 rfl) ?_
  refine lv_iload_n hx hb dJ7_fill_53178_12 rfl (lv_at hl9 3 rfl) ?_
  refine hp_iast B0 hw hS k_na (by unfold vp_in; decide) dJ7_fill_53178_13 (fun H locs f1 ef1 hw hS => ?_)
  have h2 : f1 na = some (.inl (cI G, 6, .inl (upd gx (0 : Int32).toNatClampNeg x))) := by rw [ef1, va_up_self]
  refine lv_iinc (v := 1) (lv' := [(2, .int 1), (3, .int 6), (0, .ref na), (1, .int x)]) hx hb dJ7_fill_53178_14 hl9 (k := 1) rfl (by decide) (by decide) rfl (fun ls hl9 => ?_)
  refine lv_goto (tgt := 5) hx hb dJ7_fill_53178_17 (by decide) ?_
  refine lv_iload_n hx hb dJ7_fill_53178_5 rfl (lv_at hl9 0 rfl) ?_
  refine lv_iload_n hx hb dJ7_fill_53178_6 rfl (lv_at hl9 1 rfl) ?_
  refine lv_icmp_ge (tgt := 20) hx hb dJ7_fill_53178_7 (by decide) (fun c9 => absurd c9 (by decide)) (fun _ => ?_)
  refine lv_aload_n hx hb dJ7_fill_53178_10 rfl (lv_at hl9 2 rfl) ?_
  refine lv_iload_n hx hb dJ7_fill_53178_11 rfl (lv_at hl9 0 rfl) ?_
  refine lv_iload_n hx hb dJ7_fill_53178_12 rfl (lv_at hl9 3 rfl) ?_
  refine hp_iast B0 hw hS h2 (by unfold vp_in; decide) dJ7_fill_53178_13 (fun H locs f3 ef3 hw hS => ?_)
  have e4 : f3 = va_up f na (some (.inl (cI G, 6, .inl (upd (upd gx (0 : Int32).toNatClampNeg x) (1 : Int32).toNatClampNeg x)))) := by rw [ef3, ef1, bx_uu]
  have h5 : f3 na = some (.inl (cI G, 6, .inl (upd (upd gx (0 : Int32).toNatClampNeg x) (1 : Int32).toNatClampNeg x))) := by rw [ef3, va_up_self]
  refine lv_iinc (v := 2) (lv' := [(2, .int 2), (3, .int 6), (0, .ref na), (1, .int x)]) hx hb dJ7_fill_53178_14 hl9 (k := 0) rfl (by decide) (by decide) rfl (fun ls hl9 => ?_)
  refine lv_goto (tgt := 5) hx hb dJ7_fill_53178_17 (by decide) ?_
  refine lv_iload_n hx hb dJ7_fill_53178_5 rfl (lv_at hl9 0 rfl) ?_
  refine lv_iload_n hx hb dJ7_fill_53178_6 rfl (lv_at hl9 1 rfl) ?_
  refine lv_icmp_ge (tgt := 20) hx hb dJ7_fill_53178_7 (by decide) (fun c9 => absurd c9 (by decide)) (fun _ => ?_)
  refine lv_aload_n hx hb dJ7_fill_53178_10 rfl (lv_at hl9 2 rfl) ?_
  refine lv_iload_n hx hb dJ7_fill_53178_11 rfl (lv_at hl9 0 rfl) ?_
  refine lv_iload_n hx hb dJ7_fill_53178_12 rfl (lv_at hl9 3 rfl) ?_
  refine hp_iast B0 hw hS h5 (by unfold vp_in; decide) dJ7_fill_53178_13 (fun H locs f6 ef6 hw hS => ?_)
  have e7 : f6 = va_up f na (some (.inl (cI G, 6, .inl (upd (upd (upd gx (0 : Int32).toNatClampNeg x) (1 : Int32).toNatClampNeg x) (2 : Int32).toNatClampNeg x)))) := by rw [ef6, e4, bx_uu]
  have h8 : f6 na = some (.inl (cI G, 6, .inl (upd (upd (upd gx (0 : Int32).toNatClampNeg x) (1 : Int32).toNatClampNeg x) (2 : Int32).toNatClampNeg x))) := by rw [ef6, va_up_self]
  refine lv_iinc (v := 3) (lv' := [(2, .int 3), (3, .int 6), (0, .ref na), (1, .int x)]) hx hb dJ7_fill_53178_14 hl9 (k := 0) rfl (by decide) (by decide) rfl (fun ls hl9 => ?_)
  refine lv_goto (tgt := 5) hx hb dJ7_fill_53178_17 (by decide) ?_
  refine lv_iload_n hx hb dJ7_fill_53178_5 rfl (lv_at hl9 0 rfl) ?_
  refine lv_iload_n hx hb dJ7_fill_53178_6 rfl (lv_at hl9 1 rfl) ?_
  refine lv_icmp_ge (tgt := 20) hx hb dJ7_fill_53178_7 (by decide) (fun c9 => absurd c9 (by decide)) (fun _ => ?_)
  refine lv_aload_n hx hb dJ7_fill_53178_10 rfl (lv_at hl9 2 rfl) ?_
  refine lv_iload_n hx hb dJ7_fill_53178_11 rfl (lv_at hl9 0 rfl) ?_
  refine lv_iload_n hx hb dJ7_fill_53178_12 rfl (lv_at hl9 3 rfl) ?_
  refine hp_iast B0 hw hS h8 (by unfold vp_in; decide) dJ7_fill_53178_13 (fun H locs f9 ef9 hw hS => ?_)
  have e10 : f9 = va_up f na (some (.inl (cI G, 6, .inl (upd (upd (upd (upd gx (0 : Int32).toNatClampNeg x) (1 : Int32).toNatClampNeg x) (2 : Int32).toNatClampNeg x) (3 : Int32).toNatClampNeg x)))) := by rw [ef9, e7, bx_uu]
  have h11 : f9 na = some (.inl (cI G, 6, .inl (upd (upd (upd (upd gx (0 : Int32).toNatClampNeg x) (1 : Int32).toNatClampNeg x) (2 : Int32).toNatClampNeg x) (3 : Int32).toNatClampNeg x))) := by rw [ef9, va_up_self]
  refine lv_iinc (v := 4) (lv' := [(2, .int 4), (3, .int 6), (0, .ref na), (1, .int x)]) hx hb dJ7_fill_53178_14 hl9 (k := 0) rfl (by decide) (by decide) rfl (fun ls hl9 => ?_)
  refine lv_goto (tgt := 5) hx hb dJ7_fill_53178_17 (by decide) ?_
  refine lv_iload_n hx hb dJ7_fill_53178_5 rfl (lv_at hl9 0 rfl) ?_
  refine lv_iload_n hx hb dJ7_fill_53178_6 rfl (lv_at hl9 1 rfl) ?_
  refine lv_icmp_ge (tgt := 20) hx hb dJ7_fill_53178_7 (by decide) (fun c9 => absurd c9 (by decide)) (fun _ => ?_)
  refine lv_aload_n hx hb dJ7_fill_53178_10 rfl (lv_at hl9 2 rfl) ?_
  refine lv_iload_n hx hb dJ7_fill_53178_11 rfl (lv_at hl9 0 rfl) ?_
  refine lv_iload_n hx hb dJ7_fill_53178_12 rfl (lv_at hl9 3 rfl) ?_
  refine hp_iast B0 hw hS h11 (by unfold vp_in; decide) dJ7_fill_53178_13 (fun H locs f12 ef12 hw hS => ?_)
  have e13 : f12 = va_up f na (some (.inl (cI G, 6, .inl (upd (upd (upd (upd (upd gx (0 : Int32).toNatClampNeg x) (1 : Int32).toNatClampNeg x) (2 : Int32).toNatClampNeg x) (3 : Int32).toNatClampNeg x) (4 : Int32).toNatClampNeg x)))) := by rw [ef12, e10, bx_uu]
  have h14 : f12 na = some (.inl (cI G, 6, .inl (upd (upd (upd (upd (upd gx (0 : Int32).toNatClampNeg x) (1 : Int32).toNatClampNeg x) (2 : Int32).toNatClampNeg x) (3 : Int32).toNatClampNeg x) (4 : Int32).toNatClampNeg x))) := by rw [ef12, va_up_self]
  refine lv_iinc (v := 5) (lv' := [(2, .int 5), (3, .int 6), (0, .ref na), (1, .int x)]) hx hb dJ7_fill_53178_14 hl9 (k := 0) rfl (by decide) (by decide) rfl (fun ls hl9 => ?_)
  refine lv_goto (tgt := 5) hx hb dJ7_fill_53178_17 (by decide) ?_
  refine lv_iload_n hx hb dJ7_fill_53178_5 rfl (lv_at hl9 0 rfl) ?_
  refine lv_iload_n hx hb dJ7_fill_53178_6 rfl (lv_at hl9 1 rfl) ?_
  refine lv_icmp_ge (tgt := 20) hx hb dJ7_fill_53178_7 (by decide) (fun c9 => absurd c9 (by decide)) (fun _ => ?_)
  refine lv_aload_n hx hb dJ7_fill_53178_10 rfl (lv_at hl9 2 rfl) ?_
  refine lv_iload_n hx hb dJ7_fill_53178_11 rfl (lv_at hl9 0 rfl) ?_
  refine lv_iload_n hx hb dJ7_fill_53178_12 rfl (lv_at hl9 3 rfl) ?_
  refine hp_iast B0 hw hS h14 (by unfold vp_in; decide) dJ7_fill_53178_13 (fun H locs f15 ef15 hw hS => ?_)
  have e16 : f15 = va_up f na (some (.inl (cI G, 6, .inl (upd (upd (upd (upd (upd (upd gx (0 : Int32).toNatClampNeg x) (1 : Int32).toNatClampNeg x) (2 : Int32).toNatClampNeg x) (3 : Int32).toNatClampNeg x) (4 : Int32).toNatClampNeg x) (5 : Int32).toNatClampNeg x)))) := by rw [ef15, e13, bx_uu]
  have h17 : f15 na = some (.inl (cI G, 6, .inl (upd (upd (upd (upd (upd (upd gx (0 : Int32).toNatClampNeg x) (1 : Int32).toNatClampNeg x) (2 : Int32).toNatClampNeg x) (3 : Int32).toNatClampNeg x) (4 : Int32).toNatClampNeg x) (5 : Int32).toNatClampNeg x))) := by rw [ef15, va_up_self]
  refine lv_iinc (v := 6) (lv' := [(2, .int 6), (3, .int 6), (0, .ref na), (1, .int x)]) hx hb dJ7_fill_53178_14 hl9 (k := 0) rfl (by decide) (by decide) rfl (fun ls hl9 => ?_)
  refine lv_goto (tgt := 5) hx hb dJ7_fill_53178_17 (by decide) ?_
  refine lv_iload_n hx hb dJ7_fill_53178_5 rfl (lv_at hl9 0 rfl) ?_
  refine lv_iload_n hx hb dJ7_fill_53178_6 rfl (lv_at hl9 1 rfl) ?_
  refine lv_icmp_ge (tgt := 20) hx hb dJ7_fill_53178_7 (by decide) (fun _ => ?_) (fun c9 => absurd (by decide) c9)
  exact hp_vret B0 hw hS hr ⟨Nat.le_of_ble_eq_true rfl, Nat.le_of_ble_eq_true rfl⟩ dJ7_fill_53178_20 (⟨rfl, by have h9 := h17; rw [fill6] at h9; exact h9, (show hKeep [na] f f15 from (by rw [e16]; exact hKeep.up (by simp))), (show NF f f15 from (by rw [e16]; exact NF.up (Nat.ne_of_beq_eq_false rfl)))⟩)

theorem fill3 (gx : Nat → Int32) (x : Int32) : (upd (upd (upd gx (0 : Int32).toNatClampNeg x) (1 : Int32).toNatClampNeg x) (2 : Int32).toNatClampNeg x) = (fun j => if j < 3 then x else gx j) := by
  funext j
  simp only [upd, cl0, cl1, cl2]
  by_cases h : j < 3
  · rw [if_pos h]
    rcases (show j = 0 ∨ j = 1 ∨ j = 2 by omega) with rfl | rfl | rfl <;> rfl
  · rw [if_neg h]
    rw [if_neg (show ¬ j = 2 by omega)]
    rw [if_neg (show ¬ j = 1 by omega)]
    rw [if_neg (show ¬ j = 0 by omega)]
set_option maxHeartbeats 4000000 in
set_option maxRecDepth 100000 in
theorem c_J7_fill3 {l : Launch} (hl : l.stackTraces = false) (G : hG) (f : hM) (na : Nat) (gx : Nat → Int32) (k_na : f na = some (.inl (cI G, 3, .inl gx))) (x : Int32) : CT l yJ7_fill_53178 (.code yJ7_fill_53178 cJ7_fill_53178 4 none) 0 0 0 0 G [.ref na, .int x] f (fun v f1 => v = none ∧ f1 na = some (.inl (cI G, 3, .inl (fun j => if j < 3 then x else gx j))) ∧ hKeep [na] f f1 ∧ NF f f1) (fun E f1 => False) := by
  refine hp_start hl (own := RJ7) (by decide) rfl (Nat.le_of_ble_eq_true rfl) ?_
  intro p e s m args below meth c B0 hr hnm hout hw hS ls hl9
  have hx := B0.1
  have hb := B0.2.1
  have hl9 : lv_has ls 4 [(0, .ref na), (1, .int x)] := hl9
  refine lv_iconst (v := 0) hx hb dJ7_fill_53178_0 (by decide) ?_
  refine lv_istore_n (lv' := [(2, .int 0), (0, .ref na), (1, .int x)]) hx hb dJ7_fill_53178_1 rfl hl9 (by decide) rfl (fun ls hl9 => ?_)
  refine lv_aload_n hx hb dJ7_fill_53178_2 rfl (lv_at hl9 1 rfl) ?_
  refine hp_alenI B0 hw k_na (v := 3) (by decide) dJ7_fill_53178_3 ?_
  refine lv_istore_n (lv' := [(3, .int 3), (2, .int 0), (0, .ref na), (1, .int x)]) hx hb dJ7_fill_53178_4 rfl hl9 (by decide) rfl (fun ls hl9 => ?_)
  refine lv_iload_n hx hb dJ7_fill_53178_5 rfl (lv_at hl9 1 rfl) ?_
  refine lv_iload_n hx hb dJ7_fill_53178_6 rfl (lv_at hl9 0 rfl) ?_
  refine lv_icmp_ge (tgt := 20) hx hb dJ7_fill_53178_7 (by decide) (fun c9 => absurd c9 (by decide)) (fun _ => ?_)
  refine lv_aload_n hx hb dJ7_fill_53178_10 rfl (lv_at hl9 2 rfl) ?_
  refine lv_iload_n hx hb dJ7_fill_53178_11 rfl (lv_at hl9 1 rfl) ?_
  refine lv_iload_n hx hb dJ7_fill_53178_12 rfl (lv_at hl9 3 rfl) ?_
  refine hp_iast B0 hw hS k_na (by unfold vp_in; decide) dJ7_fill_53178_13 (fun H locs f1 ef1 hw hS => ?_)
  have h2 : f1 na = some (.inl (cI G, 3, .inl (upd gx (0 : Int32).toNatClampNeg x))) := by rw [ef1, va_up_self]
  refine lv_iinc (v := 1) (lv' := [(2, .int 1), (3, .int 3), (0, .ref na), (1, .int x)]) hx hb dJ7_fill_53178_14 hl9 (k := 1) rfl (by decide) (by decide) rfl (fun ls hl9 => ?_)
  refine lv_goto (tgt := 5) hx hb dJ7_fill_53178_17 (by decide) ?_
  refine lv_iload_n hx hb dJ7_fill_53178_5 rfl (lv_at hl9 0 rfl) ?_
  refine lv_iload_n hx hb dJ7_fill_53178_6 rfl (lv_at hl9 1 rfl) ?_
  refine lv_icmp_ge (tgt := 20) hx hb dJ7_fill_53178_7 (by decide) (fun c9 => absurd c9 (by decide)) (fun _ => ?_)
  refine lv_aload_n hx hb dJ7_fill_53178_10 rfl (lv_at hl9 2 rfl) ?_
  refine lv_iload_n hx hb dJ7_fill_53178_11 rfl (lv_at hl9 0 rfl) ?_
  refine lv_iload_n hx hb dJ7_fill_53178_12 rfl (lv_at hl9 3 rfl) ?_
  refine hp_iast B0 hw hS h2 (by unfold vp_in; decide) dJ7_fill_53178_13 (fun H locs f3 ef3 hw hS => ?_)
  have e4 : f3 = va_up f na (some (.inl (cI G, 3, .inl (upd (upd gx (0 : Int32).toNatClampNeg x) (1 : Int32).toNatClampNeg x)))) := by rw [ef3, ef1, bx_uu]
  have h5 : f3 na = some (.inl (cI G, 3, .inl (upd (upd gx (0 : Int32).toNatClampNeg x) (1 : Int32).toNatClampNeg x))) := by rw [ef3, va_up_self]
  refine lv_iinc (v := 2) (lv' := [(2, .int 2), (3, .int 3), (0, .ref na), (1, .int x)]) hx hb dJ7_fill_53178_14 hl9 (k := 0) rfl (by decide) (by decide) rfl (fun ls hl9 => ?_)
  refine lv_goto (tgt := 5) hx hb dJ7_fill_53178_17 (by decide) ?_
  refine lv_iload_n hx hb dJ7_fill_53178_5 rfl (lv_at hl9 0 rfl) ?_
  refine lv_iload_n hx hb dJ7_fill_53178_6 rfl (lv_at hl9 1 rfl) ?_
  refine lv_icmp_ge (tgt := 20) hx hb dJ7_fill_53178_7 (by decide) (fun c9 => absurd c9 (by decide)) (fun _ => ?_)
  refine lv_aload_n hx hb dJ7_fill_53178_10 rfl (lv_at hl9 2 rfl) ?_
  refine lv_iload_n hx hb dJ7_fill_53178_11 rfl (lv_at hl9 0 rfl) ?_
  refine lv_iload_n hx hb dJ7_fill_53178_12 rfl (lv_at hl9 3 rfl) ?_
  refine hp_iast B0 hw hS h5 (by unfold vp_in; decide) dJ7_fill_53178_13 (fun H locs f6 ef6 hw hS => ?_)
  have e7 : f6 = va_up f na (some (.inl (cI G, 3, .inl (upd (upd (upd gx (0 : Int32).toNatClampNeg x) (1 : Int32).toNatClampNeg x) (2 : Int32).toNatClampNeg x)))) := by rw [ef6, e4, bx_uu]
  have h8 : f6 na = some (.inl (cI G, 3, .inl (upd (upd (upd gx (0 : Int32).toNatClampNeg x) (1 : Int32).toNatClampNeg x) (2 : Int32).toNatClampNeg x))) := by rw [ef6, va_up_self]
  refine lv_iinc (v := 3) (lv' := [(2, .int 3), (3, .int 3), (0, .ref na), (1, .int x)]) hx hb dJ7_fill_53178_14 hl9 (k := 0) rfl (by decide) (by decide) rfl (fun ls hl9 => ?_)
  refine lv_goto (tgt := 5) hx hb dJ7_fill_53178_17 (by decide) ?_
  refine lv_iload_n hx hb dJ7_fill_53178_5 rfl (lv_at hl9 0 rfl) ?_
  refine lv_iload_n hx hb dJ7_fill_53178_6 rfl (lv_at hl9 1 rfl) ?_
  refine lv_icmp_ge (tgt := 20) hx hb dJ7_fill_53178_7 (by decide) (fun _ => ?_) (fun c9 => absurd (by decide) c9)
  exact hp_vret B0 hw hS hr ⟨Nat.le_of_ble_eq_true rfl, Nat.le_of_ble_eq_true rfl⟩ dJ7_fill_53178_20 (⟨rfl, by have h9 := h8; rw [fill3] at h9; exact h9, (show hKeep [na] f f6 from (by rw [e7]; exact hKeep.up (by simp))), (show NF f f6 from (by rw [e7]; exact NF.up (Nat.ne_of_beq_eq_false rfl)))⟩)

set_option maxHeartbeats 4000000 in
set_option maxRecDepth 100000 in
theorem c_X1_init {l : Launch} (hl : l.stackTraces = false) (G : hG) (f : hM) (en : Nat) (x : Int32) (k_en : f en = some (.inr (1, [.null, .null, .null, .null, .int 0, .int 0, .int 0, .int 0, .int 0, .int 0, .int 0]))) : CT l yX1_init (.code yX1_init cX1_init 2 none) 2 33 4 21 G [.ref en, .int x] f (fun v f1 => v = none ∧ ∃ nw na nq nr : Nat, f nw = none ∧ f na = none ∧ f nq = none ∧ f nr = none ∧ f1 en = some (.inr (1, [.ref nw, .ref na, .ref nq, .ref nr, .int x, .int 0, .int 0, .int 0, .int (-1), .int 0, .int 0])) ∧ f1 nw = some (.inl (cI G, 6, .inl (fun j => if j < 6 then (-1) else (fun _ => 0) j))) ∧ f1 na = some (.inl (cI G, 6, .inl (fun _ => 0))) ∧ f1 nq = some (.inl (cI G, 6, .inl (fun j => if j < 6 then (-1) else (fun _ => 0) j))) ∧ f1 nr = some (.inr (3, [.null, .null, .int 0])) ∧ nw ≠ na ∧ nw ≠ nq ∧ na ≠ nq ∧ hKeep [en] f f1 ∧ NF f f1) (fun E f1 => False) := by
  refine hp_start hl (own := RX1) (by decide) rfl (Nat.le_of_ble_eq_true rfl) ?_
  intro p e s m args below meth c B0 hr hnm hout hw hS ls hl9
  have hx := B0.1
  have hb := B0.2.1
  have hl9 : lv_has ls 2 [(0, .ref en), (1, .int x)] := hl9
  refine lv_aload_n hx hb dX1_init_0 rfl (lv_at hl9 0 rfl) ?_
  refine W.objInit hx hb B0.2.2.2.1 (B0.2.2.2.2.1 _ qM_X1_3) (B0.2.2.2.2.1 _ qi_obj) (B0.2.2.2.2.1 _ qc_obj) rfl (by rw [B0.2.2.1]; exact hl9.1) rfl dX1_init_1 (Nat.le_of_ble_eq_true rfl) (Nat.le_of_ble_eq_true rfl) ?_
  refine W.eq (g2 := F0 m 4 ls []) rfl ?_
  refine lv_aload_n hx hb dX1_init_4 rfl (lv_at hl9 0 rfl) ?_
  refine lv_bipush (v := 6) hx hb dX1_init_5 (by decide) ?_
  refine hp_newaI (N' := 6) B0 hw hS qA_int (by decide) (by decide) (Nat.le_of_ble_eq_true rfl) (Nat.le_of_ble_eq_true rfl) (Nat.le_of_ble_eq_true rfl) dX1_init_7 (fun q1 H f3 w2 ef3 hw hS => ?_)
  have h4 : f3 q1 = some (.inl (cI G, 6, .inl (fun _ => 0))) := by rw [ef3, va_up_self]
  have h5 : f3 en = some (.inr (1, [.null, .null, .null, .null, .int 0, .int 0, .int 0, .int 0, .int 0, .int 0, .int 0])) := by rw [ef3, va_up_ne _ _ (hnew k_en w2)]; exact k_en
  refine hp_putF (fs1 := [.ref q1, .null, .null, .null, .int 0, .int 0, .int 0, .int 0, .int 0, .int 0, .int 0]) (ty := .array .int) B0 hw hS 1 rfl in_X1 tyX1 tyX1_ok nmX1 h5 0 (by decide) qF_X1_9 rfl hnm rfl (by decide +kernel) rfl rfl (Nat.le_of_ble_eq_true rfl) rfl dX1_init_9 (fun H locs f6 ef6 hw hS => ?_)
  have h7 : f6 en = some (.inr (1, [.ref q1, .null, .null, .null, .int 0, .int 0, .int 0, .int 0, .int 0, .int 0, .int 0])) := by rw [ef6, va_up_self]
  refine lv_aload_n hx hb dX1_init_12 rfl (lv_at hl9 0 rfl) ?_
  refine lv_bipush (v := 6) hx hb dX1_init_13 (by decide) ?_
  refine hp_newaI (N' := 6) B0 hw hS qA_int (by decide) (by decide) (Nat.le_of_ble_eq_true rfl) (Nat.le_of_ble_eq_true rfl) (Nat.le_of_ble_eq_true rfl) dX1_init_15 (fun q8 H f10 w9 ef10 hw hS => ?_)
  have h11 : f10 q8 = some (.inl (cI G, 6, .inl (fun _ => 0))) := by rw [ef10, va_up_self]
  have h12 : f10 en = some (.inr (1, [.ref q1, .null, .null, .null, .int 0, .int 0, .int 0, .int 0, .int 0, .int 0, .int 0])) := by rw [ef10, va_up_ne _ _ (hnew h7 w9)]; exact h7
  refine hp_putF (fs1 := [.ref q1, .ref q8, .null, .null, .int 0, .int 0, .int 0, .int 0, .int 0, .int 0, .int 0]) (ty := .array .int) B0 hw hS 1 rfl in_X1 tyX1 tyX1_ok nmX1 h12 1 (by decide) qF_X1_15 rfl hnm rfl (by decide +kernel) rfl rfl (Nat.le_of_ble_eq_true rfl) rfl dX1_init_17 (fun H locs f13 ef13 hw hS => ?_)
  have h14 : f13 en = some (.inr (1, [.ref q1, .ref q8, .null, .null, .int 0, .int 0, .int 0, .int 0, .int 0, .int 0, .int 0])) := by rw [ef13, va_up_self]
  refine lv_aload_n hx hb dX1_init_20 rfl (lv_at hl9 0 rfl) ?_
  refine lv_bipush (v := 6) hx hb dX1_init_21 (by decide) ?_
  refine hp_newaI (N' := 6) B0 hw hS qA_int (by decide) (by decide) (Nat.le_of_ble_eq_true rfl) (Nat.le_of_ble_eq_true rfl) (Nat.le_of_ble_eq_true rfl) dX1_init_23 (fun q15 H f17 w16 ef17 hw hS => ?_)
  have h18 : f17 q15 = some (.inl (cI G, 6, .inl (fun _ => 0))) := by rw [ef17, va_up_self]
  have h19 : f17 en = some (.inr (1, [.ref q1, .ref q8, .null, .null, .int 0, .int 0, .int 0, .int 0, .int 0, .int 0, .int 0])) := by rw [ef17, va_up_ne _ _ (hnew h14 w16)]; exact h14
  refine hp_putF (fs1 := [.ref q1, .ref q8, .ref q15, .null, .int 0, .int 0, .int 0, .int 0, .int 0, .int 0, .int 0]) (ty := .array .int) B0 hw hS 1 rfl in_X1 tyX1 tyX1_ok nmX1 h19 2 (by decide) qF_X1_18 rfl hnm rfl (by decide +kernel) rfl rfl (Nat.le_of_ble_eq_true rfl) rfl dX1_init_25 (fun H locs f20 ef20 hw hS => ?_)
  have h21 : f20 en = some (.inr (1, [.ref q1, .ref q8, .ref q15, .null, .int 0, .int 0, .int 0, .int 0, .int 0, .int 0, .int 0])) := by rw [ef20, va_up_self]
  refine lv_aload_n hx hb dX1_init_28 rfl (lv_at hl9 0 rfl) ?_
  refine hp_new (fs := [.null, .null, .int 0]) B0 hw hS 3 rfl in_X3 tyX3 tyX3_ok qC_X1_21 qI_X3 qN_X3 (fun j hj => by rcases (show j = 0 ∨ j = 1 ∨ j = 2 by omega) with rfl | rfl | rfl <;> rfl) (Nat.le_of_ble_eq_true rfl) (Nat.le_of_ble_eq_true rfl) dX1_init_29 (fun q22 H f24 w23 ef24 hw hS => ?_)
  have h25 : f24 q22 = some (.inr (3, [.null, .null, .int 0])) := by rw [ef24, va_up_self]
  refine lv_dup hx hb dX1_init_32 rfl ?_
  refine hp_IN (As := []) (rest := [.ref q22, .ref en]) (b := q22) B0 hw hS (c_X3_init hl G f24 q22 h25) mI_X3_init oM_X1_23 rfl rfl hl9.1 (Nat.le_of_ble_eq_true rfl) ⟨⟨Nat.le_of_ble_eq_true rfl, Nat.le_of_ble_eq_true rfl⟩, Nat.le_of_ble_eq_true rfl, Nat.le_of_ble_eq_true rfl⟩ dX1_init_33 (fun E ce q9 f26 H locs hPX hw hS hce hcv hcl => ?_) (fun v f26 H locs hP hw hS => ?_)
  · exact hPX.elim
  · obtain ⟨ev9, ef9⟩ := hP
    rw [ef9] at hw
    subst ev9
    refine W.eq (g2 := F0 m 36 ls [.ref q22, .ref en]) rfl ?_
    have h27 : f24 en = some (.inr (1, [.ref q1, .ref q8, .ref q15, .null, .int 0, .int 0, .int 0, .int 0, .int 0, .int 0, .int 0])) := by rw [ef24, va_up_ne _ _ (hnew h21 w23)]; exact h21
    refine hp_putF (fs1 := [.ref q1, .ref q8, .ref q15, .ref q22, .int 0, .int 0, .int 0, .int 0, .int 0, .int 0, .int 0]) (ty := .object "OptionLine$FrameRow") B0 hw hS 1 rfl in_X1 tyX1 tyX1_ok nmX1 h27 3 (by decide) qF_X1_24 rfl hnm rfl (by decide +kernel) rfl rfl (Nat.le_of_ble_eq_true rfl) rfl dX1_init_36 (fun H locs f28 ef28 hw hS => ?_)
    have h29 : f28 en = some (.inr (1, [.ref q1, .ref q8, .ref q15, .ref q22, .int 0, .int 0, .int 0, .int 0, .int 0, .int 0, .int 0])) := by rw [ef28, va_up_self]
    refine lv_aload_n hx hb dX1_init_39 rfl (lv_at hl9 0 rfl) ?_
    refine lv_iconst (v := 0) hx hb dX1_init_40 (by decide) ?_
    refine hp_put (fs1 := [.ref q1, .ref q8, .ref q15, .ref q22, .int 0, .int 0, .int 0, .int 0, .int 0, .int 0, .int 0]) (ty := .int) B0 hw hS 1 rfl in_X1 tyX1 tyX1_ok nmX1 h29 5 (by decide) qF_X1_28 rfl (by decide +kernel) rfl rfl (Nat.le_of_ble_eq_true rfl) rfl dX1_init_41 (fun H locs f30 ef30 hw hS => ?_)
    have e31 : f30 = va_up f24 en (some (.inr (1, [.ref q1, .ref q8, .ref q15, .ref q22, .int 0, .int 0, .int 0, .int 0, .int 0, .int 0, .int 0]))) := by rw [ef30, ef28, bx_uu]
    have h32 : f30 en = some (.inr (1, [.ref q1, .ref q8, .ref q15, .ref q22, .int 0, .int 0, .int 0, .int 0, .int 0, .int 0, .int 0])) := by rw [ef30, va_up_self]
    refine lv_aload_n hx hb dX1_init_44 rfl (lv_at hl9 0 rfl) ?_
    refine lv_iconst (v := 0) hx hb dX1_init_45 (by decide) ?_
    refine hp_put (fs1 := [.ref q1, .ref q8, .ref q15, .ref q22, .int 0, .int 0, .int 0, .int 0, .int 0, .int 0, .int 0]) (ty := .int) B0 hw hS 1 rfl in_X1 tyX1 tyX1_ok nmX1 h32 6 (by decide) qF_X1_32 rfl (by decide +kernel) rfl rfl (Nat.le_of_ble_eq_true rfl) rfl dX1_init_46 (fun H locs f33 ef33 hw hS => ?_)
    have e34 : f33 = va_up f24 en (some (.inr (1, [.ref q1, .ref q8, .ref q15, .ref q22, .int 0, .int 0, .int 0, .int 0, .int 0, .int 0, .int 0]))) := by rw [ef33, e31, bx_uu]
    have h35 : f33 en = some (.inr (1, [.ref q1, .ref q8, .ref q15, .ref q22, .int 0, .int 0, .int 0, .int 0, .int 0, .int 0, .int 0])) := by rw [ef33, va_up_self]
    refine lv_aload_n hx hb dX1_init_49 rfl (lv_at hl9 0 rfl) ?_
    refine lv_iconst (v := 0) hx hb dX1_init_50 (by decide) ?_
    refine hp_put (fs1 := [.ref q1, .ref q8, .ref q15, .ref q22, .int 0, .int 0, .int 0, .int 0, .int 0, .int 0, .int 0]) (ty := .int) B0 hw hS 1 rfl in_X1 tyX1 tyX1_ok nmX1 h35 7 (by decide) qF_X1_35 rfl (by decide +kernel) rfl rfl (Nat.le_of_ble_eq_true rfl) rfl dX1_init_51 (fun H locs f36 ef36 hw hS => ?_)
    have e37 : f36 = va_up f24 en (some (.inr (1, [.ref q1, .ref q8, .ref q15, .ref q22, .int 0, .int 0, .int 0, .int 0, .int 0, .int 0, .int 0]))) := by rw [ef36, e34, bx_uu]
    have h38 : f36 en = some (.inr (1, [.ref q1, .ref q8, .ref q15, .ref q22, .int 0, .int 0, .int 0, .int 0, .int 0, .int 0, .int 0])) := by rw [ef36, va_up_self]
    refine lv_aload_n hx hb dX1_init_54 rfl (lv_at hl9 0 rfl) ?_
    refine lv_iconst (v := (-1)) hx hb dX1_init_55 (by decide) ?_
    refine hp_put (fs1 := [.ref q1, .ref q8, .ref q15, .ref q22, .int 0, .int 0, .int 0, .int 0, .int (-1), .int 0, .int 0]) (ty := .int) B0 hw hS 1 rfl in_X1 tyX1 tyX1_ok nmX1 h38 8 (by decide) qF_X1_38 rfl (by decide +kernel) rfl rfl (Nat.le_of_ble_eq_true rfl) rfl dX1_init_56 (fun H locs f39 ef39 hw hS => ?_)
    have e40 : f39 = va_up f24 en (some (.inr (1, [.ref q1, .ref q8, .ref q15, .ref q22, .int 0, .int 0, .int 0, .int 0, .int (-1), .int 0, .int 0]))) := by rw [ef39, e37, bx_uu]
    have h41 : f39 en = some (.inr (1, [.ref q1, .ref q8, .ref q15, .ref q22, .int 0, .int 0, .int 0, .int 0, .int (-1), .int 0, .int 0])) := by rw [ef39, va_up_self]
    refine lv_aload_n hx hb dX1_init_59 rfl (lv_at hl9 0 rfl) ?_
    refine lv_iconst (v := 0) hx hb dX1_init_60 (by decide) ?_
    refine hp_put (fs1 := [.ref q1, .ref q8, .ref q15, .ref q22, .int 0, .int 0, .int 0, .int 0, .int (-1), .int 0, .int 0]) (ty := .boolean) B0 hw hS 1 rfl in_X1 tyX1 tyX1_ok nmX1 h41 9 (by decide) qF_X1_41 rfl (by decide +kernel) rfl rfl (Nat.le_of_ble_eq_true rfl) rfl dX1_init_61 (fun H locs f42 ef42 hw hS => ?_)
    have e43 : f42 = va_up f24 en (some (.inr (1, [.ref q1, .ref q8, .ref q15, .ref q22, .int 0, .int 0, .int 0, .int 0, .int (-1), .int 0, .int 0]))) := by rw [ef42, e40, bx_uu]
    have h44 : f42 en = some (.inr (1, [.ref q1, .ref q8, .ref q15, .ref q22, .int 0, .int 0, .int 0, .int 0, .int (-1), .int 0, .int 0])) := by rw [ef42, va_up_self]
    refine lv_aload_n hx hb dX1_init_64 rfl (lv_at hl9 0 rfl) ?_
    refine lv_iconst (v := 0) hx hb dX1_init_65 (by decide) ?_
    refine hp_put (fs1 := [.ref q1, .ref q8, .ref q15, .ref q22, .int 0, .int 0, .int 0, .int 0, .int (-1), .int 0, .int 0]) (ty := .int) B0 hw hS 1 rfl in_X1 tyX1 tyX1_ok nmX1 h44 10 (by decide) qF_X1_45 rfl (by decide +kernel) rfl rfl (Nat.le_of_ble_eq_true rfl) rfl dX1_init_66 (fun H locs f45 ef45 hw hS => ?_)
    have e46 : f45 = va_up f24 en (some (.inr (1, [.ref q1, .ref q8, .ref q15, .ref q22, .int 0, .int 0, .int 0, .int 0, .int (-1), .int 0, .int 0]))) := by rw [ef45, e43, bx_uu]
    have h47 : f45 en = some (.inr (1, [.ref q1, .ref q8, .ref q15, .ref q22, .int 0, .int 0, .int 0, .int 0, .int (-1), .int 0, .int 0])) := by rw [ef45, va_up_self]
    refine lv_aload_n hx hb dX1_init_69 rfl (lv_at hl9 0 rfl) ?_
    refine lv_iload_n hx hb dX1_init_70 rfl (lv_at hl9 1 rfl) ?_
    refine hp_put (fs1 := [.ref q1, .ref q8, .ref q15, .ref q22, .int x, .int 0, .int 0, .int 0, .int (-1), .int 0, .int 0]) (ty := .int) B0 hw hS 1 rfl in_X1 tyX1 tyX1_ok nmX1 h47 4 (by decide) qF_X1_48 rfl (by decide +kernel) rfl rfl (Nat.le_of_ble_eq_true rfl) rfl dX1_init_71 (fun H locs f48 ef48 hw hS => ?_)
    have e49 : f48 = va_up f24 en (some (.inr (1, [.ref q1, .ref q8, .ref q15, .ref q22, .int x, .int 0, .int 0, .int 0, .int (-1), .int 0, .int 0]))) := by rw [ef48, e46, bx_uu]
    have h50 : f48 en = some (.inr (1, [.ref q1, .ref q8, .ref q15, .ref q22, .int x, .int 0, .int 0, .int 0, .int (-1), .int 0, .int 0])) := by rw [ef48, va_up_self]
    refine lv_aload_n hx hb dX1_init_74 rfl (lv_at hl9 0 rfl) ?_
    refine hp_get B0 hw 1 rfl in_X1 h50 0 (by decide) qF_X1_9 rfl dX1_init_75 ?_
    refine lv_iconst (v := (-1)) hx hb dX1_init_78 (by decide) ?_
    have n52 : en ≠ q1 := hnew k_en w2
    have h51 : f6 q1 = some (.inl (cI G, 6, .inl (fun _ => 0))) := by rw [ef6, va_up_ne _ _ (Ne.symm n52)]; exact h4
    have h53 : f10 q1 = some (.inl (cI G, 6, .inl (fun _ => 0))) := by rw [ef10, va_up_ne _ _ (hnew h51 w9)]; exact h51
    have h54 : f13 q1 = some (.inl (cI G, 6, .inl (fun _ => 0))) := by rw [ef13, va_up_ne _ _ (Ne.symm n52)]; exact h53
    have h55 : f17 q1 = some (.inl (cI G, 6, .inl (fun _ => 0))) := by rw [ef17, va_up_ne _ _ (hnew h54 w16)]; exact h54
    have h56 : f20 q1 = some (.inl (cI G, 6, .inl (fun _ => 0))) := by rw [ef20, va_up_ne _ _ (Ne.symm n52)]; exact h55
    have h57 : f24 q1 = some (.inl (cI G, 6, .inl (fun _ => 0))) := by rw [ef24, va_up_ne _ _ (hnew h56 w23)]; exact h56
    have h58 : f48 q1 = some (.inl (cI G, 6, .inl (fun _ => 0))) := by rw [e49, va_up_ne _ _ (Ne.symm n52)]; exact h57
    refine hp_S (As := [.ref q1, .int (-1)]) (rest := []) B0 hw hS (c_J7_fill6 hl G f48 q1 (fun _ => 0) h58 (-1)) mS_J7_fill_53178 qM_X1_51 rfl rfl hl9.1 (Nat.le_of_ble_eq_true rfl) ⟨⟨Nat.le_of_ble_eq_true rfl, Nat.le_of_ble_eq_true rfl⟩, Nat.le_of_ble_eq_true rfl, Nat.le_of_ble_eq_true rfl⟩ dX1_init_79 (fun E ce q9 f59 H locs hPX hw hS hce hcv hcl => ?_) (fun v f59 H locs hP hw hS => ?_)
    · exact hPX.elim
    · obtain ⟨ev9, h60, k61, z62⟩ := hP
      subst ev9
      refine W.eq (g2 := F0 m 82 ls []) rfl ?_
      refine lv_aload_n hx hb dX1_init_82 rfl (lv_at hl9 0 rfl) ?_
      have h63 : f59 en = some (.inr (1, [.ref q1, .ref q8, .ref q15, .ref q22, .int x, .int 0, .int 0, .int 0, .int (-1), .int 0, .int 0])) := k61 _ _ h50 (ninc n52 nin0)
      refine hp_get B0 hw 1 rfl in_X1 h63 2 (by decide) qF_X1_18 rfl dX1_init_83 ?_
      refine lv_iconst (v := (-1)) hx hb dX1_init_86 (by decide) ?_
      have n65 : en ≠ q15 := hnew h14 w16
      have h64 : f20 q15 = some (.inl (cI G, 6, .inl (fun _ => 0))) := by rw [ef20, va_up_ne _ _ (Ne.symm n65)]; exact h18
      have h66 : f24 q15 = some (.inl (cI G, 6, .inl (fun _ => 0))) := by rw [ef24, va_up_ne _ _ (hnew h64 w23)]; exact h64
      have h67 : f48 q15 = some (.inl (cI G, 6, .inl (fun _ => 0))) := by rw [e49, va_up_ne _ _ (Ne.symm n65)]; exact h66
      have n69 : q1 ≠ q15 := hnew h54 w16
      have h68 : f59 q15 = some (.inl (cI G, 6, .inl (fun _ => 0))) := k61 _ _ h67 (ninc (Ne.symm n69) nin0)
      refine hp_S (As := [.ref q15, .int (-1)]) (rest := []) B0 hw hS (c_J7_fill6 hl G f59 q15 (fun _ => 0) h68 (-1)) mS_J7_fill_53178 qM_X1_51 rfl rfl hl9.1 (Nat.le_of_ble_eq_true rfl) ⟨⟨Nat.le_of_ble_eq_true rfl, Nat.le_of_ble_eq_true rfl⟩, Nat.le_of_ble_eq_true rfl, Nat.le_of_ble_eq_true rfl⟩ dX1_init_87 (fun E ce q9 f70 H locs hPX hw hS hce hcv hcl => ?_) (fun v f70 H locs hP hw hS => ?_)
      · exact hPX.elim
      · obtain ⟨ev9, h71, k72, z73⟩ := hP
        subst ev9
        refine W.eq (g2 := F0 m 90 ls []) rfl ?_
        have h74 : f70 en = some (.inr (1, [.ref q1, .ref q8, .ref q15, .ref q22, .int x, .int 0, .int 0, .int 0, .int (-1), .int 0, .int 0])) := k72 _ _ h63 (ninc n65 nin0)
        have h75 : f70 q1 = some (.inl (cI G, 6, .inl (fun j => if j < 6 then (-1) else (fun _ => 0) j))) := k72 _ _ h60 (ninc n69 nin0)
        have n77 : en ≠ q8 := hnew h7 w9
        have h76 : f13 q8 = some (.inl (cI G, 6, .inl (fun _ => 0))) := by rw [ef13, va_up_ne _ _ (Ne.symm n77)]; exact h11
        have h78 : f17 q8 = some (.inl (cI G, 6, .inl (fun _ => 0))) := by rw [ef17, va_up_ne _ _ (hnew h76 w16)]; exact h76
        have h79 : f20 q8 = some (.inl (cI G, 6, .inl (fun _ => 0))) := by rw [ef20, va_up_ne _ _ (Ne.symm n77)]; exact h78
        have h80 : f24 q8 = some (.inl (cI G, 6, .inl (fun _ => 0))) := by rw [ef24, va_up_ne _ _ (hnew h79 w23)]; exact h79
        have h81 : f48 q8 = some (.inl (cI G, 6, .inl (fun _ => 0))) := by rw [e49, va_up_ne _ _ (Ne.symm n77)]; exact h80
        have n83 : q1 ≠ q8 := hnew h51 w9
        have h82 : f59 q8 = some (.inl (cI G, 6, .inl (fun _ => 0))) := k61 _ _ h81 (ninc (Ne.symm n83) nin0)
        have n85 : q8 ≠ q15 := hnew h76 w16
        have h84 : f70 q8 = some (.inl (cI G, 6, .inl (fun _ => 0))) := k72 _ _ h82 (ninc n85 nin0)
        have n87 : en ≠ q22 := hnew h21 w23
        have h86 : f48 q22 = some (.inr (3, [.null, .null, .int 0])) := by rw [e49, va_up_ne _ _ (Ne.symm n87)]; exact h25
        have n89 : q1 ≠ q22 := hnew h56 w23
        have h88 : f59 q22 = some (.inr (3, [.null, .null, .int 0])) := k61 _ _ h86 (ninc (Ne.symm n89) nin0)
        have n91 : q15 ≠ q22 := hnew h64 w23
        have h90 : f70 q22 = some (.inr (3, [.null, .null, .int 0])) := k72 _ _ h88 (ninc (Ne.symm n91) nin0)
        have n92 : q8 ≠ q22 := hnew h79 w23
        exact hp_vret B0 hw hS hr ⟨Nat.le_of_ble_eq_true rfl, Nat.le_of_ble_eq_true rfl⟩ dX1_init_90 (⟨rfl, q1, q8, q15, q22, w2, (hKeep.none (hKeep.trn w2 ((show hKeep [q1, en, q1] f f3 from (by rw [ef3]; exact hKeep.up (by simp))).tr (show hKeep [q1, en, q1] f3 f6 from (by rw [ef6]; exact hKeep.up (by simp))))) w9 (ninc (Ne.symm n77) (ninc (Ne.symm n83) nin0))), (hKeep.none (hKeep.trn w2 ((show hKeep [q1, en, q1, q8] f f3 from (by rw [ef3]; exact hKeep.up (by simp))).tr ((show hKeep [q1, en, q1, q8] f3 f6 from (by rw [ef6]; exact hKeep.up (by simp))).tr (hKeep.trn w9 ((show hKeep [q8, q1, en, q1, q8] f6 f10 from (by rw [ef10]; exact hKeep.up (by simp))).tr (show hKeep [q8, q1, en, q1, q8] f10 f13 from (by rw [ef13]; exact hKeep.up (by simp)))))))) w16 (ninc (Ne.symm n65) (ninc (Ne.symm n69) (ninc (Ne.symm n85) nin0)))), (hKeep.none (hKeep.trn w2 ((show hKeep [q1, en, q1, q8, q15] f f3 from (by rw [ef3]; exact hKeep.up (by simp))).tr ((show hKeep [q1, en, q1, q8, q15] f3 f6 from (by rw [ef6]; exact hKeep.up (by simp))).tr (hKeep.trn w9 ((show hKeep [q8, q1, en, q1, q8, q15] f6 f10 from (by rw [ef10]; exact hKeep.up (by simp))).tr ((show hKeep [q8, q1, en, q1, q8, q15] f10 f13 from (by rw [ef13]; exact hKeep.up (by simp))).tr (hKeep.trn w16 ((show hKeep [q15, q8, q1, en, q1, q8, q15] f13 f17 from (by rw [ef17]; exact hKeep.up (by simp))).tr (show hKeep [q15, q8, q1, en, q1, q8, q15] f17 f20 from (by rw [ef20]; exact hKeep.up (by simp))))))))))) w23 (ninc (Ne.symm n87) (ninc (Ne.symm n89) (ninc (Ne.symm n92) (ninc (Ne.symm n91) nin0))))), h74, h75, h84, h71, h90, n83, n69, n85, (hKeep.trn w2 ((show hKeep [q1, en] f f3 from (by rw [ef3]; exact hKeep.up (by simp))).tr ((show hKeep [q1, en] f3 f6 from (by rw [ef6]; exact hKeep.up (by simp))).tr (hKeep.trn w9 ((show hKeep [q8, q1, en] f6 f10 from (by rw [ef10]; exact hKeep.up (by simp))).tr ((show hKeep [q8, q1, en] f10 f13 from (by rw [ef13]; exact hKeep.up (by simp))).tr (hKeep.trn w16 ((show hKeep [q15, q8, q1, en] f13 f17 from (by rw [ef17]; exact hKeep.up (by simp))).tr ((show hKeep [q15, q8, q1, en] f17 f20 from (by rw [ef20]; exact hKeep.up (by simp))).tr (hKeep.trn w23 ((show hKeep [q22, q15, q8, q1, en] f20 f24 from (by rw [ef24]; exact hKeep.up (by simp))).tr ((show hKeep [q22, q15, q8, q1, en] f24 f48 from (by rw [e49]; exact hKeep.up (by simp))).tr ((show hKeep [q22, q15, q8, q1, en] f48 f59 from (k61.mono (fun x9 hx9 => by simp only [List.mem_cons, List.not_mem_nil, or_false] at hx9 ⊢; omega))).tr (show hKeep [q22, q15, q8, q1, en] f59 f70 from (k72.mono (fun x9 hx9 => by simp only [List.mem_cons, List.not_mem_nil, or_false] at hx9 ⊢; omega)))))))))))))))), ((show NF f f3 from (by rw [ef3]; exact NF.up (Nat.ne_of_beq_eq_false rfl))).tr ((show NF f3 f6 from (by rw [ef6]; exact NF.up (Nat.ne_of_beq_eq_false rfl))).tr ((show NF f6 f10 from (by rw [ef10]; exact NF.up (Nat.ne_of_beq_eq_false rfl))).tr ((show NF f10 f13 from (by rw [ef13]; exact NF.up (Nat.ne_of_beq_eq_false rfl))).tr ((show NF f13 f17 from (by rw [ef17]; exact NF.up (Nat.ne_of_beq_eq_false rfl))).tr ((show NF f17 f20 from (by rw [ef20]; exact NF.up (Nat.ne_of_beq_eq_false rfl))).tr ((show NF f20 f24 from (by rw [ef24]; exact NF.up (Nat.ne_of_beq_eq_false rfl))).tr ((show NF f24 f48 from (by rw [e49]; exact NF.up (Nat.ne_of_beq_eq_false rfl))).tr (z62.tr z73)))))))))⟩)

set_option maxHeartbeats 4000000 in
set_option maxRecDepth 100000 in
theorem c_X0_init {l : Launch} (hl : l.stackTraces = false) (G : hG) (f : hM) (bu : Nat) (k_bu : f bu = some (.inr (0, [.null, .null, .null, .null, .null, .null, .int 0, .int 0, .int 0]))) : CT l yX0_init (.code yX0_init cX0_init 2 none) 1 23 6 607 G [.ref bu] f (fun v f1 => v = none ∧ ∃ bs bp bh bf bl bg : Nat, f bs = none ∧ f bp = none ∧ f bh = none ∧ f bf = none ∧ f bl = none ∧ f bg = none ∧ f1 bu = some (.inr (0, [.ref bs, .ref bp, .ref bh, .ref bf, .ref bl, .ref bg, .int 0, .int 0, .int 0])) ∧ f1 bs = some (.inl (cI G, 61, .inl (fun _ => 0))) ∧ f1 bp = some (.inl (cI G, 240, .inl (fun _ => 0))) ∧ f1 bh = some (.inl (cZ G, 240, .inl (fun _ => 0))) ∧ f1 bf = some (.inl (cI G, 3, .inl (upd (upd (upd (fun _ => 0) (0 : Int32).toNatClampNeg 0) (1 : Int32).toNatClampNeg 1) (2 : Int32).toNatClampNeg 2))) ∧ f1 bl = some (.inl (cI G, 3, .inl (fun j => if j < 3 then (-1) else (fun _ => 0) j))) ∧ f1 bg = some (.inl (cI G, 60, .inl (fun _ => 0))) ∧ bs ≠ bp ∧ bh ≠ bp ∧ bf ≠ bl ∧ hKeep [bu] f f1 ∧ NF f f1) (fun E f1 => False) := by
  refine hp_start hl (own := RX0) (by decide) rfl (Nat.le_of_ble_eq_true rfl) ?_
  intro p e s m args below meth c B0 hr hnm hout hw hS ls hl9
  have hx := B0.1
  have hb := B0.2.1
  have hl9 : lv_has ls 2 [(0, .ref bu)] := hl9
  refine lv_aload_n hx hb dX0_init_0 rfl (lv_at hl9 0 rfl) ?_
  refine W.objInit hx hb B0.2.2.2.1 (B0.2.2.2.2.1 _ qM_X0_3) (B0.2.2.2.2.1 _ qi_obj) (B0.2.2.2.2.1 _ qc_obj) rfl (by rw [B0.2.2.1]; exact hl9.1) rfl dX0_init_1 (Nat.le_of_ble_eq_true rfl) (Nat.le_of_ble_eq_true rfl) ?_
  refine W.eq (g2 := F0 m 4 ls []) rfl ?_
  refine lv_aload_n hx hb dX0_init_4 rfl (lv_at hl9 0 rfl) ?_
  refine lv_bipush (v := 61) hx hb dX0_init_5 (by decide) ?_
  refine hp_newaI (N' := 61) B0 hw hS qA_int (by decide) (by decide) (Nat.le_of_ble_eq_true rfl) (Nat.le_of_ble_eq_true rfl) (Nat.le_of_ble_eq_true rfl) dX0_init_7 (fun q1 H f3 w2 ef3 hw hS => ?_)
  have h4 : f3 q1 = some (.inl (cI G, 61, .inl (fun _ => 0))) := by rw [ef3, va_up_self]
  have h5 : f3 bu = some (.inr (0, [.null, .null, .null, .null, .null, .null, .int 0, .int 0, .int 0])) := by rw [ef3, va_up_ne _ _ (hnew k_bu w2)]; exact k_bu
  refine hp_putF (fs1 := [.ref q1, .null, .null, .null, .null, .null, .int 0, .int 0, .int 0]) (ty := .array .int) B0 hw hS 0 rfl in_X0 tyX0 tyX0_ok nmX0 h5 0 (by decide) qF_X0_9 rfl hnm rfl (by decide +kernel) rfl rfl (Nat.le_of_ble_eq_true rfl) rfl dX0_init_9 (fun H locs f6 ef6 hw hS => ?_)
  have h7 : f6 bu = some (.inr (0, [.ref q1, .null, .null, .null, .null, .null, .int 0, .int 0, .int 0])) := by rw [ef6, va_up_self]
  refine lv_aload_n hx hb dX0_init_12 rfl (lv_at hl9 0 rfl) ?_
  refine lv_sipush (v := 240) hx hb dX0_init_13 (by decide) ?_
  refine hp_newaI (N' := 240) B0 hw hS qA_int (by decide) (by decide) (Nat.le_of_ble_eq_true rfl) (Nat.le_of_ble_eq_true rfl) (Nat.le_of_ble_eq_true rfl) dX0_init_16 (fun q8 H f10 w9 ef10 hw hS => ?_)
  have h11 : f10 q8 = some (.inl (cI G, 240, .inl (fun _ => 0))) := by rw [ef10, va_up_self]
  have h12 : f10 bu = some (.inr (0, [.ref q1, .null, .null, .null, .null, .null, .int 0, .int 0, .int 0])) := by rw [ef10, va_up_ne _ _ (hnew h7 w9)]; exact h7
  refine hp_putF (fs1 := [.ref q1, .ref q8, .null, .null, .null, .null, .int 0, .int 0, .int 0]) (ty := .array .int) B0 hw hS 0 rfl in_X0 tyX0 tyX0_ok nmX0 h12 1 (by decide) qF_X0_15 rfl hnm rfl (by decide +kernel) rfl rfl (Nat.le_of_ble_eq_true rfl) rfl dX0_init_18 (fun H locs f13 ef13 hw hS => ?_)
  have h14 : f13 bu = some (.inr (0, [.ref q1, .ref q8, .null, .null, .null, .null, .int 0, .int 0, .int 0])) := by rw [ef13, va_up_self]
  refine lv_aload_n hx hb dX0_init_21 rfl (lv_at hl9 0 rfl) ?_
  refine lv_sipush (v := 240) hx hb dX0_init_22 (by decide) ?_
  refine hp_newaZ (N' := 240) B0 hw hS qA_boolean (by decide) (by decide) (Nat.le_of_ble_eq_true rfl) (Nat.le_of_ble_eq_true rfl) (Nat.le_of_ble_eq_true rfl) dX0_init_25 (fun q15 H f17 w16 ef17 hw hS => ?_)
  have h18 : f17 q15 = some (.inl (cZ G, 240, .inl (fun _ => 0))) := by rw [ef17, va_up_self]
  have h19 : f17 bu = some (.inr (0, [.ref q1, .ref q8, .null, .null, .null, .null, .int 0, .int 0, .int 0])) := by rw [ef17, va_up_ne _ _ (hnew h14 w16)]; exact h14
  refine hp_putF (fs1 := [.ref q1, .ref q8, .ref q15, .null, .null, .null, .int 0, .int 0, .int 0]) (ty := .array .boolean) B0 hw hS 0 rfl in_X0 tyX0 tyX0_ok nmX0 h19 2 (by decide) qF_X0_18 rfl hnm rfl (by decide +kernel) rfl rfl (Nat.le_of_ble_eq_true rfl) rfl dX0_init_27 (fun H locs f20 ef20 hw hS => ?_)
  have h21 : f20 bu = some (.inr (0, [.ref q1, .ref q8, .ref q15, .null, .null, .null, .int 0, .int 0, .int 0])) := by rw [ef20, va_up_self]
  refine lv_aload_n hx hb dX0_init_30 rfl (lv_at hl9 0 rfl) ?_
  refine lv_iconst (v := 3) hx hb dX0_init_31 (by decide) ?_
  refine hp_newaI (N' := 3) B0 hw hS qA_int (by decide) (by decide) (Nat.le_of_ble_eq_true rfl) (Nat.le_of_ble_eq_true rfl) (Nat.le_of_ble_eq_true rfl) dX0_init_32 (fun q22 H f24 w23 ef24 hw hS => ?_)
  have h25 : f24 q22 = some (.inl (cI G, 3, .inl (fun _ => 0))) := by rw [ef24, va_up_self]
  have h26 : f24 bu = some (.inr (0, [.ref q1, .ref q8, .ref q15, .null, .null, .null, .int 0, .int 0, .int 0])) := by rw [ef24, va_up_ne _ _ (hnew h21 w23)]; exact h21
  refine hp_putF (fs1 := [.ref q1, .ref q8, .ref q15, .ref q22, .null, .null, .int 0, .int 0, .int 0]) (ty := .array .int) B0 hw hS 0 rfl in_X0 tyX0 tyX0_ok nmX0 h26 3 (by decide) qF_X0_22 rfl hnm rfl (by decide +kernel) rfl rfl (Nat.le_of_ble_eq_true rfl) rfl dX0_init_34 (fun H locs f27 ef27 hw hS => ?_)
  have h28 : f27 bu = some (.inr (0, [.ref q1, .ref q8, .ref q15, .ref q22, .null, .null, .int 0, .int 0, .int 0])) := by rw [ef27, va_up_self]
  refine lv_aload_n hx hb dX0_init_37 rfl (lv_at hl9 0 rfl) ?_
  refine lv_iconst (v := 3) hx hb dX0_init_38 (by decide) ?_
  refine hp_newaI (N' := 3) B0 hw hS qA_int (by decide) (by decide) (Nat.le_of_ble_eq_true rfl) (Nat.le_of_ble_eq_true rfl) (Nat.le_of_ble_eq_true rfl) dX0_init_39 (fun q29 H f31 w30 ef31 hw hS => ?_)
  have h32 : f31 q29 = some (.inl (cI G, 3, .inl (fun _ => 0))) := by rw [ef31, va_up_self]
  have h33 : f31 bu = some (.inr (0, [.ref q1, .ref q8, .ref q15, .ref q22, .null, .null, .int 0, .int 0, .int 0])) := by rw [ef31, va_up_ne _ _ (hnew h28 w30)]; exact h28
  refine hp_putF (fs1 := [.ref q1, .ref q8, .ref q15, .ref q22, .ref q29, .null, .int 0, .int 0, .int 0]) (ty := .array .int) B0 hw hS 0 rfl in_X0 tyX0 tyX0_ok nmX0 h33 4 (by decide) qF_X0_25 rfl hnm rfl (by decide +kernel) rfl rfl (Nat.le_of_ble_eq_true rfl) rfl dX0_init_41 (fun H locs f34 ef34 hw hS => ?_)
  have h35 : f34 bu = some (.inr (0, [.ref q1, .ref q8, .ref q15, .ref q22, .ref q29, .null, .int 0, .int 0, .int 0])) := by rw [ef34, va_up_self]
  refine lv_aload_n hx hb dX0_init_44 rfl (lv_at hl9 0 rfl) ?_
  refine lv_bipush (v := 60) hx hb dX0_init_45 (by decide) ?_
  refine hp_newaI (N' := 60) B0 hw hS qA_int (by decide) (by decide) (Nat.le_of_ble_eq_true rfl) (Nat.le_of_ble_eq_true rfl) (Nat.le_of_ble_eq_true rfl) dX0_init_47 (fun q36 H f38 w37 ef38 hw hS => ?_)
  have h39 : f38 q36 = some (.inl (cI G, 60, .inl (fun _ => 0))) := by rw [ef38, va_up_self]
  have h40 : f38 bu = some (.inr (0, [.ref q1, .ref q8, .ref q15, .ref q22, .ref q29, .null, .int 0, .int 0, .int 0])) := by rw [ef38, va_up_ne _ _ (hnew h35 w37)]; exact h35
  refine hp_putF (fs1 := [.ref q1, .ref q8, .ref q15, .ref q22, .ref q29, .ref q36, .int 0, .int 0, .int 0]) (ty := .array .int) B0 hw hS 0 rfl in_X0 tyX0 tyX0_ok nmX0 h40 5 (by decide) qF_X0_28 rfl hnm rfl (by decide +kernel) rfl rfl (Nat.le_of_ble_eq_true rfl) rfl dX0_init_49 (fun H locs f41 ef41 hw hS => ?_)
  have h42 : f41 bu = some (.inr (0, [.ref q1, .ref q8, .ref q15, .ref q22, .ref q29, .ref q36, .int 0, .int 0, .int 0])) := by rw [ef41, va_up_self]
  refine lv_aload_n hx hb dX0_init_52 rfl (lv_at hl9 0 rfl) ?_
  refine lv_iconst (v := 0) hx hb dX0_init_53 (by decide) ?_
  refine hp_put (fs1 := [.ref q1, .ref q8, .ref q15, .ref q22, .ref q29, .ref q36, .int 0, .int 0, .int 0]) (ty := .int) B0 hw hS 0 rfl in_X0 tyX0 tyX0_ok nmX0 h42 6 (by decide) qF_X0_31 rfl (by decide +kernel) rfl rfl (Nat.le_of_ble_eq_true rfl) rfl dX0_init_54 (fun H locs f43 ef43 hw hS => ?_)
  have e44 : f43 = va_up f38 bu (some (.inr (0, [.ref q1, .ref q8, .ref q15, .ref q22, .ref q29, .ref q36, .int 0, .int 0, .int 0]))) := by rw [ef43, ef41, bx_uu]
  have h45 : f43 bu = some (.inr (0, [.ref q1, .ref q8, .ref q15, .ref q22, .ref q29, .ref q36, .int 0, .int 0, .int 0])) := by rw [ef43, va_up_self]
  refine lv_aload_n hx hb dX0_init_57 rfl (lv_at hl9 0 rfl) ?_
  refine lv_iconst (v := 0) hx hb dX0_init_58 (by decide) ?_
  refine hp_put (fs1 := [.ref q1, .ref q8, .ref q15, .ref q22, .ref q29, .ref q36, .int 0, .int 0, .int 0]) (ty := .int) B0 hw hS 0 rfl in_X0 tyX0 tyX0_ok nmX0 h45 7 (by decide) qF_X0_35 rfl (by decide +kernel) rfl rfl (Nat.le_of_ble_eq_true rfl) rfl dX0_init_59 (fun H locs f46 ef46 hw hS => ?_)
  have e47 : f46 = va_up f38 bu (some (.inr (0, [.ref q1, .ref q8, .ref q15, .ref q22, .ref q29, .ref q36, .int 0, .int 0, .int 0]))) := by rw [ef46, e44, bx_uu]
  have h48 : f46 bu = some (.inr (0, [.ref q1, .ref q8, .ref q15, .ref q22, .ref q29, .ref q36, .int 0, .int 0, .int 0])) := by rw [ef46, va_up_self]
  refine lv_aload_n hx hb dX0_init_62 rfl (lv_at hl9 0 rfl) ?_
  refine lv_iconst (v := 0) hx hb dX0_init_63 (by decide) ?_
  refine hp_put (fs1 := [.ref q1, .ref q8, .ref q15, .ref q22, .ref q29, .ref q36, .int 0, .int 0, .int 0]) (ty := .int) B0 hw hS 0 rfl in_X0 tyX0 tyX0_ok nmX0 h48 8 (by decide) qF_X0_38 rfl (by decide +kernel) rfl rfl (Nat.le_of_ble_eq_true rfl) rfl dX0_init_64 (fun H locs f49 ef49 hw hS => ?_)
  have e50 : f49 = va_up f38 bu (some (.inr (0, [.ref q1, .ref q8, .ref q15, .ref q22, .ref q29, .ref q36, .int 0, .int 0, .int 0]))) := by rw [ef49, e47, bx_uu]
  have h51 : f49 bu = some (.inr (0, [.ref q1, .ref q8, .ref q15, .ref q22, .ref q29, .ref q36, .int 0, .int 0, .int 0])) := by rw [ef49, va_up_self]
  refine lv_iconst (v := 0) hx hb dX0_init_67 (by decide) ?_
  refine lv_istore_n (lv' := [(1, .int 0), (0, .ref bu)]) hx hb dX0_init_68 rfl hl9 (by decide) rfl (fun ls hl9 => ?_)
  refine lv_iload_n hx hb dX0_init_69 rfl (lv_at hl9 0 rfl) ?_
  refine lv_iconst (v := 3) hx hb dX0_init_70 (by decide) ?_
  refine lv_icmp_ge (tgt := 87) hx hb dX0_init_71 (by decide) (fun c9 => absurd c9 (by decide)) (fun _ => ?_)
  refine lv_aload_n hx hb dX0_init_74 rfl (lv_at hl9 1 rfl) ?_
  refine hp_get B0 hw 0 rfl in_X0 h51 3 (by decide) qF_X0_22 rfl dX0_init_75 ?_
  refine lv_iload_n hx hb dX0_init_78 rfl (lv_at hl9 0 rfl) ?_
  refine lv_iload_n hx hb dX0_init_79 rfl (lv_at hl9 0 rfl) ?_
  have n53 : bu ≠ q22 := hnew h21 w23
  have h52 : f27 q22 = some (.inl (cI G, 3, .inl (fun _ => 0))) := by rw [ef27, va_up_ne _ _ (Ne.symm n53)]; exact h25
  have h54 : f31 q22 = some (.inl (cI G, 3, .inl (fun _ => 0))) := by rw [ef31, va_up_ne _ _ (hnew h52 w30)]; exact h52
  have h55 : f34 q22 = some (.inl (cI G, 3, .inl (fun _ => 0))) := by rw [ef34, va_up_ne _ _ (Ne.symm n53)]; exact h54
  have h56 : f38 q22 = some (.inl (cI G, 3, .inl (fun _ => 0))) := by rw [ef38, va_up_ne _ _ (hnew h55 w37)]; exact h55
  have h57 : f49 q22 = some (.inl (cI G, 3, .inl (fun _ => 0))) := by rw [e50, va_up_ne _ _ (Ne.symm n53)]; exact h56
  refine hp_iast B0 hw hS h57 (by unfold vp_in; decide) dX0_init_80 (fun H locs f58 ef58 hw hS => ?_)
  have h59 : f58 q22 = some (.inl (cI G, 3, .inl (upd (fun _ => 0) (0 : Int32).toNatClampNeg 0))) := by rw [ef58, va_up_self]
  refine lv_iinc (v := 1) (lv' := [(1, .int 1), (0, .ref bu)]) hx hb dX0_init_81 hl9 (k := 0) rfl (by decide) (by decide) rfl (fun ls hl9 => ?_)
  refine lv_goto (tgt := 69) hx hb dX0_init_84 (by decide) ?_
  refine lv_iload_n hx hb dX0_init_69 rfl (lv_at hl9 0 rfl) ?_
  refine lv_iconst (v := 3) hx hb dX0_init_70 (by decide) ?_
  refine lv_icmp_ge (tgt := 87) hx hb dX0_init_71 (by decide) (fun c9 => absurd c9 (by decide)) (fun _ => ?_)
  refine lv_aload_n hx hb dX0_init_74 rfl (lv_at hl9 1 rfl) ?_
  have h60 : f58 bu = some (.inr (0, [.ref q1, .ref q8, .ref q15, .ref q22, .ref q29, .ref q36, .int 0, .int 0, .int 0])) := by rw [ef58, va_up_ne _ _ n53]; exact h51
  refine hp_get B0 hw 0 rfl in_X0 h60 3 (by decide) qF_X0_22 rfl dX0_init_75 ?_
  refine lv_iload_n hx hb dX0_init_78 rfl (lv_at hl9 0 rfl) ?_
  refine lv_iload_n hx hb dX0_init_79 rfl (lv_at hl9 0 rfl) ?_
  refine hp_iast B0 hw hS h59 (by unfold vp_in; decide) dX0_init_80 (fun H locs f61 ef61 hw hS => ?_)
  have e62 : f61 = va_up f49 q22 (some (.inl (cI G, 3, .inl (upd (upd (fun _ => 0) (0 : Int32).toNatClampNeg 0) (1 : Int32).toNatClampNeg 1)))) := by rw [ef61, ef58, bx_uu]
  have h63 : f61 q22 = some (.inl (cI G, 3, .inl (upd (upd (fun _ => 0) (0 : Int32).toNatClampNeg 0) (1 : Int32).toNatClampNeg 1))) := by rw [ef61, va_up_self]
  refine lv_iinc (v := 2) (lv' := [(1, .int 2), (0, .ref bu)]) hx hb dX0_init_81 hl9 (k := 0) rfl (by decide) (by decide) rfl (fun ls hl9 => ?_)
  refine lv_goto (tgt := 69) hx hb dX0_init_84 (by decide) ?_
  refine lv_iload_n hx hb dX0_init_69 rfl (lv_at hl9 0 rfl) ?_
  refine lv_iconst (v := 3) hx hb dX0_init_70 (by decide) ?_
  refine lv_icmp_ge (tgt := 87) hx hb dX0_init_71 (by decide) (fun c9 => absurd c9 (by decide)) (fun _ => ?_)
  refine lv_aload_n hx hb dX0_init_74 rfl (lv_at hl9 1 rfl) ?_
  have h64 : f61 bu = some (.inr (0, [.ref q1, .ref q8, .ref q15, .ref q22, .ref q29, .ref q36, .int 0, .int 0, .int 0])) := by rw [e62, va_up_ne _ _ n53]; exact h51
  refine hp_get B0 hw 0 rfl in_X0 h64 3 (by decide) qF_X0_22 rfl dX0_init_75 ?_
  refine lv_iload_n hx hb dX0_init_78 rfl (lv_at hl9 0 rfl) ?_
  refine lv_iload_n hx hb dX0_init_79 rfl (lv_at hl9 0 rfl) ?_
  refine hp_iast B0 hw hS h63 (by unfold vp_in; decide) dX0_init_80 (fun H locs f65 ef65 hw hS => ?_)
  have e66 : f65 = va_up f49 q22 (some (.inl (cI G, 3, .inl (upd (upd (upd (fun _ => 0) (0 : Int32).toNatClampNeg 0) (1 : Int32).toNatClampNeg 1) (2 : Int32).toNatClampNeg 2)))) := by rw [ef65, e62, bx_uu]
  have h67 : f65 q22 = some (.inl (cI G, 3, .inl (upd (upd (upd (fun _ => 0) (0 : Int32).toNatClampNeg 0) (1 : Int32).toNatClampNeg 1) (2 : Int32).toNatClampNeg 2))) := by rw [ef65, va_up_self]
  refine lv_iinc (v := 3) (lv' := [(1, .int 3), (0, .ref bu)]) hx hb dX0_init_81 hl9 (k := 0) rfl (by decide) (by decide) rfl (fun ls hl9 => ?_)
  refine lv_goto (tgt := 69) hx hb dX0_init_84 (by decide) ?_
  refine lv_iload_n hx hb dX0_init_69 rfl (lv_at hl9 0 rfl) ?_
  refine lv_iconst (v := 3) hx hb dX0_init_70 (by decide) ?_
  refine lv_icmp_ge (tgt := 87) hx hb dX0_init_71 (by decide) (fun _ => ?_) (fun c9 => absurd (by decide) c9)
  refine lv_aload_n hx hb dX0_init_87 rfl (lv_at hl9 1 rfl) ?_
  have h68 : f65 bu = some (.inr (0, [.ref q1, .ref q8, .ref q15, .ref q22, .ref q29, .ref q36, .int 0, .int 0, .int 0])) := by rw [e66, va_up_ne _ _ n53]; exact h51
  refine hp_get B0 hw 0 rfl in_X0 h68 4 (by decide) qF_X0_25 rfl dX0_init_88 ?_
  refine lv_iconst (v := (-1)) hx hb dX0_init_91 (by decide) ?_
  have n70 : bu ≠ q29 := hnew h28 w30
  have h69 : f34 q29 = some (.inl (cI G, 3, .inl (fun _ => 0))) := by rw [ef34, va_up_ne _ _ (Ne.symm n70)]; exact h32
  have h71 : f38 q29 = some (.inl (cI G, 3, .inl (fun _ => 0))) := by rw [ef38, va_up_ne _ _ (hnew h69 w37)]; exact h69
  have h72 : f49 q29 = some (.inl (cI G, 3, .inl (fun _ => 0))) := by rw [e50, va_up_ne _ _ (Ne.symm n70)]; exact h71
  have n74 : q22 ≠ q29 := hnew h52 w30
  have h73 : f65 q29 = some (.inl (cI G, 3, .inl (fun _ => 0))) := by rw [e66, va_up_ne _ _ (Ne.symm n74)]; exact h72
  refine hp_S (As := [.ref q29, .int (-1)]) (rest := []) B0 hw hS (c_J7_fill3 hl G f65 q29 (fun _ => 0) h73 (-1)) mS_J7_fill_53178 qM_X0_41 rfl rfl hl9.1 (Nat.le_of_ble_eq_true rfl) ⟨⟨Nat.le_of_ble_eq_true rfl, Nat.le_of_ble_eq_true rfl⟩, Nat.le_of_ble_eq_true rfl, Nat.le_of_ble_eq_true rfl⟩ dX0_init_92 (fun E ce q9 f75 H locs hPX hw hS hce hcv hcl => ?_) (fun v f75 H locs hP hw hS => ?_)
  · exact hPX.elim
  · obtain ⟨ev9, h76, k77, z78⟩ := hP
    subst ev9
    refine W.eq (g2 := F0 m 95 ls []) rfl ?_
    have h79 : f75 bu = some (.inr (0, [.ref q1, .ref q8, .ref q15, .ref q22, .ref q29, .ref q36, .int 0, .int 0, .int 0])) := k77 _ _ h68 (ninc n70 nin0)
    have n81 : bu ≠ q1 := hnew k_bu w2
    have h80 : f6 q1 = some (.inl (cI G, 61, .inl (fun _ => 0))) := by rw [ef6, va_up_ne _ _ (Ne.symm n81)]; exact h4
    have h82 : f10 q1 = some (.inl (cI G, 61, .inl (fun _ => 0))) := by rw [ef10, va_up_ne _ _ (hnew h80 w9)]; exact h80
    have h83 : f13 q1 = some (.inl (cI G, 61, .inl (fun _ => 0))) := by rw [ef13, va_up_ne _ _ (Ne.symm n81)]; exact h82
    have h84 : f17 q1 = some (.inl (cI G, 61, .inl (fun _ => 0))) := by rw [ef17, va_up_ne _ _ (hnew h83 w16)]; exact h83
    have h85 : f20 q1 = some (.inl (cI G, 61, .inl (fun _ => 0))) := by rw [ef20, va_up_ne _ _ (Ne.symm n81)]; exact h84
    have h86 : f24 q1 = some (.inl (cI G, 61, .inl (fun _ => 0))) := by rw [ef24, va_up_ne _ _ (hnew h85 w23)]; exact h85
    have h87 : f27 q1 = some (.inl (cI G, 61, .inl (fun _ => 0))) := by rw [ef27, va_up_ne _ _ (Ne.symm n81)]; exact h86
    have h88 : f31 q1 = some (.inl (cI G, 61, .inl (fun _ => 0))) := by rw [ef31, va_up_ne _ _ (hnew h87 w30)]; exact h87
    have h89 : f34 q1 = some (.inl (cI G, 61, .inl (fun _ => 0))) := by rw [ef34, va_up_ne _ _ (Ne.symm n81)]; exact h88
    have h90 : f38 q1 = some (.inl (cI G, 61, .inl (fun _ => 0))) := by rw [ef38, va_up_ne _ _ (hnew h89 w37)]; exact h89
    have h91 : f49 q1 = some (.inl (cI G, 61, .inl (fun _ => 0))) := by rw [e50, va_up_ne _ _ (Ne.symm n81)]; exact h90
    have n93 : q1 ≠ q22 := hnew h85 w23
    have h92 : f65 q1 = some (.inl (cI G, 61, .inl (fun _ => 0))) := by rw [e66, va_up_ne _ _ n93]; exact h91
    have n95 : q1 ≠ q29 := hnew h87 w30
    have h94 : f75 q1 = some (.inl (cI G, 61, .inl (fun _ => 0))) := k77 _ _ h92 (ninc n95 nin0)
    have n97 : bu ≠ q8 := hnew h7 w9
    have h96 : f13 q8 = some (.inl (cI G, 240, .inl (fun _ => 0))) := by rw [ef13, va_up_ne _ _ (Ne.symm n97)]; exact h11
    have h98 : f17 q8 = some (.inl (cI G, 240, .inl (fun _ => 0))) := by rw [ef17, va_up_ne _ _ (hnew h96 w16)]; exact h96
    have h99 : f20 q8 = some (.inl (cI G, 240, .inl (fun _ => 0))) := by rw [ef20, va_up_ne _ _ (Ne.symm n97)]; exact h98
    have h100 : f24 q8 = some (.inl (cI G, 240, .inl (fun _ => 0))) := by rw [ef24, va_up_ne _ _ (hnew h99 w23)]; exact h99
    have h101 : f27 q8 = some (.inl (cI G, 240, .inl (fun _ => 0))) := by rw [ef27, va_up_ne _ _ (Ne.symm n97)]; exact h100
    have h102 : f31 q8 = some (.inl (cI G, 240, .inl (fun _ => 0))) := by rw [ef31, va_up_ne _ _ (hnew h101 w30)]; exact h101
    have h103 : f34 q8 = some (.inl (cI G, 240, .inl (fun _ => 0))) := by rw [ef34, va_up_ne _ _ (Ne.symm n97)]; exact h102
    have h104 : f38 q8 = some (.inl (cI G, 240, .inl (fun _ => 0))) := by rw [ef38, va_up_ne _ _ (hnew h103 w37)]; exact h103
    have h105 : f49 q8 = some (.inl (cI G, 240, .inl (fun _ => 0))) := by rw [e50, va_up_ne _ _ (Ne.symm n97)]; exact h104
    have n107 : q8 ≠ q22 := hnew h99 w23
    have h106 : f65 q8 = some (.inl (cI G, 240, .inl (fun _ => 0))) := by rw [e66, va_up_ne _ _ n107]; exact h105
    have n109 : q8 ≠ q29 := hnew h101 w30
    have h108 : f75 q8 = some (.inl (cI G, 240, .inl (fun _ => 0))) := k77 _ _ h106 (ninc n109 nin0)
    have n111 : bu ≠ q15 := hnew h14 w16
    have h110 : f20 q15 = some (.inl (cZ G, 240, .inl (fun _ => 0))) := by rw [ef20, va_up_ne _ _ (Ne.symm n111)]; exact h18
    have h112 : f24 q15 = some (.inl (cZ G, 240, .inl (fun _ => 0))) := by rw [ef24, va_up_ne _ _ (hnew h110 w23)]; exact h110
    have h113 : f27 q15 = some (.inl (cZ G, 240, .inl (fun _ => 0))) := by rw [ef27, va_up_ne _ _ (Ne.symm n111)]; exact h112
    have h114 : f31 q15 = some (.inl (cZ G, 240, .inl (fun _ => 0))) := by rw [ef31, va_up_ne _ _ (hnew h113 w30)]; exact h113
    have h115 : f34 q15 = some (.inl (cZ G, 240, .inl (fun _ => 0))) := by rw [ef34, va_up_ne _ _ (Ne.symm n111)]; exact h114
    have h116 : f38 q15 = some (.inl (cZ G, 240, .inl (fun _ => 0))) := by rw [ef38, va_up_ne _ _ (hnew h115 w37)]; exact h115
    have h117 : f49 q15 = some (.inl (cZ G, 240, .inl (fun _ => 0))) := by rw [e50, va_up_ne _ _ (Ne.symm n111)]; exact h116
    have n119 : q15 ≠ q22 := hnew h110 w23
    have h118 : f65 q15 = some (.inl (cZ G, 240, .inl (fun _ => 0))) := by rw [e66, va_up_ne _ _ n119]; exact h117
    have n121 : q15 ≠ q29 := hnew h113 w30
    have h120 : f75 q15 = some (.inl (cZ G, 240, .inl (fun _ => 0))) := k77 _ _ h118 (ninc n121 nin0)
    have h122 : f75 q22 = some (.inl (cI G, 3, .inl (upd (upd (upd (fun _ => 0) (0 : Int32).toNatClampNeg 0) (1 : Int32).toNatClampNeg 1) (2 : Int32).toNatClampNeg 2))) := k77 _ _ h67 (ninc n74 nin0)
    have n124 : bu ≠ q36 := hnew h35 w37
    have h123 : f49 q36 = some (.inl (cI G, 60, .inl (fun _ => 0))) := by rw [e50, va_up_ne _ _ (Ne.symm n124)]; exact h39
    have n126 : q22 ≠ q36 := hnew h55 w37
    have h125 : f65 q36 = some (.inl (cI G, 60, .inl (fun _ => 0))) := by rw [e66, va_up_ne _ _ (Ne.symm n126)]; exact h123
    have n128 : q29 ≠ q36 := hnew h69 w37
    have h127 : f75 q36 = some (.inl (cI G, 60, .inl (fun _ => 0))) := k77 _ _ h125 (ninc (Ne.symm n128) nin0)
    have n129 : q1 ≠ q8 := hnew h80 w9
    have n130 : q8 ≠ q15 := hnew h96 w16
    have n131 : q1 ≠ q15 := hnew h83 w16
    have n132 : q15 ≠ q36 := hnew h115 w37
    have n133 : q8 ≠ q36 := hnew h103 w37
    have n134 : q1 ≠ q36 := hnew h89 w37
    exact hp_vret B0 hw hS hr ⟨Nat.le_of_ble_eq_true rfl, Nat.le_of_ble_eq_true rfl⟩ dX0_init_95 (⟨rfl, q1, q8, q15, q22, q29, q36, w2, (hKeep.none (hKeep.trn w2 ((show hKeep [q1, bu, q1] f f3 from (by rw [ef3]; exact hKeep.up (by simp))).tr (show hKeep [q1, bu, q1] f3 f6 from (by rw [ef6]; exact hKeep.up (by simp))))) w9 (ninc (Ne.symm n97) (ninc (Ne.symm n129) nin0))), (hKeep.none (hKeep.trn w2 ((show hKeep [q1, bu, q1, q8] f f3 from (by rw [ef3]; exact hKeep.up (by simp))).tr ((show hKeep [q1, bu, q1, q8] f3 f6 from (by rw [ef6]; exact hKeep.up (by simp))).tr (hKeep.trn w9 ((show hKeep [q8, q1, bu, q1, q8] f6 f10 from (by rw [ef10]; exact hKeep.up (by simp))).tr (show hKeep [q8, q1, bu, q1, q8] f10 f13 from (by rw [ef13]; exact hKeep.up (by simp)))))))) w16 (ninc (Ne.symm n111) (ninc (Ne.symm n131) (ninc (Ne.symm n130) nin0)))), (hKeep.none (hKeep.trn w2 ((show hKeep [q1, bu, q1, q8, q15] f f3 from (by rw [ef3]; exact hKeep.up (by simp))).tr ((show hKeep [q1, bu, q1, q8, q15] f3 f6 from (by rw [ef6]; exact hKeep.up (by simp))).tr (hKeep.trn w9 ((show hKeep [q8, q1, bu, q1, q8, q15] f6 f10 from (by rw [ef10]; exact hKeep.up (by simp))).tr ((show hKeep [q8, q1, bu, q1, q8, q15] f10 f13 from (by rw [ef13]; exact hKeep.up (by simp))).tr (hKeep.trn w16 ((show hKeep [q15, q8, q1, bu, q1, q8, q15] f13 f17 from (by rw [ef17]; exact hKeep.up (by simp))).tr (show hKeep [q15, q8, q1, bu, q1, q8, q15] f17 f20 from (by rw [ef20]; exact hKeep.up (by simp))))))))))) w23 (ninc (Ne.symm n53) (ninc (Ne.symm n93) (ninc (Ne.symm n107) (ninc (Ne.symm n119) nin0))))), (hKeep.none (hKeep.trn w2 ((show hKeep [q1, bu, q1, q8, q15, q22] f f3 from (by rw [ef3]; exact hKeep.up (by simp))).tr ((show hKeep [q1, bu, q1, q8, q15, q22] f3 f6 from (by rw [ef6]; exact hKeep.up (by simp))).tr (hKeep.trn w9 ((show hKeep [q8, q1, bu, q1, q8, q15, q22] f6 f10 from (by rw [ef10]; exact hKeep.up (by simp))).tr ((show hKeep [q8, q1, bu, q1, q8, q15, q22] f10 f13 from (by rw [ef13]; exact hKeep.up (by simp))).tr (hKeep.trn w16 ((show hKeep [q15, q8, q1, bu, q1, q8, q15, q22] f13 f17 from (by rw [ef17]; exact hKeep.up (by simp))).tr ((show hKeep [q15, q8, q1, bu, q1, q8, q15, q22] f17 f20 from (by rw [ef20]; exact hKeep.up (by simp))).tr (hKeep.trn w23 ((show hKeep [q22, q15, q8, q1, bu, q1, q8, q15, q22] f20 f24 from (by rw [ef24]; exact hKeep.up (by simp))).tr (show hKeep [q22, q15, q8, q1, bu, q1, q8, q15, q22] f24 f27 from (by rw [ef27]; exact hKeep.up (by simp)))))))))))))) w30 (ninc (Ne.symm n70) (ninc (Ne.symm n95) (ninc (Ne.symm n109) (ninc (Ne.symm n121) (ninc (Ne.symm n74) nin0)))))), (hKeep.none (hKeep.trn w2 ((show hKeep [q1, bu, q1, q8, q15, q22, q29] f f3 from (by rw [ef3]; exact hKeep.up (by simp))).tr ((show hKeep [q1, bu, q1, q8, q15, q22, q29] f3 f6 from (by rw [ef6]; exact hKeep.up (by simp))).tr (hKeep.trn w9 ((show hKeep [q8, q1, bu, q1, q8, q15, q22, q29] f6 f10 from (by rw [ef10]; exact hKeep.up (by simp))).tr ((show hKeep [q8, q1, bu, q1, q8, q15, q22, q29] f10 f13 from (by rw [ef13]; exact hKeep.up (by simp))).tr (hKeep.trn w16 ((show hKeep [q15, q8, q1, bu, q1, q8, q15, q22, q29] f13 f17 from (by rw [ef17]; exact hKeep.up (by simp))).tr ((show hKeep [q15, q8, q1, bu, q1, q8, q15, q22, q29] f17 f20 from (by rw [ef20]; exact hKeep.up (by simp))).tr (hKeep.trn w23 ((show hKeep [q22, q15, q8, q1, bu, q1, q8, q15, q22, q29] f20 f24 from (by rw [ef24]; exact hKeep.up (by simp))).tr ((show hKeep [q22, q15, q8, q1, bu, q1, q8, q15, q22, q29] f24 f27 from (by rw [ef27]; exact hKeep.up (by simp))).tr (hKeep.trn w30 ((show hKeep [q29, q22, q15, q8, q1, bu, q1, q8, q15, q22, q29] f27 f31 from (by rw [ef31]; exact hKeep.up (by simp))).tr (show hKeep [q29, q22, q15, q8, q1, bu, q1, q8, q15, q22, q29] f31 f34 from (by rw [ef34]; exact hKeep.up (by simp))))))))))))))))) w37 (ninc (Ne.symm n124) (ninc (Ne.symm n134) (ninc (Ne.symm n133) (ninc (Ne.symm n132) (ninc (Ne.symm n126) (ninc (Ne.symm n128) nin0))))))), h79, h94, h108, h120, h122, h76, h127, n129, (Ne.symm n130), n74, (hKeep.trn w2 ((show hKeep [q1, bu] f f3 from (by rw [ef3]; exact hKeep.up (by simp))).tr ((show hKeep [q1, bu] f3 f6 from (by rw [ef6]; exact hKeep.up (by simp))).tr (hKeep.trn w9 ((show hKeep [q8, q1, bu] f6 f10 from (by rw [ef10]; exact hKeep.up (by simp))).tr ((show hKeep [q8, q1, bu] f10 f13 from (by rw [ef13]; exact hKeep.up (by simp))).tr (hKeep.trn w16 ((show hKeep [q15, q8, q1, bu] f13 f17 from (by rw [ef17]; exact hKeep.up (by simp))).tr ((show hKeep [q15, q8, q1, bu] f17 f20 from (by rw [ef20]; exact hKeep.up (by simp))).tr (hKeep.trn w23 ((show hKeep [q22, q15, q8, q1, bu] f20 f24 from (by rw [ef24]; exact hKeep.up (by simp))).tr ((show hKeep [q22, q15, q8, q1, bu] f24 f27 from (by rw [ef27]; exact hKeep.up (by simp))).tr (hKeep.trn w30 ((show hKeep [q29, q22, q15, q8, q1, bu] f27 f31 from (by rw [ef31]; exact hKeep.up (by simp))).tr ((show hKeep [q29, q22, q15, q8, q1, bu] f31 f34 from (by rw [ef34]; exact hKeep.up (by simp))).tr (hKeep.trn w37 ((show hKeep [q36, q29, q22, q15, q8, q1, bu] f34 f38 from (by rw [ef38]; exact hKeep.up (by simp))).tr ((show hKeep [q36, q29, q22, q15, q8, q1, bu] f38 f49 from (by rw [e50]; exact hKeep.up (by simp))).tr ((show hKeep [q36, q29, q22, q15, q8, q1, bu] f49 f65 from (by rw [e66]; exact hKeep.up (by simp))).tr (show hKeep [q36, q29, q22, q15, q8, q1, bu] f65 f75 from (k77.mono (fun x9 hx9 => by simp only [List.mem_cons, List.not_mem_nil, or_false] at hx9 ⊢; omega)))))))))))))))))))))), ((show NF f f3 from (by rw [ef3]; exact NF.up (Nat.ne_of_beq_eq_false rfl))).tr ((show NF f3 f6 from (by rw [ef6]; exact NF.up (Nat.ne_of_beq_eq_false rfl))).tr ((show NF f6 f10 from (by rw [ef10]; exact NF.up (Nat.ne_of_beq_eq_false rfl))).tr ((show NF f10 f13 from (by rw [ef13]; exact NF.up (Nat.ne_of_beq_eq_false rfl))).tr ((show NF f13 f17 from (by rw [ef17]; exact NF.up (Nat.ne_of_beq_eq_false rfl))).tr ((show NF f17 f20 from (by rw [ef20]; exact NF.up (Nat.ne_of_beq_eq_false rfl))).tr ((show NF f20 f24 from (by rw [ef24]; exact NF.up (Nat.ne_of_beq_eq_false rfl))).tr ((show NF f24 f27 from (by rw [ef27]; exact NF.up (Nat.ne_of_beq_eq_false rfl))).tr ((show NF f27 f31 from (by rw [ef31]; exact NF.up (Nat.ne_of_beq_eq_false rfl))).tr ((show NF f31 f34 from (by rw [ef34]; exact NF.up (Nat.ne_of_beq_eq_false rfl))).tr ((show NF f34 f38 from (by rw [ef38]; exact NF.up (Nat.ne_of_beq_eq_false rfl))).tr ((show NF f38 f49 from (by rw [e50]; exact NF.up (Nat.ne_of_beq_eq_false rfl))).tr ((show NF f49 f65 from (by rw [e66]; exact NF.up (Nat.ne_of_beq_eq_false rfl))).tr z78)))))))))))))⟩)

set_option maxHeartbeats 4000000 in
set_option maxRecDepth 100000 in
theorem c_X4_init {l : Launch} (hl : l.stackTraces = false) (G : hG) (f : hM) (xo : Nat) (k_xo : f xo = some (.inr (4, [.null, .null, .null]))) : CT l yX4_init (.code yX4_init cX4_init 1 none) 3 54 17 680 G [.ref xo] f (fun v f1 => v = none ∧ ∃ ez eo bu nw0 na0 nq0 nr0 nw1 na1 nq1 nr1 bs bp bh bf bl bg : Nat, f ez = none ∧ f eo = none ∧ f bu = none ∧ f nw0 = none ∧ f na0 = none ∧ f nq0 = none ∧ f nr0 = none ∧ f nw1 = none ∧ f na1 = none ∧ f nq1 = none ∧ f nr1 = none ∧ f bs = none ∧ f bp = none ∧ f bh = none ∧ f bf = none ∧ f bl = none ∧ f bg = none ∧ f1 xo = some (.inr (4, [.ref ez, .ref eo, .ref bu])) ∧ f1 ez = some (.inr (1, [.ref nw0, .ref na0, .ref nq0, .ref nr0, .int 1, .int 0, .int 0, .int 0, .int (-1), .int 0, .int 0])) ∧ f1 nw0 = some (.inl (cI G, 6, .inl (fun j => if j < 6 then (-1) else (fun _ => 0) j))) ∧ f1 na0 = some (.inl (cI G, 6, .inl (fun _ => 0))) ∧ f1 nq0 = some (.inl (cI G, 6, .inl (fun j => if j < 6 then (-1) else (fun _ => 0) j))) ∧ f1 nr0 = some (.inr (3, [.null, .null, .int 0])) ∧ f1 eo = some (.inr (1, [.ref nw1, .ref na1, .ref nq1, .ref nr1, .int 2, .int 0, .int 0, .int 0, .int (-1), .int 0, .int 0])) ∧ f1 nw1 = some (.inl (cI G, 6, .inl (fun j => if j < 6 then (-1) else (fun _ => 0) j))) ∧ f1 na1 = some (.inl (cI G, 6, .inl (fun _ => 0))) ∧ f1 nq1 = some (.inl (cI G, 6, .inl (fun j => if j < 6 then (-1) else (fun _ => 0) j))) ∧ f1 nr1 = some (.inr (3, [.null, .null, .int 0])) ∧ f1 bu = some (.inr (0, [.ref bs, .ref bp, .ref bh, .ref bf, .ref bl, .ref bg, .int 0, .int 0, .int 0])) ∧ f1 bs = some (.inl (cI G, 61, .inl (fun _ => 0))) ∧ f1 bp = some (.inl (cI G, 240, .inl (fun _ => 0))) ∧ f1 bh = some (.inl (cZ G, 240, .inl (fun _ => 0))) ∧ f1 bf = some (.inl (cI G, 3, .inl (upd (upd (upd (fun _ => 0) (0 : Int32).toNatClampNeg 0) (1 : Int32).toNatClampNeg 1) (2 : Int32).toNatClampNeg 2))) ∧ f1 bl = some (.inl (cI G, 3, .inl (fun j => if j < 3 then (-1) else (fun _ => 0) j))) ∧ f1 bg = some (.inl (cI G, 60, .inl (fun _ => 0))) ∧ ez ≠ eo ∧ nr0 ≠ nr1 ∧ nw0 ≠ na0 ∧ nw0 ≠ nq0 ∧ nw0 ≠ nw1 ∧ nw0 ≠ na1 ∧ nw0 ≠ nq1 ∧ na0 ≠ nq0 ∧ na0 ≠ nw1 ∧ na0 ≠ na1 ∧ na0 ≠ nq1 ∧ nq0 ≠ nw1 ∧ nq0 ≠ na1 ∧ nq0 ≠ nq1 ∧ nw1 ≠ na1 ∧ nw1 ≠ nq1 ∧ na1 ≠ nq1 ∧ bh ≠ bp ∧ bf ≠ bl ∧ hKeep [xo] f f1 ∧ NF f f1) (fun E f1 => False) := by
  refine hp_start hl (own := RX4) (by decide) rfl (Nat.le_of_ble_eq_true rfl) ?_
  intro p e s m args below meth c B0 hr hnm hout hw hS ls hl9
  have hx := B0.1
  have hb := B0.2.1
  have hl9 : lv_has ls 1 [(0, .ref xo)] := hl9
  refine lv_aload_n hx hb dX4_init_0 rfl (lv_at hl9 0 rfl) ?_
  refine W.objInit hx hb B0.2.2.2.1 (B0.2.2.2.2.1 _ qM_X4_1) (B0.2.2.2.2.1 _ qi_obj) (B0.2.2.2.2.1 _ qc_obj) rfl (by rw [B0.2.2.1]; exact hl9.1) rfl dX4_init_1 (Nat.le_of_ble_eq_true rfl) (Nat.le_of_ble_eq_true rfl) ?_
  refine W.eq (g2 := F0 m 4 ls []) rfl ?_
  refine lv_aload_n hx hb dX4_init_4 rfl (lv_at hl9 0 rfl) ?_
  refine hp_new (fs := [.null, .null, .null, .null, .int 0, .int 0, .int 0, .int 0, .int 0, .int 0, .int 0]) B0 hw hS 1 rfl in_X1 tyX1 tyX1_ok qC_X4_7 qI_X1 qN_X1 (fun j hj => by rcases (show j = 0 ∨ j = 1 ∨ j = 2 ∨ j = 3 ∨ j = 4 ∨ j = 5 ∨ j = 6 ∨ j = 7 ∨ j = 8 ∨ j = 9 ∨ j = 10 by omega) with rfl | rfl | rfl | rfl | rfl | rfl | rfl | rfl | rfl | rfl | rfl <;> rfl) (Nat.le_of_ble_eq_true rfl) (Nat.le_of_ble_eq_true rfl) dX4_init_5 (fun q1 H f3 w2 ef3 hw hS => ?_)
  have h4 : f3 q1 = some (.inr (1, [.null, .null, .null, .null, .int 0, .int 0, .int 0, .int 0, .int 0, .int 0, .int 0])) := by rw [ef3, va_up_self]
  refine lv_dup hx hb dX4_init_8 rfl ?_
  refine lv_iconst (v := 1) hx hb dX4_init_9 (by decide) ?_
  refine hp_I (As := [.int 1]) (rest := [.ref q1, .ref xo]) (b := q1) B0 hw hS (c_X1_init hl G f3 q1 1 h4) mI_X1_init qM_X4_9 rfl rfl hl9.1 (Nat.le_of_ble_eq_true rfl) ⟨⟨Nat.le_of_ble_eq_true rfl, Nat.le_of_ble_eq_true rfl⟩, Nat.le_of_ble_eq_true rfl, Nat.le_of_ble_eq_true rfl⟩ dX4_init_10 (fun E ce q9 f5 H locs hPX hw hS hce hcv hcl => ?_) (fun v f5 H locs hP hw hS => ?_)
  · exact hPX.elim
  · obtain ⟨ev9, nw_6, na_6, nq_6, nr_6, wnw6, wna6, wnq6, wnr6, h7, h8, h9, h10, h11, n12, n13, n14, k15, z16⟩ := hP
    subst ev9
    refine W.eq (g2 := F0 m 13 ls [.ref q1, .ref xo]) rfl ?_
    have h17 : f3 xo = some (.inr (4, [.null, .null, .null])) := by rw [ef3, va_up_ne _ _ (hnew k_xo w2)]; exact k_xo
    have n19 : xo ≠ q1 := hnew k_xo w2
    have h18 : f5 xo = some (.inr (4, [.null, .null, .null])) := k15 _ _ h17 (ninc n19 nin0)
    refine hp_putF (fs1 := [.ref q1, .null, .null]) (ty := .object "OptionLine$End") B0 hw hS 4 rfl in_X4 tyX4 tyX4_ok nmX4 h18 0 (by decide) qF_X4_12 rfl hnm rfl (by decide +kernel) rfl rfl (Nat.le_of_ble_eq_true rfl) rfl dX4_init_13 (fun H locs f20 ef20 hw hS => ?_)
    have h21 : f20 xo = some (.inr (4, [.ref q1, .null, .null])) := by rw [ef20, va_up_self]
    refine lv_aload_n hx hb dX4_init_16 rfl (lv_at hl9 0 rfl) ?_
    refine hp_new (fs := [.null, .null, .null, .null, .int 0, .int 0, .int 0, .int 0, .int 0, .int 0, .int 0]) B0 hw hS 1 rfl in_X1 tyX1 tyX1_ok qC_X4_7 qI_X1 qN_X1 (fun j hj => by rcases (show j = 0 ∨ j = 1 ∨ j = 2 ∨ j = 3 ∨ j = 4 ∨ j = 5 ∨ j = 6 ∨ j = 7 ∨ j = 8 ∨ j = 9 ∨ j = 10 by omega) with rfl | rfl | rfl | rfl | rfl | rfl | rfl | rfl | rfl | rfl | rfl <;> rfl) (Nat.le_of_ble_eq_true rfl) (Nat.le_of_ble_eq_true rfl) dX4_init_17 (fun q22 H f24 w23 ef24 hw hS => ?_)
    have h25 : f24 q22 = some (.inr (1, [.null, .null, .null, .null, .int 0, .int 0, .int 0, .int 0, .int 0, .int 0, .int 0])) := by rw [ef24, va_up_self]
    refine lv_dup hx hb dX4_init_20 rfl ?_
    refine lv_iconst (v := 2) hx hb dX4_init_21 (by decide) ?_
    refine hp_I (As := [.int 2]) (rest := [.ref q22, .ref xo]) (b := q22) B0 hw hS (c_X1_init hl G f24 q22 2 h25) mI_X1_init qM_X4_9 rfl rfl hl9.1 (Nat.le_of_ble_eq_true rfl) ⟨⟨Nat.le_of_ble_eq_true rfl, Nat.le_of_ble_eq_true rfl⟩, Nat.le_of_ble_eq_true rfl, Nat.le_of_ble_eq_true rfl⟩ dX4_init_22 (fun E ce q9 f26 H locs hPX hw hS hce hcv hcl => ?_) (fun v f26 H locs hP hw hS => ?_)
    · exact hPX.elim
    · obtain ⟨ev9, nw_27, na_27, nq_27, nr_27, wnw27, wna27, wnq27, wnr27, h28, h29, h30, h31, h32, n33, n34, n35, k36, z37⟩ := hP
      subst ev9
      refine W.eq (g2 := F0 m 25 ls [.ref q22, .ref xo]) rfl ?_
      have h38 : f24 xo = some (.inr (4, [.ref q1, .null, .null])) := by rw [ef24, va_up_ne _ _ (hnew h21 w23)]; exact h21
      have n40 : xo ≠ q22 := hnew h21 w23
      have h39 : f26 xo = some (.inr (4, [.ref q1, .null, .null])) := k36 _ _ h38 (ninc n40 nin0)
      refine hp_putF (fs1 := [.ref q1, .ref q22, .null]) (ty := .object "OptionLine$End") B0 hw hS 4 rfl in_X4 tyX4 tyX4_ok nmX4 h39 1 (by decide) qF_X4_18 rfl hnm rfl (by decide +kernel) rfl rfl (Nat.le_of_ble_eq_true rfl) rfl dX4_init_25 (fun H locs f41 ef41 hw hS => ?_)
      have h42 : f41 xo = some (.inr (4, [.ref q1, .ref q22, .null])) := by rw [ef41, va_up_self]
      refine lv_aload_n hx hb dX4_init_28 rfl (lv_at hl9 0 rfl) ?_
      refine hp_new (fs := [.null, .null, .null, .null, .null, .null, .int 0, .int 0, .int 0]) B0 hw hS 0 rfl in_X0 tyX0 tyX0_ok qC_X4_21 qI_X0 qN_X0 (fun j hj => by rcases (show j = 0 ∨ j = 1 ∨ j = 2 ∨ j = 3 ∨ j = 4 ∨ j = 5 ∨ j = 6 ∨ j = 7 ∨ j = 8 by omega) with rfl | rfl | rfl | rfl | rfl | rfl | rfl | rfl | rfl <;> rfl) (Nat.le_of_ble_eq_true rfl) (Nat.le_of_ble_eq_true rfl) dX4_init_29 (fun q43 H f45 w44 ef45 hw hS => ?_)
      have h46 : f45 q43 = some (.inr (0, [.null, .null, .null, .null, .null, .null, .int 0, .int 0, .int 0])) := by rw [ef45, va_up_self]
      refine lv_dup hx hb dX4_init_32 rfl ?_
      refine hp_I (As := []) (rest := [.ref q43, .ref xo]) (b := q43) B0 hw hS (c_X0_init hl G f45 q43 h46) mI_X0_init qM_X4_23 rfl rfl hl9.1 (Nat.le_of_ble_eq_true rfl) ⟨⟨Nat.le_of_ble_eq_true rfl, Nat.le_of_ble_eq_true rfl⟩, Nat.le_of_ble_eq_true rfl, Nat.le_of_ble_eq_true rfl⟩ dX4_init_33 (fun E ce q9 f47 H locs hPX hw hS hce hcv hcl => ?_) (fun v f47 H locs hP hw hS => ?_)
      · exact hPX.elim
      · obtain ⟨ev9, bs_48, bp_48, bh_48, bf_48, bl_48, bg_48, wbs48, wbp48, wbh48, wbf48, wbl48, wbg48, h49, h50, h51, h52, h53, h54, h55, n56, n59, n60, k57, z58⟩ := hP
        subst ev9
        refine W.eq (g2 := F0 m 36 ls [.ref q43, .ref xo]) rfl ?_
        have h61 : f45 xo = some (.inr (4, [.ref q1, .ref q22, .null])) := by rw [ef45, va_up_ne _ _ (hnew h42 w44)]; exact h42
        have n63 : xo ≠ q43 := hnew h42 w44
        have h62 : f47 xo = some (.inr (4, [.ref q1, .ref q22, .null])) := k57 _ _ h61 (ninc n63 nin0)
        refine hp_putF (fs1 := [.ref q1, .ref q22, .ref q43]) (ty := .object "OptionLine$Bundle") B0 hw hS 4 rfl in_X4 tyX4 tyX4_ok nmX4 h62 2 (by decide) qF_X4_24 rfl hnm rfl (by decide +kernel) rfl rfl (Nat.le_of_ble_eq_true rfl) rfl dX4_init_36 (fun H locs f64 ef64 hw hS => ?_)
        have h65 : f64 xo = some (.inr (4, [.ref q1, .ref q22, .ref q43])) := by rw [ef64, va_up_self]
        have h66 : f20 q1 = some (.inr (1, [.ref nw_6, .ref na_6, .ref nq_6, .ref nr_6, .int 1, .int 0, .int 0, .int 0, .int (-1), .int 0, .int 0])) := by rw [ef20, va_up_ne _ _ (Ne.symm n19)]; exact h7
        have h67 : f24 q1 = some (.inr (1, [.ref nw_6, .ref na_6, .ref nq_6, .ref nr_6, .int 1, .int 0, .int 0, .int 0, .int (-1), .int 0, .int 0])) := by rw [ef24, va_up_ne _ _ (hnew h66 w23)]; exact h66
        have n69 : q1 ≠ q22 := hnew h66 w23
        have h68 : f26 q1 = some (.inr (1, [.ref nw_6, .ref na_6, .ref nq_6, .ref nr_6, .int 1, .int 0, .int 0, .int 0, .int (-1), .int 0, .int 0])) := k36 _ _ h67 (ninc n69 nin0)
        have h70 : f41 q1 = some (.inr (1, [.ref nw_6, .ref na_6, .ref nq_6, .ref nr_6, .int 1, .int 0, .int 0, .int 0, .int (-1), .int 0, .int 0])) := by rw [ef41, va_up_ne _ _ (Ne.symm n19)]; exact h68
        have h71 : f45 q1 = some (.inr (1, [.ref nw_6, .ref na_6, .ref nq_6, .ref nr_6, .int 1, .int 0, .int 0, .int 0, .int (-1), .int 0, .int 0])) := by rw [ef45, va_up_ne _ _ (hnew h70 w44)]; exact h70
        have n73 : q1 ≠ q43 := hnew h70 w44
        have h72 : f47 q1 = some (.inr (1, [.ref nw_6, .ref na_6, .ref nq_6, .ref nr_6, .int 1, .int 0, .int 0, .int 0, .int (-1), .int 0, .int 0])) := k57 _ _ h71 (ninc n73 nin0)
        have h74 : f64 q1 = some (.inr (1, [.ref nw_6, .ref na_6, .ref nq_6, .ref nr_6, .int 1, .int 0, .int 0, .int 0, .int (-1), .int 0, .int 0])) := by rw [ef64, va_up_ne _ _ (Ne.symm n19)]; exact h72
        have n76 : xo ≠ nw_6 := hnew h17 wnw6
        have h75 : f20 nw_6 = some (.inl (cI G, 6, .inl (fun j => if j < 6 then (-1) else (fun _ => 0) j))) := by rw [ef20, va_up_ne _ _ (Ne.symm n76)]; exact h8
        have h77 : f24 nw_6 = some (.inl (cI G, 6, .inl (fun j => if j < 6 then (-1) else (fun _ => 0) j))) := by rw [ef24, va_up_ne _ _ (hnew h75 w23)]; exact h75
        have n79 : nw_6 ≠ q22 := hnew h75 w23
        have h78 : f26 nw_6 = some (.inl (cI G, 6, .inl (fun j => if j < 6 then (-1) else (fun _ => 0) j))) := k36 _ _ h77 (ninc n79 nin0)
        have h80 : f41 nw_6 = some (.inl (cI G, 6, .inl (fun j => if j < 6 then (-1) else (fun _ => 0) j))) := by rw [ef41, va_up_ne _ _ (Ne.symm n76)]; exact h78
        have h81 : f45 nw_6 = some (.inl (cI G, 6, .inl (fun j => if j < 6 then (-1) else (fun _ => 0) j))) := by rw [ef45, va_up_ne _ _ (hnew h80 w44)]; exact h80
        have n83 : nw_6 ≠ q43 := hnew h80 w44
        have h82 : f47 nw_6 = some (.inl (cI G, 6, .inl (fun j => if j < 6 then (-1) else (fun _ => 0) j))) := k57 _ _ h81 (ninc n83 nin0)
        have h84 : f64 nw_6 = some (.inl (cI G, 6, .inl (fun j => if j < 6 then (-1) else (fun _ => 0) j))) := by rw [ef64, va_up_ne _ _ (Ne.symm n76)]; exact h82
        have n86 : xo ≠ na_6 := hnew h17 wna6
        have h85 : f20 na_6 = some (.inl (cI G, 6, .inl (fun _ => 0))) := by rw [ef20, va_up_ne _ _ (Ne.symm n86)]; exact h9
        have h87 : f24 na_6 = some (.inl (cI G, 6, .inl (fun _ => 0))) := by rw [ef24, va_up_ne _ _ (hnew h85 w23)]; exact h85
        have n89 : na_6 ≠ q22 := hnew h85 w23
        have h88 : f26 na_6 = some (.inl (cI G, 6, .inl (fun _ => 0))) := k36 _ _ h87 (ninc n89 nin0)
        have h90 : f41 na_6 = some (.inl (cI G, 6, .inl (fun _ => 0))) := by rw [ef41, va_up_ne _ _ (Ne.symm n86)]; exact h88
        have h91 : f45 na_6 = some (.inl (cI G, 6, .inl (fun _ => 0))) := by rw [ef45, va_up_ne _ _ (hnew h90 w44)]; exact h90
        have n93 : na_6 ≠ q43 := hnew h90 w44
        have h92 : f47 na_6 = some (.inl (cI G, 6, .inl (fun _ => 0))) := k57 _ _ h91 (ninc n93 nin0)
        have h94 : f64 na_6 = some (.inl (cI G, 6, .inl (fun _ => 0))) := by rw [ef64, va_up_ne _ _ (Ne.symm n86)]; exact h92
        have n96 : xo ≠ nq_6 := hnew h17 wnq6
        have h95 : f20 nq_6 = some (.inl (cI G, 6, .inl (fun j => if j < 6 then (-1) else (fun _ => 0) j))) := by rw [ef20, va_up_ne _ _ (Ne.symm n96)]; exact h10
        have h97 : f24 nq_6 = some (.inl (cI G, 6, .inl (fun j => if j < 6 then (-1) else (fun _ => 0) j))) := by rw [ef24, va_up_ne _ _ (hnew h95 w23)]; exact h95
        have n99 : nq_6 ≠ q22 := hnew h95 w23
        have h98 : f26 nq_6 = some (.inl (cI G, 6, .inl (fun j => if j < 6 then (-1) else (fun _ => 0) j))) := k36 _ _ h97 (ninc n99 nin0)
        have h100 : f41 nq_6 = some (.inl (cI G, 6, .inl (fun j => if j < 6 then (-1) else (fun _ => 0) j))) := by rw [ef41, va_up_ne _ _ (Ne.symm n96)]; exact h98
        have h101 : f45 nq_6 = some (.inl (cI G, 6, .inl (fun j => if j < 6 then (-1) else (fun _ => 0) j))) := by rw [ef45, va_up_ne _ _ (hnew h100 w44)]; exact h100
        have n103 : nq_6 ≠ q43 := hnew h100 w44
        have h102 : f47 nq_6 = some (.inl (cI G, 6, .inl (fun j => if j < 6 then (-1) else (fun _ => 0) j))) := k57 _ _ h101 (ninc n103 nin0)
        have h104 : f64 nq_6 = some (.inl (cI G, 6, .inl (fun j => if j < 6 then (-1) else (fun _ => 0) j))) := by rw [ef64, va_up_ne _ _ (Ne.symm n96)]; exact h102
        have n106 : xo ≠ nr_6 := hnew h17 wnr6
        have h105 : f20 nr_6 = some (.inr (3, [.null, .null, .int 0])) := by rw [ef20, va_up_ne _ _ (Ne.symm n106)]; exact h11
        have h107 : f24 nr_6 = some (.inr (3, [.null, .null, .int 0])) := by rw [ef24, va_up_ne _ _ (hnew h105 w23)]; exact h105
        have n109 : nr_6 ≠ q22 := hnew h105 w23
        have h108 : f26 nr_6 = some (.inr (3, [.null, .null, .int 0])) := k36 _ _ h107 (ninc n109 nin0)
        have h110 : f41 nr_6 = some (.inr (3, [.null, .null, .int 0])) := by rw [ef41, va_up_ne _ _ (Ne.symm n106)]; exact h108
        have h111 : f45 nr_6 = some (.inr (3, [.null, .null, .int 0])) := by rw [ef45, va_up_ne _ _ (hnew h110 w44)]; exact h110
        have n113 : nr_6 ≠ q43 := hnew h110 w44
        have h112 : f47 nr_6 = some (.inr (3, [.null, .null, .int 0])) := k57 _ _ h111 (ninc n113 nin0)
        have h114 : f64 nr_6 = some (.inr (3, [.null, .null, .int 0])) := by rw [ef64, va_up_ne _ _ (Ne.symm n106)]; exact h112
        have h115 : f41 q22 = some (.inr (1, [.ref nw_27, .ref na_27, .ref nq_27, .ref nr_27, .int 2, .int 0, .int 0, .int 0, .int (-1), .int 0, .int 0])) := by rw [ef41, va_up_ne _ _ (Ne.symm n40)]; exact h28
        have h116 : f45 q22 = some (.inr (1, [.ref nw_27, .ref na_27, .ref nq_27, .ref nr_27, .int 2, .int 0, .int 0, .int 0, .int (-1), .int 0, .int 0])) := by rw [ef45, va_up_ne _ _ (hnew h115 w44)]; exact h115
        have n118 : q22 ≠ q43 := hnew h115 w44
        have h117 : f47 q22 = some (.inr (1, [.ref nw_27, .ref na_27, .ref nq_27, .ref nr_27, .int 2, .int 0, .int 0, .int 0, .int (-1), .int 0, .int 0])) := k57 _ _ h116 (ninc n118 nin0)
        have h119 : f64 q22 = some (.inr (1, [.ref nw_27, .ref na_27, .ref nq_27, .ref nr_27, .int 2, .int 0, .int 0, .int 0, .int (-1), .int 0, .int 0])) := by rw [ef64, va_up_ne _ _ (Ne.symm n40)]; exact h117
        have n121 : xo ≠ nw_27 := hnew h38 wnw27
        have h120 : f41 nw_27 = some (.inl (cI G, 6, .inl (fun j => if j < 6 then (-1) else (fun _ => 0) j))) := by rw [ef41, va_up_ne _ _ (Ne.symm n121)]; exact h29
        have h122 : f45 nw_27 = some (.inl (cI G, 6, .inl (fun j => if j < 6 then (-1) else (fun _ => 0) j))) := by rw [ef45, va_up_ne _ _ (hnew h120 w44)]; exact h120
        have n124 : nw_27 ≠ q43 := hnew h120 w44
        have h123 : f47 nw_27 = some (.inl (cI G, 6, .inl (fun j => if j < 6 then (-1) else (fun _ => 0) j))) := k57 _ _ h122 (ninc n124 nin0)
        have h125 : f64 nw_27 = some (.inl (cI G, 6, .inl (fun j => if j < 6 then (-1) else (fun _ => 0) j))) := by rw [ef64, va_up_ne _ _ (Ne.symm n121)]; exact h123
        have n127 : xo ≠ na_27 := hnew h38 wna27
        have h126 : f41 na_27 = some (.inl (cI G, 6, .inl (fun _ => 0))) := by rw [ef41, va_up_ne _ _ (Ne.symm n127)]; exact h30
        have h128 : f45 na_27 = some (.inl (cI G, 6, .inl (fun _ => 0))) := by rw [ef45, va_up_ne _ _ (hnew h126 w44)]; exact h126
        have n130 : na_27 ≠ q43 := hnew h126 w44
        have h129 : f47 na_27 = some (.inl (cI G, 6, .inl (fun _ => 0))) := k57 _ _ h128 (ninc n130 nin0)
        have h131 : f64 na_27 = some (.inl (cI G, 6, .inl (fun _ => 0))) := by rw [ef64, va_up_ne _ _ (Ne.symm n127)]; exact h129
        have n133 : xo ≠ nq_27 := hnew h38 wnq27
        have h132 : f41 nq_27 = some (.inl (cI G, 6, .inl (fun j => if j < 6 then (-1) else (fun _ => 0) j))) := by rw [ef41, va_up_ne _ _ (Ne.symm n133)]; exact h31
        have h134 : f45 nq_27 = some (.inl (cI G, 6, .inl (fun j => if j < 6 then (-1) else (fun _ => 0) j))) := by rw [ef45, va_up_ne _ _ (hnew h132 w44)]; exact h132
        have n136 : nq_27 ≠ q43 := hnew h132 w44
        have h135 : f47 nq_27 = some (.inl (cI G, 6, .inl (fun j => if j < 6 then (-1) else (fun _ => 0) j))) := k57 _ _ h134 (ninc n136 nin0)
        have h137 : f64 nq_27 = some (.inl (cI G, 6, .inl (fun j => if j < 6 then (-1) else (fun _ => 0) j))) := by rw [ef64, va_up_ne _ _ (Ne.symm n133)]; exact h135
        have n139 : xo ≠ nr_27 := hnew h38 wnr27
        have h138 : f41 nr_27 = some (.inr (3, [.null, .null, .int 0])) := by rw [ef41, va_up_ne _ _ (Ne.symm n139)]; exact h32
        have h140 : f45 nr_27 = some (.inr (3, [.null, .null, .int 0])) := by rw [ef45, va_up_ne _ _ (hnew h138 w44)]; exact h138
        have n142 : nr_27 ≠ q43 := hnew h138 w44
        have h141 : f47 nr_27 = some (.inr (3, [.null, .null, .int 0])) := k57 _ _ h140 (ninc n142 nin0)
        have h143 : f64 nr_27 = some (.inr (3, [.null, .null, .int 0])) := by rw [ef64, va_up_ne _ _ (Ne.symm n139)]; exact h141
        have h144 : f64 q43 = some (.inr (0, [.ref bs_48, .ref bp_48, .ref bh_48, .ref bf_48, .ref bl_48, .ref bg_48, .int 0, .int 0, .int 0])) := by rw [ef64, va_up_ne _ _ (Ne.symm n63)]; exact h49
        have n146 : xo ≠ bs_48 := hnew h61 wbs48
        have h145 : f64 bs_48 = some (.inl (cI G, 61, .inl (fun _ => 0))) := by rw [ef64, va_up_ne _ _ (Ne.symm n146)]; exact h50
        have n148 : xo ≠ bp_48 := hnew h61 wbp48
        have h147 : f64 bp_48 = some (.inl (cI G, 240, .inl (fun _ => 0))) := by rw [ef64, va_up_ne _ _ (Ne.symm n148)]; exact h51
        have n150 : xo ≠ bh_48 := hnew h61 wbh48
        have h149 : f64 bh_48 = some (.inl (cZ G, 240, .inl (fun _ => 0))) := by rw [ef64, va_up_ne _ _ (Ne.symm n150)]; exact h52
        have n152 : xo ≠ bf_48 := hnew h61 wbf48
        have h151 : f64 bf_48 = some (.inl (cI G, 3, .inl (upd (upd (upd (fun _ => 0) (0 : Int32).toNatClampNeg 0) (1 : Int32).toNatClampNeg 1) (2 : Int32).toNatClampNeg 2))) := by rw [ef64, va_up_ne _ _ (Ne.symm n152)]; exact h53
        have n154 : xo ≠ bl_48 := hnew h61 wbl48
        have h153 : f64 bl_48 = some (.inl (cI G, 3, .inl (fun j => if j < 3 then (-1) else (fun _ => 0) j))) := by rw [ef64, va_up_ne _ _ (Ne.symm n154)]; exact h54
        have n156 : xo ≠ bg_48 := hnew h61 wbg48
        have h155 : f64 bg_48 = some (.inl (cI G, 60, .inl (fun _ => 0))) := by rw [ef64, va_up_ne _ _ (Ne.symm n156)]; exact h55
        have n157 : q1 ≠ nw_6 := hnew h4 wnw6
        have n158 : q1 ≠ na_6 := hnew h4 wna6
        have n159 : q1 ≠ nq_6 := hnew h4 wnq6
        have n160 : q1 ≠ nr_6 := hnew h4 wnr6
        have n161 : q22 ≠ nw_27 := hnew h25 wnw27
        have n162 : nr_6 ≠ nw_27 := hnew h107 wnw27
        have n163 : nq_6 ≠ nw_27 := hnew h97 wnw27
        have n164 : na_6 ≠ nw_27 := hnew h87 wnw27
        have n165 : nw_6 ≠ nw_27 := hnew h77 wnw27
        have n166 : q1 ≠ nw_27 := hnew h67 wnw27
        have n167 : q22 ≠ na_27 := hnew h25 wna27
        have n168 : nr_6 ≠ na_27 := hnew h107 wna27
        have n169 : nq_6 ≠ na_27 := hnew h97 wna27
        have n170 : na_6 ≠ na_27 := hnew h87 wna27
        have n171 : nw_6 ≠ na_27 := hnew h77 wna27
        have n172 : q1 ≠ na_27 := hnew h67 wna27
        have n173 : q22 ≠ nq_27 := hnew h25 wnq27
        have n174 : nr_6 ≠ nq_27 := hnew h107 wnq27
        have n175 : nq_6 ≠ nq_27 := hnew h97 wnq27
        have n176 : na_6 ≠ nq_27 := hnew h87 wnq27
        have n177 : nw_6 ≠ nq_27 := hnew h77 wnq27
        have n178 : q1 ≠ nq_27 := hnew h67 wnq27
        have n179 : q22 ≠ nr_27 := hnew h25 wnr27
        have n180 : nr_6 ≠ nr_27 := hnew h107 wnr27
        have n181 : nq_6 ≠ nr_27 := hnew h97 wnr27
        have n182 : na_6 ≠ nr_27 := hnew h87 wnr27
        have n183 : nw_6 ≠ nr_27 := hnew h77 wnr27
        have n184 : q1 ≠ nr_27 := hnew h67 wnr27
        have n185 : q43 ≠ bs_48 := hnew h46 wbs48
        have n186 : nr_27 ≠ bs_48 := hnew h140 wbs48
        have n187 : nq_27 ≠ bs_48 := hnew h134 wbs48
        have n188 : na_27 ≠ bs_48 := hnew h128 wbs48
        have n189 : nw_27 ≠ bs_48 := hnew h122 wbs48
        have n190 : q22 ≠ bs_48 := hnew h116 wbs48
        have n191 : nr_6 ≠ bs_48 := hnew h111 wbs48
        have n192 : nq_6 ≠ bs_48 := hnew h101 wbs48
        have n193 : na_6 ≠ bs_48 := hnew h91 wbs48
        have n194 : nw_6 ≠ bs_48 := hnew h81 wbs48
        have n195 : q1 ≠ bs_48 := hnew h71 wbs48
        have n196 : q43 ≠ bp_48 := hnew h46 wbp48
        have n197 : nr_27 ≠ bp_48 := hnew h140 wbp48
        have n198 : nq_27 ≠ bp_48 := hnew h134 wbp48
        have n199 : na_27 ≠ bp_48 := hnew h128 wbp48
        have n200 : nw_27 ≠ bp_48 := hnew h122 wbp48
        have n201 : q22 ≠ bp_48 := hnew h116 wbp48
        have n202 : nr_6 ≠ bp_48 := hnew h111 wbp48
        have n203 : nq_6 ≠ bp_48 := hnew h101 wbp48
        have n204 : na_6 ≠ bp_48 := hnew h91 wbp48
        have n205 : nw_6 ≠ bp_48 := hnew h81 wbp48
        have n206 : q1 ≠ bp_48 := hnew h71 wbp48
        have n207 : q43 ≠ bh_48 := hnew h46 wbh48
        have n208 : nr_27 ≠ bh_48 := hnew h140 wbh48
        have n209 : nq_27 ≠ bh_48 := hnew h134 wbh48
        have n210 : na_27 ≠ bh_48 := hnew h128 wbh48
        have n211 : nw_27 ≠ bh_48 := hnew h122 wbh48
        have n212 : q22 ≠ bh_48 := hnew h116 wbh48
        have n213 : nr_6 ≠ bh_48 := hnew h111 wbh48
        have n214 : nq_6 ≠ bh_48 := hnew h101 wbh48
        have n215 : na_6 ≠ bh_48 := hnew h91 wbh48
        have n216 : nw_6 ≠ bh_48 := hnew h81 wbh48
        have n217 : q1 ≠ bh_48 := hnew h71 wbh48
        have n218 : q43 ≠ bf_48 := hnew h46 wbf48
        have n219 : nr_27 ≠ bf_48 := hnew h140 wbf48
        have n220 : nq_27 ≠ bf_48 := hnew h134 wbf48
        have n221 : na_27 ≠ bf_48 := hnew h128 wbf48
        have n222 : nw_27 ≠ bf_48 := hnew h122 wbf48
        have n223 : q22 ≠ bf_48 := hnew h116 wbf48
        have n224 : nr_6 ≠ bf_48 := hnew h111 wbf48
        have n225 : nq_6 ≠ bf_48 := hnew h101 wbf48
        have n226 : na_6 ≠ bf_48 := hnew h91 wbf48
        have n227 : nw_6 ≠ bf_48 := hnew h81 wbf48
        have n228 : q1 ≠ bf_48 := hnew h71 wbf48
        have n229 : q43 ≠ bl_48 := hnew h46 wbl48
        have n230 : nr_27 ≠ bl_48 := hnew h140 wbl48
        have n231 : nq_27 ≠ bl_48 := hnew h134 wbl48
        have n232 : na_27 ≠ bl_48 := hnew h128 wbl48
        have n233 : nw_27 ≠ bl_48 := hnew h122 wbl48
        have n234 : q22 ≠ bl_48 := hnew h116 wbl48
        have n235 : nr_6 ≠ bl_48 := hnew h111 wbl48
        have n236 : nq_6 ≠ bl_48 := hnew h101 wbl48
        have n237 : na_6 ≠ bl_48 := hnew h91 wbl48
        have n238 : nw_6 ≠ bl_48 := hnew h81 wbl48
        have n239 : q1 ≠ bl_48 := hnew h71 wbl48
        have n240 : q43 ≠ bg_48 := hnew h46 wbg48
        have n241 : nr_27 ≠ bg_48 := hnew h140 wbg48
        have n242 : nq_27 ≠ bg_48 := hnew h134 wbg48
        have n243 : na_27 ≠ bg_48 := hnew h128 wbg48
        have n244 : nw_27 ≠ bg_48 := hnew h122 wbg48
        have n245 : q22 ≠ bg_48 := hnew h116 wbg48
        have n246 : nr_6 ≠ bg_48 := hnew h111 wbg48
        have n247 : nq_6 ≠ bg_48 := hnew h101 wbg48
        have n248 : na_6 ≠ bg_48 := hnew h91 wbg48
        have n249 : nw_6 ≠ bg_48 := hnew h81 wbg48
        have n250 : q1 ≠ bg_48 := hnew h71 wbg48
        exact hp_vret B0 hw hS hr ⟨Nat.le_of_ble_eq_true rfl, Nat.le_of_ble_eq_true rfl⟩ dX4_init_39 (⟨rfl, q1, q22, q43, nw_6, na_6, nq_6, nr_6, nw_27, na_27, nq_27, nr_27, bs_48, bp_48, bh_48, bf_48, bl_48, bg_48, w2, (hKeep.none (hKeep.trn w2 ((show hKeep [q1, xo, q1, nw_6, na_6, nq_6, nr_6] f f3 from (by rw [ef3]; exact hKeep.up (by simp))).tr ((show hKeep [q1, xo, q1, nw_6, na_6, nq_6, nr_6] f3 f5 from (k15.mono (fun x9 hx9 => by simp only [List.mem_cons, List.not_mem_nil, or_false] at hx9 ⊢; omega))).tr (show hKeep [q1, xo, q1, nw_6, na_6, nq_6, nr_6] f5 f20 from (by rw [ef20]; exact hKeep.up (by simp)))))) w23 (ninc (Ne.symm n40) (ninc (Ne.symm n69) (ninc (Ne.symm n79) (ninc (Ne.symm n89) (ninc (Ne.symm n99) (ninc (Ne.symm n109) nin0))))))), (hKeep.none (hKeep.trn w2 ((show hKeep [q1, xo, q1, nw_6, na_6, nq_6, nr_6, q22, nw_27, na_27, nq_27, nr_27] f f3 from (by rw [ef3]; exact hKeep.up (by simp))).tr ((show hKeep [q1, xo, q1, nw_6, na_6, nq_6, nr_6, q22, nw_27, na_27, nq_27, nr_27] f3 f5 from (k15.mono (fun x9 hx9 => by simp only [List.mem_cons, List.not_mem_nil, or_false] at hx9 ⊢; omega))).tr ((show hKeep [q1, xo, q1, nw_6, na_6, nq_6, nr_6, q22, nw_27, na_27, nq_27, nr_27] f5 f20 from (by rw [ef20]; exact hKeep.up (by simp))).tr (hKeep.trn w23 ((show hKeep [q22, q1, xo, q1, nw_6, na_6, nq_6, nr_6, q22, nw_27, na_27, nq_27, nr_27] f20 f24 from (by rw [ef24]; exact hKeep.up (by simp))).tr ((show hKeep [q22, q1, xo, q1, nw_6, na_6, nq_6, nr_6, q22, nw_27, na_27, nq_27, nr_27] f24 f26 from (k36.mono (fun x9 hx9 => by simp only [List.mem_cons, List.not_mem_nil, or_false] at hx9 ⊢; omega))).tr (show hKeep [q22, q1, xo, q1, nw_6, na_6, nq_6, nr_6, q22, nw_27, na_27, nq_27, nr_27] f26 f41 from (by rw [ef41]; exact hKeep.up (by simp)))))))))) w44 (ninc (Ne.symm n63) (ninc (Ne.symm n73) (ninc (Ne.symm n83) (ninc (Ne.symm n93) (ninc (Ne.symm n103) (ninc (Ne.symm n113) (ninc (Ne.symm n118) (ninc (Ne.symm n124) (ninc (Ne.symm n130) (ninc (Ne.symm n136) (ninc (Ne.symm n142) nin0)))))))))))), (hKeep.none (hKeep.trn w2 (show hKeep [q1, xo, q1] f f3 from (by rw [ef3]; exact hKeep.up (by simp)))) wnw6 (ninc (Ne.symm n76) (ninc (Ne.symm n157) nin0))), (hKeep.none (hKeep.trn w2 (show hKeep [q1, xo, q1] f f3 from (by rw [ef3]; exact hKeep.up (by simp)))) wna6 (ninc (Ne.symm n86) (ninc (Ne.symm n158) nin0))), (hKeep.none (hKeep.trn w2 (show hKeep [q1, xo, q1] f f3 from (by rw [ef3]; exact hKeep.up (by simp)))) wnq6 (ninc (Ne.symm n96) (ninc (Ne.symm n159) nin0))), (hKeep.none (hKeep.trn w2 (show hKeep [q1, xo, q1] f f3 from (by rw [ef3]; exact hKeep.up (by simp)))) wnr6 (ninc (Ne.symm n106) (ninc (Ne.symm n160) nin0))), (hKeep.none (hKeep.trn w2 ((show hKeep [q1, xo, q1, nw_6, na_6, nq_6, nr_6, q22] f f3 from (by rw [ef3]; exact hKeep.up (by simp))).tr ((show hKeep [q1, xo, q1, nw_6, na_6, nq_6, nr_6, q22] f3 f5 from (k15.mono (fun x9 hx9 => by simp only [List.mem_cons, List.not_mem_nil, or_false] at hx9 ⊢; omega))).tr ((show hKeep [q1, xo, q1, nw_6, na_6, nq_6, nr_6, q22] f5 f20 from (by rw [ef20]; exact hKeep.up (by simp))).tr (hKeep.trn w23 (show hKeep [q22, q1, xo, q1, nw_6, na_6, nq_6, nr_6, q22] f20 f24 from (by rw [ef24]; exact hKeep.up (by simp)))))))) wnw27 (ninc (Ne.symm n121) (ninc (Ne.symm n166) (ninc (Ne.symm n165) (ninc (Ne.symm n164) (ninc (Ne.symm n163) (ninc (Ne.symm n162) (ninc (Ne.symm n161) nin0)))))))), (hKeep.none (hKeep.trn w2 ((show hKeep [q1, xo, q1, nw_6, na_6, nq_6, nr_6, q22] f f3 from (by rw [ef3]; exact hKeep.up (by simp))).tr ((show hKeep [q1, xo, q1, nw_6, na_6, nq_6, nr_6, q22] f3 f5 from (k15.mono (fun x9 hx9 => by simp only [List.mem_cons, List.not_mem_nil, or_false] at hx9 ⊢; omega))).tr ((show hKeep [q1, xo, q1, nw_6, na_6, nq_6, nr_6, q22] f5 f20 from (by rw [ef20]; exact hKeep.up (by simp))).tr (hKeep.trn w23 (show hKeep [q22, q1, xo, q1, nw_6, na_6, nq_6, nr_6, q22] f20 f24 from (by rw [ef24]; exact hKeep.up (by simp)))))))) wna27 (ninc (Ne.symm n127) (ninc (Ne.symm n172) (ninc (Ne.symm n171) (ninc (Ne.symm n170) (ninc (Ne.symm n169) (ninc (Ne.symm n168) (ninc (Ne.symm n167) nin0)))))))), (hKeep.none (hKeep.trn w2 ((show hKeep [q1, xo, q1, nw_6, na_6, nq_6, nr_6, q22] f f3 from (by rw [ef3]; exact hKeep.up (by simp))).tr ((show hKeep [q1, xo, q1, nw_6, na_6, nq_6, nr_6, q22] f3 f5 from (k15.mono (fun x9 hx9 => by simp only [List.mem_cons, List.not_mem_nil, or_false] at hx9 ⊢; omega))).tr ((show hKeep [q1, xo, q1, nw_6, na_6, nq_6, nr_6, q22] f5 f20 from (by rw [ef20]; exact hKeep.up (by simp))).tr (hKeep.trn w23 (show hKeep [q22, q1, xo, q1, nw_6, na_6, nq_6, nr_6, q22] f20 f24 from (by rw [ef24]; exact hKeep.up (by simp)))))))) wnq27 (ninc (Ne.symm n133) (ninc (Ne.symm n178) (ninc (Ne.symm n177) (ninc (Ne.symm n176) (ninc (Ne.symm n175) (ninc (Ne.symm n174) (ninc (Ne.symm n173) nin0)))))))), (hKeep.none (hKeep.trn w2 ((show hKeep [q1, xo, q1, nw_6, na_6, nq_6, nr_6, q22] f f3 from (by rw [ef3]; exact hKeep.up (by simp))).tr ((show hKeep [q1, xo, q1, nw_6, na_6, nq_6, nr_6, q22] f3 f5 from (k15.mono (fun x9 hx9 => by simp only [List.mem_cons, List.not_mem_nil, or_false] at hx9 ⊢; omega))).tr ((show hKeep [q1, xo, q1, nw_6, na_6, nq_6, nr_6, q22] f5 f20 from (by rw [ef20]; exact hKeep.up (by simp))).tr (hKeep.trn w23 (show hKeep [q22, q1, xo, q1, nw_6, na_6, nq_6, nr_6, q22] f20 f24 from (by rw [ef24]; exact hKeep.up (by simp)))))))) wnr27 (ninc (Ne.symm n139) (ninc (Ne.symm n184) (ninc (Ne.symm n183) (ninc (Ne.symm n182) (ninc (Ne.symm n181) (ninc (Ne.symm n180) (ninc (Ne.symm n179) nin0)))))))), (hKeep.none (hKeep.trn w2 ((show hKeep [q1, xo, q1, nw_6, na_6, nq_6, nr_6, q22, nw_27, na_27, nq_27, nr_27, q43] f f3 from (by rw [ef3]; exact hKeep.up (by simp))).tr ((show hKeep [q1, xo, q1, nw_6, na_6, nq_6, nr_6, q22, nw_27, na_27, nq_27, nr_27, q43] f3 f5 from (k15.mono (fun x9 hx9 => by simp only [List.mem_cons, List.not_mem_nil, or_false] at hx9 ⊢; omega))).tr ((show hKeep [q1, xo, q1, nw_6, na_6, nq_6, nr_6, q22, nw_27, na_27, nq_27, nr_27, q43] f5 f20 from (by rw [ef20]; exact hKeep.up (by simp))).tr (hKeep.trn w23 ((show hKeep [q22, q1, xo, q1, nw_6, na_6, nq_6, nr_6, q22, nw_27, na_27, nq_27, nr_27, q43] f20 f24 from (by rw [ef24]; exact hKeep.up (by simp))).tr ((show hKeep [q22, q1, xo, q1, nw_6, na_6, nq_6, nr_6, q22, nw_27, na_27, nq_27, nr_27, q43] f24 f26 from (k36.mono (fun x9 hx9 => by simp only [List.mem_cons, List.not_mem_nil, or_false] at hx9 ⊢; omega))).tr ((show hKeep [q22, q1, xo, q1, nw_6, na_6, nq_6, nr_6, q22, nw_27, na_27, nq_27, nr_27, q43] f26 f41 from (by rw [ef41]; exact hKeep.up (by simp))).tr (hKeep.trn w44 (show hKeep [q43, q22, q1, xo, q1, nw_6, na_6, nq_6, nr_6, q22, nw_27, na_27, nq_27, nr_27, q43] f41 f45 from (by rw [ef45]; exact hKeep.up (by simp)))))))))))) wbs48 (ninc (Ne.symm n146) (ninc (Ne.symm n195) (ninc (Ne.symm n194) (ninc (Ne.symm n193) (ninc (Ne.symm n192) (ninc (Ne.symm n191) (ninc (Ne.symm n190) (ninc (Ne.symm n189) (ninc (Ne.symm n188) (ninc (Ne.symm n187) (ninc (Ne.symm n186) (ninc (Ne.symm n185) nin0))))))))))))), (hKeep.none (hKeep.trn w2 ((show hKeep [q1, xo, q1, nw_6, na_6, nq_6, nr_6, q22, nw_27, na_27, nq_27, nr_27, q43] f f3 from (by rw [ef3]; exact hKeep.up (by simp))).tr ((show hKeep [q1, xo, q1, nw_6, na_6, nq_6, nr_6, q22, nw_27, na_27, nq_27, nr_27, q43] f3 f5 from (k15.mono (fun x9 hx9 => by simp only [List.mem_cons, List.not_mem_nil, or_false] at hx9 ⊢; omega))).tr ((show hKeep [q1, xo, q1, nw_6, na_6, nq_6, nr_6, q22, nw_27, na_27, nq_27, nr_27, q43] f5 f20 from (by rw [ef20]; exact hKeep.up (by simp))).tr (hKeep.trn w23 ((show hKeep [q22, q1, xo, q1, nw_6, na_6, nq_6, nr_6, q22, nw_27, na_27, nq_27, nr_27, q43] f20 f24 from (by rw [ef24]; exact hKeep.up (by simp))).tr ((show hKeep [q22, q1, xo, q1, nw_6, na_6, nq_6, nr_6, q22, nw_27, na_27, nq_27, nr_27, q43] f24 f26 from (k36.mono (fun x9 hx9 => by simp only [List.mem_cons, List.not_mem_nil, or_false] at hx9 ⊢; omega))).tr ((show hKeep [q22, q1, xo, q1, nw_6, na_6, nq_6, nr_6, q22, nw_27, na_27, nq_27, nr_27, q43] f26 f41 from (by rw [ef41]; exact hKeep.up (by simp))).tr (hKeep.trn w44 (show hKeep [q43, q22, q1, xo, q1, nw_6, na_6, nq_6, nr_6, q22, nw_27, na_27, nq_27, nr_27, q43] f41 f45 from (by rw [ef45]; exact hKeep.up (by simp)))))))))))) wbp48 (ninc (Ne.symm n148) (ninc (Ne.symm n206) (ninc (Ne.symm n205) (ninc (Ne.symm n204) (ninc (Ne.symm n203) (ninc (Ne.symm n202) (ninc (Ne.symm n201) (ninc (Ne.symm n200) (ninc (Ne.symm n199) (ninc (Ne.symm n198) (ninc (Ne.symm n197) (ninc (Ne.symm n196) nin0))))))))))))), (hKeep.none (hKeep.trn w2 ((show hKeep [q1, xo, q1, nw_6, na_6, nq_6, nr_6, q22, nw_27, na_27, nq_27, nr_27, q43] f f3 from (by rw [ef3]; exact hKeep.up (by simp))).tr ((show hKeep [q1, xo, q1, nw_6, na_6, nq_6, nr_6, q22, nw_27, na_27, nq_27, nr_27, q43] f3 f5 from (k15.mono (fun x9 hx9 => by simp only [List.mem_cons, List.not_mem_nil, or_false] at hx9 ⊢; omega))).tr ((show hKeep [q1, xo, q1, nw_6, na_6, nq_6, nr_6, q22, nw_27, na_27, nq_27, nr_27, q43] f5 f20 from (by rw [ef20]; exact hKeep.up (by simp))).tr (hKeep.trn w23 ((show hKeep [q22, q1, xo, q1, nw_6, na_6, nq_6, nr_6, q22, nw_27, na_27, nq_27, nr_27, q43] f20 f24 from (by rw [ef24]; exact hKeep.up (by simp))).tr ((show hKeep [q22, q1, xo, q1, nw_6, na_6, nq_6, nr_6, q22, nw_27, na_27, nq_27, nr_27, q43] f24 f26 from (k36.mono (fun x9 hx9 => by simp only [List.mem_cons, List.not_mem_nil, or_false] at hx9 ⊢; omega))).tr ((show hKeep [q22, q1, xo, q1, nw_6, na_6, nq_6, nr_6, q22, nw_27, na_27, nq_27, nr_27, q43] f26 f41 from (by rw [ef41]; exact hKeep.up (by simp))).tr (hKeep.trn w44 (show hKeep [q43, q22, q1, xo, q1, nw_6, na_6, nq_6, nr_6, q22, nw_27, na_27, nq_27, nr_27, q43] f41 f45 from (by rw [ef45]; exact hKeep.up (by simp)))))))))))) wbh48 (ninc (Ne.symm n150) (ninc (Ne.symm n217) (ninc (Ne.symm n216) (ninc (Ne.symm n215) (ninc (Ne.symm n214) (ninc (Ne.symm n213) (ninc (Ne.symm n212) (ninc (Ne.symm n211) (ninc (Ne.symm n210) (ninc (Ne.symm n209) (ninc (Ne.symm n208) (ninc (Ne.symm n207) nin0))))))))))))), (hKeep.none (hKeep.trn w2 ((show hKeep [q1, xo, q1, nw_6, na_6, nq_6, nr_6, q22, nw_27, na_27, nq_27, nr_27, q43] f f3 from (by rw [ef3]; exact hKeep.up (by simp))).tr ((show hKeep [q1, xo, q1, nw_6, na_6, nq_6, nr_6, q22, nw_27, na_27, nq_27, nr_27, q43] f3 f5 from (k15.mono (fun x9 hx9 => by simp only [List.mem_cons, List.not_mem_nil, or_false] at hx9 ⊢; omega))).tr ((show hKeep [q1, xo, q1, nw_6, na_6, nq_6, nr_6, q22, nw_27, na_27, nq_27, nr_27, q43] f5 f20 from (by rw [ef20]; exact hKeep.up (by simp))).tr (hKeep.trn w23 ((show hKeep [q22, q1, xo, q1, nw_6, na_6, nq_6, nr_6, q22, nw_27, na_27, nq_27, nr_27, q43] f20 f24 from (by rw [ef24]; exact hKeep.up (by simp))).tr ((show hKeep [q22, q1, xo, q1, nw_6, na_6, nq_6, nr_6, q22, nw_27, na_27, nq_27, nr_27, q43] f24 f26 from (k36.mono (fun x9 hx9 => by simp only [List.mem_cons, List.not_mem_nil, or_false] at hx9 ⊢; omega))).tr ((show hKeep [q22, q1, xo, q1, nw_6, na_6, nq_6, nr_6, q22, nw_27, na_27, nq_27, nr_27, q43] f26 f41 from (by rw [ef41]; exact hKeep.up (by simp))).tr (hKeep.trn w44 (show hKeep [q43, q22, q1, xo, q1, nw_6, na_6, nq_6, nr_6, q22, nw_27, na_27, nq_27, nr_27, q43] f41 f45 from (by rw [ef45]; exact hKeep.up (by simp)))))))))))) wbf48 (ninc (Ne.symm n152) (ninc (Ne.symm n228) (ninc (Ne.symm n227) (ninc (Ne.symm n226) (ninc (Ne.symm n225) (ninc (Ne.symm n224) (ninc (Ne.symm n223) (ninc (Ne.symm n222) (ninc (Ne.symm n221) (ninc (Ne.symm n220) (ninc (Ne.symm n219) (ninc (Ne.symm n218) nin0))))))))))))), (hKeep.none (hKeep.trn w2 ((show hKeep [q1, xo, q1, nw_6, na_6, nq_6, nr_6, q22, nw_27, na_27, nq_27, nr_27, q43] f f3 from (by rw [ef3]; exact hKeep.up (by simp))).tr ((show hKeep [q1, xo, q1, nw_6, na_6, nq_6, nr_6, q22, nw_27, na_27, nq_27, nr_27, q43] f3 f5 from (k15.mono (fun x9 hx9 => by simp only [List.mem_cons, List.not_mem_nil, or_false] at hx9 ⊢; omega))).tr ((show hKeep [q1, xo, q1, nw_6, na_6, nq_6, nr_6, q22, nw_27, na_27, nq_27, nr_27, q43] f5 f20 from (by rw [ef20]; exact hKeep.up (by simp))).tr (hKeep.trn w23 ((show hKeep [q22, q1, xo, q1, nw_6, na_6, nq_6, nr_6, q22, nw_27, na_27, nq_27, nr_27, q43] f20 f24 from (by rw [ef24]; exact hKeep.up (by simp))).tr ((show hKeep [q22, q1, xo, q1, nw_6, na_6, nq_6, nr_6, q22, nw_27, na_27, nq_27, nr_27, q43] f24 f26 from (k36.mono (fun x9 hx9 => by simp only [List.mem_cons, List.not_mem_nil, or_false] at hx9 ⊢; omega))).tr ((show hKeep [q22, q1, xo, q1, nw_6, na_6, nq_6, nr_6, q22, nw_27, na_27, nq_27, nr_27, q43] f26 f41 from (by rw [ef41]; exact hKeep.up (by simp))).tr (hKeep.trn w44 (show hKeep [q43, q22, q1, xo, q1, nw_6, na_6, nq_6, nr_6, q22, nw_27, na_27, nq_27, nr_27, q43] f41 f45 from (by rw [ef45]; exact hKeep.up (by simp)))))))))))) wbl48 (ninc (Ne.symm n154) (ninc (Ne.symm n239) (ninc (Ne.symm n238) (ninc (Ne.symm n237) (ninc (Ne.symm n236) (ninc (Ne.symm n235) (ninc (Ne.symm n234) (ninc (Ne.symm n233) (ninc (Ne.symm n232) (ninc (Ne.symm n231) (ninc (Ne.symm n230) (ninc (Ne.symm n229) nin0))))))))))))), (hKeep.none (hKeep.trn w2 ((show hKeep [q1, xo, q1, nw_6, na_6, nq_6, nr_6, q22, nw_27, na_27, nq_27, nr_27, q43] f f3 from (by rw [ef3]; exact hKeep.up (by simp))).tr ((show hKeep [q1, xo, q1, nw_6, na_6, nq_6, nr_6, q22, nw_27, na_27, nq_27, nr_27, q43] f3 f5 from (k15.mono (fun x9 hx9 => by simp only [List.mem_cons, List.not_mem_nil, or_false] at hx9 ⊢; omega))).tr ((show hKeep [q1, xo, q1, nw_6, na_6, nq_6, nr_6, q22, nw_27, na_27, nq_27, nr_27, q43] f5 f20 from (by rw [ef20]; exact hKeep.up (by simp))).tr (hKeep.trn w23 ((show hKeep [q22, q1, xo, q1, nw_6, na_6, nq_6, nr_6, q22, nw_27, na_27, nq_27, nr_27, q43] f20 f24 from (by rw [ef24]; exact hKeep.up (by simp))).tr ((show hKeep [q22, q1, xo, q1, nw_6, na_6, nq_6, nr_6, q22, nw_27, na_27, nq_27, nr_27, q43] f24 f26 from (k36.mono (fun x9 hx9 => by simp only [List.mem_cons, List.not_mem_nil, or_false] at hx9 ⊢; omega))).tr ((show hKeep [q22, q1, xo, q1, nw_6, na_6, nq_6, nr_6, q22, nw_27, na_27, nq_27, nr_27, q43] f26 f41 from (by rw [ef41]; exact hKeep.up (by simp))).tr (hKeep.trn w44 (show hKeep [q43, q22, q1, xo, q1, nw_6, na_6, nq_6, nr_6, q22, nw_27, na_27, nq_27, nr_27, q43] f41 f45 from (by rw [ef45]; exact hKeep.up (by simp)))))))))))) wbg48 (ninc (Ne.symm n156) (ninc (Ne.symm n250) (ninc (Ne.symm n249) (ninc (Ne.symm n248) (ninc (Ne.symm n247) (ninc (Ne.symm n246) (ninc (Ne.symm n245) (ninc (Ne.symm n244) (ninc (Ne.symm n243) (ninc (Ne.symm n242) (ninc (Ne.symm n241) (ninc (Ne.symm n240) nin0))))))))))))), h65, h74, h84, h94, h104, h114, h119, h125, h131, h137, h143, h144, h145, h147, h149, h151, h153, h155, n69, n180, n12, n13, n165, n171, n177, n14, n164, n170, n176, n163, n169, n175, n33, n34, n35, n59, n60, (hKeep.trn w2 ((show hKeep [q1, xo] f f3 from (by rw [ef3]; exact hKeep.up (by simp))).tr ((show hKeep [q1, xo] f3 f5 from (k15.mono (fun x9 hx9 => by simp only [List.mem_cons, List.not_mem_nil, or_false] at hx9 ⊢; omega))).tr ((show hKeep [q1, xo] f5 f20 from (by rw [ef20]; exact hKeep.up (by simp))).tr (hKeep.trn w23 ((show hKeep [q22, q1, xo] f20 f24 from (by rw [ef24]; exact hKeep.up (by simp))).tr ((show hKeep [q22, q1, xo] f24 f26 from (k36.mono (fun x9 hx9 => by simp only [List.mem_cons, List.not_mem_nil, or_false] at hx9 ⊢; omega))).tr ((show hKeep [q22, q1, xo] f26 f41 from (by rw [ef41]; exact hKeep.up (by simp))).tr (hKeep.trn w44 ((show hKeep [q43, q22, q1, xo] f41 f45 from (by rw [ef45]; exact hKeep.up (by simp))).tr ((show hKeep [q43, q22, q1, xo] f45 f47 from (k57.mono (fun x9 hx9 => by simp only [List.mem_cons, List.not_mem_nil, or_false] at hx9 ⊢; omega))).tr (show hKeep [q43, q22, q1, xo] f47 f64 from (by rw [ef64]; exact hKeep.up (by simp)))))))))))))), ((show NF f f3 from (by rw [ef3]; exact NF.up (Nat.ne_of_beq_eq_false rfl))).tr (z16.tr ((show NF f5 f20 from (by rw [ef20]; exact NF.up (Nat.ne_of_beq_eq_false rfl))).tr ((show NF f20 f24 from (by rw [ef24]; exact NF.up (Nat.ne_of_beq_eq_false rfl))).tr (z37.tr ((show NF f26 f41 from (by rw [ef41]; exact NF.up (Nat.ne_of_beq_eq_false rfl))).tr ((show NF f41 f45 from (by rw [ef45]; exact NF.up (Nat.ne_of_beq_eq_false rfl))).tr (z58.tr (show NF f47 f64 from (by rw [ef64]; exact NF.up (Nat.ne_of_beq_eq_false rfl)))))))))))⟩)

