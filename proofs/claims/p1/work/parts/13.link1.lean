set_option maxHeartbeats 4000000 in
set_option maxRecDepth 100000 in
theorem c_X3_init {l : Launch} (hl : l.stackTraces = false) (G : hG) (f : hM) (nr : Nat) (k_nr : f nr = some (.inr (3, [.null, .null, .int 0]))) : CT l yX3_init (.code yX3_init cX3_init 1 none) 1 13 0 0 G [.ref nr] f (fun v f1 => v = none ∧ f1 = f) (fun E f1 => False) := by
  refine hp_start hl (own := RX3) (by decide) rfl (Nat.le_of_ble_eq_true rfl) ?_
  intro p e s m args below meth c B0 hr hnm hout hw hS ls hl9
  have hx := B0.1
  have hb := B0.2.1
  have hl9 : lv_has ls 1 [(0, .ref nr)] := hl9
  refine lv_aload_n hx hb dX3_init_0 rfl (lv_at hl9 0 rfl) ?_
  refine W.objInit hx hb B0.2.2.2.1 (B0.2.2.2.2.1 _ qM_X3_3) (B0.2.2.2.2.1 _ qi_obj) (B0.2.2.2.2.1 _ qc_obj) rfl (by rw [B0.2.2.1]; exact hl9.1) rfl dX3_init_1 (Nat.le_of_ble_eq_true rfl) (Nat.le_of_ble_eq_true rfl) ?_
  refine W.eq (g2 := F0 m 4 ls []) rfl ?_
  exact hp_vret B0 hw hS hr ⟨Nat.le_of_ble_eq_true rfl, Nat.le_of_ble_eq_true rfl⟩ dX3_init_4 (⟨rfl, rfl⟩)

set_option maxHeartbeats 4000000 in
set_option maxRecDepth 100000 in
theorem c_X2_init {l : Launch} (hl : l.stackTraces = false) (G : hG) (f : hM) (fr nv : Nat) (k i x : Int32) (k_fr : f fr = some (.inr (2, [.int 0, .int 0, .int 0, .null, .null]))) : CT l yX2_init (.code yX2_init cX2_init 5 none) 1 13 0 0 G [.ref fr, .int k, .int i, .int x, .ref nv] f (fun v f1 => v = none ∧ f1 fr = some (.inr (2, [.int k, .int i, .int x, .ref nv, .null])) ∧ hKeep [fr] f f1) (fun E f1 => False) := by
  refine hp_start hl (own := RX2) (by decide) rfl (Nat.le_of_ble_eq_true rfl) ?_
  intro p e s m args below meth c B0 hr hnm hout hw hS ls hl9
  have hx := B0.1
  have hb := B0.2.1
  have hl9 : lv_has ls 5 [(0, .ref fr), (1, .int k), (2, .int i), (3, .int x), (4, .ref nv)] := hl9
  refine lv_aload_n hx hb dX2_init_0 rfl (lv_at hl9 0 rfl) ?_
  refine W.objInit hx hb B0.2.2.2.1 (B0.2.2.2.2.1 _ qM_X2_1) (B0.2.2.2.2.1 _ qi_obj) (B0.2.2.2.2.1 _ qc_obj) rfl (by rw [B0.2.2.1]; exact hl9.1) rfl dX2_init_1 (Nat.le_of_ble_eq_true rfl) (Nat.le_of_ble_eq_true rfl) ?_
  refine W.eq (g2 := F0 m 4 ls []) rfl ?_
  refine lv_aload_n hx hb dX2_init_4 rfl (lv_at hl9 0 rfl) ?_
  refine lv_iload_n hx hb dX2_init_5 rfl (lv_at hl9 1 rfl) ?_
  refine hp_putF (fs1 := [.int k, .int 0, .int 0, .null, .null]) (ty := .int) B0 hw hS 2 rfl in_X2 tyX2 tyX2_ok nmX2 k_fr 0 (by decide) qF_X2_7 rfl hnm rfl (by decide +kernel) rfl rfl (Nat.le_of_ble_eq_true rfl) rfl dX2_init_6 (fun H locs f1 ef1 hw hS => ?_)
  have h2 : f1 fr = some (.inr (2, [.int k, .int 0, .int 0, .null, .null])) := by rw [ef1, va_up_self]
  refine lv_aload_n hx hb dX2_init_9 rfl (lv_at hl9 0 rfl) ?_
  refine lv_iload_n hx hb dX2_init_10 rfl (lv_at hl9 2 rfl) ?_
  refine hp_putF (fs1 := [.int k, .int i, .int 0, .null, .null]) (ty := .int) B0 hw hS 2 rfl in_X2 tyX2 tyX2_ok nmX2 h2 1 (by decide) qF_X2_13 rfl hnm rfl (by decide +kernel) rfl rfl (Nat.le_of_ble_eq_true rfl) rfl dX2_init_11 (fun H locs f3 ef3 hw hS => ?_)
  have e4 : f3 = va_up f fr (some (.inr (2, [.int k, .int i, .int 0, .null, .null]))) := by rw [ef3, ef1, bx_uu]
  have h5 : f3 fr = some (.inr (2, [.int k, .int i, .int 0, .null, .null])) := by rw [ef3, va_up_self]
  refine lv_aload_n hx hb dX2_init_14 rfl (lv_at hl9 0 rfl) ?_
  refine lv_iload_n hx hb dX2_init_15 rfl (lv_at hl9 3 rfl) ?_
  refine hp_putF (fs1 := [.int k, .int i, .int x, .null, .null]) (ty := .int) B0 hw hS 2 rfl in_X2 tyX2 tyX2_ok nmX2 h5 2 (by decide) qF_X2_16 rfl hnm rfl (by decide +kernel) rfl rfl (Nat.le_of_ble_eq_true rfl) rfl dX2_init_16 (fun H locs f6 ef6 hw hS => ?_)
  have e7 : f6 = va_up f fr (some (.inr (2, [.int k, .int i, .int x, .null, .null]))) := by rw [ef6, e4, bx_uu]
  have h8 : f6 fr = some (.inr (2, [.int k, .int i, .int x, .null, .null])) := by rw [ef6, va_up_self]
  refine lv_aload_n hx hb dX2_init_19 rfl (lv_at hl9 0 rfl) ?_
  refine lv_aload hx hb dX2_init_20 (lv_at hl9 4 rfl) ?_
  refine hp_putF (fs1 := [.int k, .int i, .int x, .ref nv, .null]) (ty := .array .int) B0 hw hS 2 rfl in_X2 tyX2 tyX2_ok nmX2 h8 3 (by decide) qF_X2_19 rfl hnm rfl (by decide +kernel) rfl rfl (Nat.le_of_ble_eq_true rfl) rfl dX2_init_22 (fun H locs f9 ef9 hw hS => ?_)
  have e10 : f9 = va_up f fr (some (.inr (2, [.int k, .int i, .int x, .ref nv, .null]))) := by rw [ef9, e7, bx_uu]
  have h11 : f9 fr = some (.inr (2, [.int k, .int i, .int x, .ref nv, .null])) := by rw [ef9, va_up_self]
  exact hp_vret B0 hw hS hr ⟨Nat.le_of_ble_eq_true rfl, Nat.le_of_ble_eq_true rfl⟩ dX2_init_25 (⟨rfl, h11, (show hKeep [fr] f f9 from (by rw [e10]; exact hKeep.up (by simp)))⟩)

set_option maxHeartbeats 4000000 in
set_option maxRecDepth 100000 in
theorem c_J7_copyOf {l : Launch} (hl : l.stackTraces = false) (G : hG) (f : hM) (na : Nat) (gx : Nat → Int32) (k_na : f na = some (.inl (cI G, 6, .inl gx))) : CT l yJ7_copyOf_59c91 (.code yJ7_copyOf_59c91 cJ7_copyOf_59c91 3 (some (.array .int))) 1 14 1 6 G [.ref na, .int 6] f (fun v f1 => ∃ q : Nat, v = some (.ref q) ∧ f q = none ∧ f1 q = some (.inl (cI G, 6, .inl gx)) ∧ hKeep [] f f1) (fun E f1 => False) := by
  refine hp_start hl (own := RJ7) (by decide) rfl (Nat.le_of_ble_eq_true rfl) ?_
  intro p e s m args below meth c B0 hr hnm hout hw hS ls hl9
  have hx := B0.1
  have hb := B0.2.1
  have hl9 : lv_has ls 3 [(0, .ref na), (1, .int 6)] := hl9
  refine lv_iload_n hx hb dJ7_copyOf_59c91_0 rfl (lv_at hl9 1 rfl) ?_
  refine lv_aload_n hx hb dJ7_copyOf_59c91_1 rfl (lv_at hl9 0 rfl) ?_
  refine hp_alenI B0 hw k_na (v := 6) (by decide) dJ7_copyOf_59c91_2 ?_
  refine lv_icmp_ne (tgt := 14) hx hb dJ7_copyOf_59c91_3 (by decide) (fun c9 => absurd (by decide) c9) (fun _ => ?_)
  refine lv_aload_n hx hb dJ7_copyOf_59c91_6 rfl (lv_at hl9 0 rfl) ?_
  refine hp_cloneI B0 hw hS hl9.1 qM_J7_316 qm_clone qV_clone qi_clone ql_clone oC_arr k_na ⟨⟨Nat.le_of_ble_eq_true rfl, Nat.le_of_ble_eq_true rfl⟩, Nat.le_of_ble_eq_true rfl, Nat.le_of_ble_eq_true rfl⟩ dJ7_copyOf_59c91_7 (fun q1 H f3 w2 ef3 hw hS => ?_)
  have h4 : f3 q1 = some (.inl (cI G, 6, .inl gx)) := by rw [ef3, va_up_self]
  refine hp_castI B0 hw qC_J7_317 h4 dJ7_copyOf_59c91_10 ?_
  exact hp_aret (v := .ref q1) B0 hw hS hr (Or.inr ⟨_, rfl⟩) (Or.inr ⟨_, rfl⟩) ⟨Nat.le_of_ble_eq_true rfl, Nat.le_of_ble_eq_true rfl⟩ dJ7_copyOf_59c91_13 (⟨q1, rfl, w2, h4, (hKeep.trn w2 (show hKeep [q1] f f3 from (by rw [ef3]; exact hKeep.up (by simp))))⟩)

set_option maxHeartbeats 4000000 in
set_option maxRecDepth 100000 in
theorem c_X3_put0 {l : Launch} (hl : l.stackTraces = false) (G : hG) (f : hM) (nr fr : Nat) (cn : Int32) (hcn : cn < 4096) (k_nr : f nr = some (.inr (3, [.null, .null, .int cn]))) : CT l yX3_put (.code yX3_put cX3_put 2 none) 0 0 0 0 G [.ref nr, .ref fr] f (fun v f1 => v = none ∧ f1 nr = some (.inr (3, [.ref fr, .ref fr, .int (cn + 1)])) ∧ hKeep [nr] f f1) (fun E f1 => False) := by
  refine hp_start hl (own := RX3) (by decide) rfl (Nat.le_of_ble_eq_true rfl) ?_
  intro p e s m args below meth c B0 hr hnm hout hw hS ls hl9
  have hx := B0.1
  have hb := B0.2.1
  have hl9 : lv_has ls 2 [(0, .ref nr), (1, .ref fr)] := hl9
  refine lv_aload_n hx hb dX3_put_0 rfl (lv_at hl9 0 rfl) ?_
  refine hp_get B0 hw 3 rfl in_X3 k_nr 2 (by decide) qF_X3_9 rfl dX3_put_1 ?_
  refine lv_sipush (v := 4096) hx hb dX3_put_4 (by decide) ?_
  refine lv_icmp_lt (tgt := 11) hx hb dX3_put_7 (by decide) (fun _ => ?_) (fun c9 => absurd hcn c9)
  refine lv_aload_n hx hb dX3_put_11 rfl (lv_at hl9 0 rfl) ?_
  refine hp_get B0 hw 3 rfl in_X3 k_nr 1 (by decide) qF_X3_15 rfl dX3_put_12 ?_
  refine lv_ifnonnullN hx hb dX3_put_15 ?_
  refine lv_aload_n hx hb dX3_put_18 rfl (lv_at hl9 0 rfl) ?_
  refine lv_aload_n hx hb dX3_put_19 rfl (lv_at hl9 1 rfl) ?_
  refine hp_put (fs1 := [.ref fr, .null, .int cn]) (ty := .object "OptionLine$Frame") B0 hw hS 3 rfl in_X3 tyX3 tyX3_ok nmX3 k_nr 0 (by decide) qF_X3_19 rfl (by decide +kernel) rfl rfl (Nat.le_of_ble_eq_true rfl) rfl dX3_put_20 (fun H locs f1 ef1 hw hS => ?_)
  have h2 : f1 nr = some (.inr (3, [.ref fr, .null, .int cn])) := by rw [ef1, va_up_self]
  refine lv_goto (tgt := 34) hx hb dX3_put_23 (by decide) ?_
  refine lv_aload_n hx hb dX3_put_34 rfl (lv_at hl9 0 rfl) ?_
  refine lv_aload_n hx hb dX3_put_35 rfl (lv_at hl9 1 rfl) ?_
  refine hp_put (fs1 := [.ref fr, .ref fr, .int cn]) (ty := .object "OptionLine$Frame") B0 hw hS 3 rfl in_X3 tyX3 tyX3_ok nmX3 h2 1 (by decide) qF_X3_15 rfl (by decide +kernel) rfl rfl (Nat.le_of_ble_eq_true rfl) rfl dX3_put_36 (fun H locs f3 ef3 hw hS => ?_)
  have e4 : f3 = va_up f nr (some (.inr (3, [.ref fr, .ref fr, .int cn]))) := by rw [ef3, ef1, bx_uu]
  have h5 : f3 nr = some (.inr (3, [.ref fr, .ref fr, .int cn])) := by rw [ef3, va_up_self]
  refine lv_aload_n hx hb dX3_put_39 rfl (lv_at hl9 0 rfl) ?_
  refine lv_dup hx hb dX3_put_40 rfl ?_
  refine hp_get B0 hw 3 rfl in_X3 h5 2 (by decide) qF_X3_9 rfl dX3_put_41 ?_
  refine lv_iconst (v := 1) hx hb dX3_put_44 (by decide) ?_
  refine lv_iadd hx hb dX3_put_45 ?_
  refine hp_put (fs1 := [.ref fr, .ref fr, .int (cn + 1)]) (ty := .int) B0 hw hS 3 rfl in_X3 tyX3 tyX3_ok nmX3 h5 2 (by decide) qF_X3_9 rfl (by decide +kernel) rfl rfl (Nat.le_of_ble_eq_true rfl) rfl dX3_put_46 (fun H locs f6 ef6 hw hS => ?_)
  have e7 : f6 = va_up f nr (some (.inr (3, [.ref fr, .ref fr, .int (cn + 1)]))) := by rw [ef6, e4, bx_uu]
  have h8 : f6 nr = some (.inr (3, [.ref fr, .ref fr, .int (cn + 1)])) := by rw [ef6, va_up_self]
  exact hp_vret B0 hw hS hr ⟨Nat.le_of_ble_eq_true rfl, Nat.le_of_ble_eq_true rfl⟩ dX3_put_49 (⟨rfl, h8, (show hKeep [nr] f f6 from (by rw [e7]; exact hKeep.up (by simp)))⟩)

set_option maxHeartbeats 4000000 in
set_option maxRecDepth 100000 in
theorem c_X3_take0 {l : Launch} (hl : l.stackTraces = false) (G : hG) (f : hM) (nr : Nat) (cn : Int32) (k_nr : f nr = some (.inr (3, [.null, .null, .int cn]))) : CT l yX3_takeFirst (.code yX3_takeFirst cX3_takeFirst 2 (some (.object "OptionLine$Frame"))) 0 0 0 0 G [.ref nr] f (fun v f1 => v = some .null ∧ f1 = f) (fun E f1 => False) := by
  refine hp_start hl (own := RX3) (by decide) rfl (Nat.le_of_ble_eq_true rfl) ?_
  intro p e s m args below meth c B0 hr hnm hout hw hS ls hl9
  have hx := B0.1
  have hb := B0.2.1
  have hl9 : lv_has ls 2 [(0, .ref nr)] := hl9
  refine lv_aload_n hx hb dX3_takeFirst_0 rfl (lv_at hl9 0 rfl) ?_
  refine hp_get B0 hw 3 rfl in_X3 k_nr 0 (by decide) qF_X3_19 rfl dX3_takeFirst_1 ?_
  refine lv_astore_nN (lv' := [(1, .null), (0, .ref nr)]) hx hb dX3_takeFirst_4 rfl hl9 (by decide) rfl (fun ls hl9 => ?_)
  refine lv_aload_nN hx hb dX3_takeFirst_5 rfl (lv_at hl9 0 rfl) ?_
  refine lv_ifnonnullN hx hb dX3_takeFirst_6 ?_
  refine lv_null hx hb dX3_takeFirst_9 ?_
  exact hp_aret (v := .null) B0 hw hS hr (Or.inl ⟨_, rfl⟩) (Or.inl rfl) ⟨Nat.le_of_ble_eq_true rfl, Nat.le_of_ble_eq_true rfl⟩ dX3_takeFirst_10 (⟨rfl, rfl⟩)

set_option maxHeartbeats 4000000 in
set_option maxRecDepth 100000 in
theorem c_X1_ask0 {l : Launch} (hl : l.stackTraces = false) (G : hG) (f : hM) (en nw na nq nr : Nat) (mg st tm lp mi : Int32) (k_en : f en = some (.inr (1, [.ref nw, .ref na, .ref nq, .ref nr, .int mg, .int st, .int tm, .int 0, .int (-1), .int lp, .int mi]))) (gq : Nat → Int32) (k_nq : f nq = some (.inl (cI G, 6, .inl gq))) (k_nr : f nr = some (.inr (3, [.null, .null, .int 0]))) : CT l yX1_ask (.code yX1_ask cX1_ask 1 (some .boolean)) 2 37 2 11 G [.ref en] f (fun v f1 => v = some (.int 1) ∧ f1 en = some (.inr (1, [.ref nw, .ref na, .ref nq, .ref nr, .int mg, .int st, .int 3, .int 1, .int 0, .int lp, .int mi])) ∧ hKeep [en, nr] f f1) (fun E f1 => False) := by
  refine hp_start hl (own := RX1) (by decide) rfl (Nat.le_of_ble_eq_true rfl) ?_
  intro p e s m args below meth c B0 hr hnm hout hw hS ls hl9
  have hx := B0.1
  have hb := B0.2.1
  have hl9 : lv_has ls 1 [(0, .ref en)] := hl9
  refine lv_aload_n hx hb dX1_ask_0 rfl (lv_at hl9 0 rfl) ?_
  refine hp_get B0 hw 1 rfl in_X1 k_en 7 (by decide) qF_X1_35 rfl dX1_ask_1 ?_
  refine lv_bipush (v := 10) hx hb dX1_ask_4 (by decide) ?_
  refine lv_icmp_lt (tgt := 16) hx hb dX1_ask_6 (by decide) (fun _ => ?_) (fun c9 => absurd (by decide) c9)
  refine lv_aload_n hx hb dX1_ask_16 rfl (lv_at hl9 0 rfl) ?_
  refine lv_dup hx hb dX1_ask_17 rfl ?_
  refine hp_get B0 hw 1 rfl in_X1 k_en 7 (by decide) qF_X1_35 rfl dX1_ask_18 ?_
  refine lv_iconst (v := 1) hx hb dX1_ask_21 (by decide) ?_
  refine lv_iadd hx hb dX1_ask_22 ?_
  refine hp_c (v := 1) (by decide) ?_
  refine hp_put (fs1 := [.ref nw, .ref na, .ref nq, .ref nr, .int mg, .int st, .int tm, .int 1, .int (-1), .int lp, .int mi]) (ty := .int) B0 hw hS 1 rfl in_X1 tyX1 tyX1_ok nmX1 k_en 7 (by decide) qF_X1_35 rfl (by decide +kernel) rfl rfl (Nat.le_of_ble_eq_true rfl) rfl dX1_ask_23 (fun H locs f1 ef1 hw hS => ?_)
  have h2 : f1 en = some (.inr (1, [.ref nw, .ref na, .ref nq, .ref nr, .int mg, .int st, .int tm, .int 1, .int (-1), .int lp, .int mi])) := by rw [ef1, va_up_self]
  refine lv_aload_n hx hb dX1_ask_26 rfl (lv_at hl9 0 rfl) ?_
  refine lv_dup hx hb dX1_ask_27 rfl ?_
  refine hp_get B0 hw 1 rfl in_X1 h2 8 (by decide) qF_X1_38 rfl dX1_ask_28 ?_
  refine lv_iconst (v := 1) hx hb dX1_ask_31 (by decide) ?_
  refine lv_iadd hx hb dX1_ask_32 ?_
  refine hp_c (v := 0) (by decide) ?_
  refine hp_put (fs1 := [.ref nw, .ref na, .ref nq, .ref nr, .int mg, .int st, .int tm, .int 1, .int 0, .int lp, .int mi]) (ty := .int) B0 hw hS 1 rfl in_X1 tyX1 tyX1_ok nmX1 h2 8 (by decide) qF_X1_38 rfl (by decide +kernel) rfl rfl (Nat.le_of_ble_eq_true rfl) rfl dX1_ask_33 (fun H locs f3 ef3 hw hS => ?_)
  have e4 : f3 = va_up f en (some (.inr (1, [.ref nw, .ref na, .ref nq, .ref nr, .int mg, .int st, .int tm, .int 1, .int 0, .int lp, .int mi]))) := by rw [ef3, ef1, bx_uu]
  have h5 : f3 en = some (.inr (1, [.ref nw, .ref na, .ref nq, .ref nr, .int mg, .int st, .int tm, .int 1, .int 0, .int lp, .int mi])) := by rw [ef3, va_up_self]
  refine lv_aload_n hx hb dX1_ask_36 rfl (lv_at hl9 0 rfl) ?_
  refine lv_iconst (v := 3) hx hb dX1_ask_37 (by decide) ?_
  refine hp_put (fs1 := [.ref nw, .ref na, .ref nq, .ref nr, .int mg, .int st, .int 3, .int 1, .int 0, .int lp, .int mi]) (ty := .int) B0 hw hS 1 rfl in_X1 tyX1 tyX1_ok nmX1 h5 6 (by decide) qF_X1_32 rfl (by decide +kernel) rfl rfl (Nat.le_of_ble_eq_true rfl) rfl dX1_ask_38 (fun H locs f6 ef6 hw hS => ?_)
  have e7 : f6 = va_up f en (some (.inr (1, [.ref nw, .ref na, .ref nq, .ref nr, .int mg, .int st, .int 3, .int 1, .int 0, .int lp, .int mi]))) := by rw [ef6, e4, bx_uu]
  have h8 : f6 en = some (.inr (1, [.ref nw, .ref na, .ref nq, .ref nr, .int mg, .int st, .int 3, .int 1, .int 0, .int lp, .int mi])) := by rw [ef6, va_up_self]
  refine lv_aload_n hx hb dX1_ask_41 rfl (lv_at hl9 0 rfl) ?_
  refine hp_get B0 hw 1 rfl in_X1 h8 3 (by decide) qF_X1_24 rfl dX1_ask_42 ?_
  refine hp_new (fs := [.int 0, .int 0, .int 0, .null, .null]) B0 hw hS 2 rfl in_X2 tyX2 tyX2_ok qC_X1_71 qI_X2 qN_X2 (fun j hj => by rcases (show j = 0 ∨ j = 1 ∨ j = 2 ∨ j = 3 ∨ j = 4 by omega) with rfl | rfl | rfl | rfl | rfl <;> rfl) (Nat.le_of_ble_eq_true rfl) (Nat.le_of_ble_eq_true rfl) dX1_ask_45 (fun q9 H f11 w10 ef11 hw hS => ?_)
  have h12 : f11 q9 = some (.inr (2, [.int 0, .int 0, .int 0, .null, .null])) := by rw [ef11, va_up_self]
  refine lv_dup hx hb dX1_ask_48 rfl ?_
  refine lv_iconst (v := 0) hx hb dX1_ask_49 (by decide) ?_
  refine lv_aload_n hx hb dX1_ask_50 rfl (lv_at hl9 0 rfl) ?_
  have h13 : f11 en = some (.inr (1, [.ref nw, .ref na, .ref nq, .ref nr, .int mg, .int st, .int 3, .int 1, .int 0, .int lp, .int mi])) := by rw [ef11, va_up_ne _ _ (hnew h8 w10)]; exact h8
  refine hp_get B0 hw 1 rfl in_X1 h13 8 (by decide) qF_X1_38 rfl dX1_ask_51 ?_
  refine lv_aload_n hx hb dX1_ask_54 rfl (lv_at hl9 0 rfl) ?_
  refine hp_get B0 hw 1 rfl in_X1 h13 4 (by decide) qF_X1_48 rfl dX1_ask_55 ?_
  refine lv_aload_n hx hb dX1_ask_58 rfl (lv_at hl9 0 rfl) ?_
  refine hp_get B0 hw 1 rfl in_X1 h13 2 (by decide) qF_X1_18 rfl dX1_ask_59 ?_
  refine lv_bipush (v := 6) hx hb dX1_ask_62 (by decide) ?_
  have n15 : nq ≠ en := hne k_nq k_en (Nat.ne_of_beq_eq_false rfl)
  have h14 : f6 nq = some (.inl (cI G, 6, .inl gq)) := by rw [e7, va_up_ne _ _ n15]; exact k_nq
  have h16 : f11 nq = some (.inl (cI G, 6, .inl gq)) := by rw [ef11, va_up_ne _ _ (hnew h14 w10)]; exact h14
  refine hp_S (As := [.ref nq, .int 6]) (rest := [.int mg, .int 0, .int 0, .ref q9, .ref q9, .ref nr]) B0 hw hS (c_J7_copyOf hl G f11 nq gq h16) mS_J7_copyOf_59c91 qM_X1_95 rfl rfl hl9.1 (Nat.le_of_ble_eq_true rfl) ⟨⟨Nat.le_of_ble_eq_true rfl, Nat.le_of_ble_eq_true rfl⟩, Nat.le_of_ble_eq_true rfl, Nat.le_of_ble_eq_true rfl⟩ dX1_ask_64 (fun E ce q9 f17 H locs hPX hw hS hce hcv hcl => ?_) (fun v f17 H locs hP hw hS => ?_)
  · exact hPX.elim
  · obtain ⟨q18, ev9, w19, h20, k21⟩ := hP
    subst ev9
    refine W.eq (g2 := F0 m 67 ls [.ref q18, .int mg, .int 0, .int 0, .ref q9, .ref q9, .ref nr]) rfl ?_
    have h22 : f17 q9 = some (.inr (2, [.int 0, .int 0, .int 0, .null, .null])) := k21 _ _ h12 nin0
    refine hp_I (As := [.int 0, .int 0, .int mg, .ref q18]) (rest := [.ref q9, .ref nr]) (b := q9) B0 hw hS (c_X2_init hl G f17 q9 q18 0 0 mg h22) mI_X2_init qM_X1_99 rfl rfl hl9.1 (Nat.le_of_ble_eq_true rfl) ⟨⟨Nat.le_of_ble_eq_true rfl, Nat.le_of_ble_eq_true rfl⟩, Nat.le_of_ble_eq_true rfl, Nat.le_of_ble_eq_true rfl⟩ dX1_ask_67 (fun E ce q9 f23 H locs hPX hw hS hce hcv hcl => ?_) (fun v f23 H locs hP hw hS => ?_)
    · exact hPX.elim
    · obtain ⟨ev9, h24, k25⟩ := hP
      subst ev9
      refine W.eq (g2 := F0 m 70 ls [.ref q9, .ref nr]) rfl ?_
      have n27 : nr ≠ en := hne k_nr k_en (Nat.ne_of_beq_eq_false rfl)
      have h26 : f6 nr = some (.inr (3, [.null, .null, .int 0])) := by rw [e7, va_up_ne _ _ n27]; exact k_nr
      have h28 : f11 nr = some (.inr (3, [.null, .null, .int 0])) := by rw [ef11, va_up_ne _ _ (hnew h26 w10)]; exact h26
      have h29 : f17 nr = some (.inr (3, [.null, .null, .int 0])) := k21 _ _ h28 nin0
      have n31 : nr ≠ q9 := hnew h26 w10
      have h30 : f23 nr = some (.inr (3, [.null, .null, .int 0])) := k25 _ _ h29 (ninc n31 nin0)
      refine hp_V (ci := 3) (As := [.ref q9]) (rest := []) B0 hw hS (c_X3_put0 hl G f23 nr q9 0 (by decide) h30) mV_X3_put qM_X1_102 rfl h30 rfl rfl hl9.1 (Nat.le_of_ble_eq_true rfl) ⟨⟨Nat.le_of_ble_eq_true rfl, Nat.le_of_ble_eq_true rfl⟩, Nat.le_of_ble_eq_true rfl, Nat.le_of_ble_eq_true rfl⟩ dX1_ask_70 (fun E ce q9 f32 H locs hPX hw hS hce hcv hcl => ?_) (fun v f32 H locs hP hw hS => ?_)
      · exact hPX.elim
      · obtain ⟨ev9, h33, k34⟩ := hP
        subst ev9
        refine W.eq (g2 := F0 m 73 ls []) rfl ?_
        refine lv_iconst (v := 1) hx hb dX1_ask_73 (by decide) ?_
        have h35 : f17 en = some (.inr (1, [.ref nw, .ref na, .ref nq, .ref nr, .int mg, .int st, .int 3, .int 1, .int 0, .int lp, .int mi])) := k21 _ _ h13 nin0
        have n37 : en ≠ q9 := hnew h8 w10
        have h36 : f23 en = some (.inr (1, [.ref nw, .ref na, .ref nq, .ref nr, .int mg, .int st, .int 3, .int 1, .int 0, .int lp, .int mi])) := k25 _ _ h35 (ninc n37 nin0)
        have h38 : f32 en = some (.inr (1, [.ref nw, .ref na, .ref nq, .ref nr, .int mg, .int st, .int 3, .int 1, .int 0, .int lp, .int mi])) := k34 _ _ h36 (ninc (Ne.symm n27) nin0)
        exact hp_zret (v := 1) B0 hw hS hr ⟨Nat.le_of_ble_eq_true rfl, Nat.le_of_ble_eq_true rfl⟩ (rfl) dX1_ask_74 (⟨rfl, h38, ((show hKeep [en, nr] f f6 from (by rw [e7]; exact hKeep.up (by simp))).tr (hKeep.trn w10 ((show hKeep [q9, en, nr] f6 f11 from (by rw [ef11]; exact hKeep.up (by simp))).tr ((show hKeep [q9, en, nr] f11 f17 from (k21.mono (fun x9 hx9 => nomatch hx9))).tr ((show hKeep [q9, en, nr] f17 f23 from (k25.mono (fun x9 hx9 => by simp only [List.mem_cons, List.not_mem_nil, or_false] at hx9 ⊢; omega))).tr (show hKeep [q9, en, nr] f23 f32 from (k34.mono (fun x9 hx9 => by simp only [List.mem_cons, List.not_mem_nil, or_false] at hx9 ⊢; omega))))))))⟩)

set_option maxHeartbeats 4000000 in
set_option maxRecDepth 100000 in
theorem c_X1_begin0 {l : Launch} (hl : l.stackTraces = false) (G : hG) (f : hM) (en nw na nq nr : Nat) (hwq : nw ≠ nq) (mg tm sr lp mi : Int32) (k_en : f en = some (.inr (1, [.ref nw, .ref na, .ref nq, .ref nr, .int mg, .int 0, .int tm, .int sr, .int (-1), .int lp, .int mi]))) (gw : Nat → Int32) (k_nw : f nw = some (.inl (cI G, 6, .inl gw))) (gq : Nat → Int32) (k_nq : f nq = some (.inl (cI G, 6, .inl gq))) (k_nr : f nr = some (.inr (3, [.null, .null, .int 0]))) : CT l yX1_begin (.code yX1_begin cX1_begin 1 (some .int)) 3 57 2 11 G [.ref en] f (fun v f1 => v = some (.int 0) ∧ hKeep [en, nq, nr] f f1) (fun E f1 => False) := by
  refine hp_start hl (own := RX1) (by decide) rfl (Nat.le_of_ble_eq_true rfl) ?_
  intro p e s m args below meth c B0 hr hnm hout hw hS ls hl9
  have hx := B0.1
  have hb := B0.2.1
  have hl9 : lv_has ls 1 [(0, .ref en)] := hl9
  refine lv_aload_n hx hb dX1_begin_0 rfl (lv_at hl9 0 rfl) ?_
  refine hp_get B0 hw 1 rfl in_X1 k_en 0 (by decide) qF_X1_9 rfl dX1_begin_1 ?_
  refine lv_iconst (v := 0) hx hb dX1_begin_4 (by decide) ?_
  refine lv_aload_n hx hb dX1_begin_5 rfl (lv_at hl9 0 rfl) ?_
  refine hp_get B0 hw 1 rfl in_X1 k_en 2 (by decide) qF_X1_18 rfl dX1_begin_6 ?_
  refine lv_iconst (v := 0) hx hb dX1_begin_9 (by decide) ?_
  refine lv_bipush (v := 6) hx hb dX1_begin_10 (by decide) ?_
  refine hp_copyI B0 hw hS hl9.1 qM_X1_57 qV_arraycopy qs_arraycopy qN_java_lang_System k_nw k_nq (by decide) (by decide) (by decide) (by decide) (by decide) ⟨Nat.le_of_ble_eq_true rfl, by decide⟩ dX1_begin_12 (fun H locs f1 ef1 hw hS => ?_)
  have h2 : f1 nq = some (.inl (cI G, 6, .inl (va_cpy gw gq (0 : Int32).toNatClampNeg (0 : Int32).toNatClampNeg (6 : Int32).toNatClampNeg))) := by rw [ef1, va_up_self]
  refine lv_aload_n hx hb dX1_begin_15 rfl (lv_at hl9 0 rfl) ?_
  refine lv_iconst (v := 0) hx hb dX1_begin_16 (by decide) ?_
  have n4 : en ≠ nq := hne k_en k_nq (Nat.ne_of_beq_eq_false rfl)
  have h3 : f1 en = some (.inr (1, [.ref nw, .ref na, .ref nq, .ref nr, .int mg, .int 0, .int tm, .int sr, .int (-1), .int lp, .int mi])) := by rw [ef1, va_up_ne _ _ n4]; exact k_en
  refine hp_put (fs1 := [.ref nw, .ref na, .ref nq, .ref nr, .int mg, .int 0, .int tm, .int 0, .int (-1), .int lp, .int mi]) (ty := .int) B0 hw hS 1 rfl in_X1 tyX1 tyX1_ok nmX1 h3 7 (by decide) qF_X1_35 rfl (by decide +kernel) rfl rfl (Nat.le_of_ble_eq_true rfl) rfl dX1_begin_17 (fun H locs f5 ef5 hw hS => ?_)
  have h6 : f5 en = some (.inr (1, [.ref nw, .ref na, .ref nq, .ref nr, .int mg, .int 0, .int tm, .int 0, .int (-1), .int lp, .int mi])) := by rw [ef5, va_up_self]
  refine lv_aload_n hx hb dX1_begin_20 rfl (lv_at hl9 0 rfl) ?_
  refine lv_iconst (v := 1) hx hb dX1_begin_21 (by decide) ?_
  refine hp_put (fs1 := [.ref nw, .ref na, .ref nq, .ref nr, .int mg, .int 1, .int tm, .int 0, .int (-1), .int lp, .int mi]) (ty := .int) B0 hw hS 1 rfl in_X1 tyX1 tyX1_ok nmX1 h6 5 (by decide) qF_X1_28 rfl (by decide +kernel) rfl rfl (Nat.le_of_ble_eq_true rfl) rfl dX1_begin_22 (fun H locs f7 ef7 hw hS => ?_)
  have e8 : f7 = va_up f1 en (some (.inr (1, [.ref nw, .ref na, .ref nq, .ref nr, .int mg, .int 1, .int tm, .int 0, .int (-1), .int lp, .int mi]))) := by rw [ef7, ef5, bx_uu]
  have h9 : f7 en = some (.inr (1, [.ref nw, .ref na, .ref nq, .ref nr, .int mg, .int 1, .int tm, .int 0, .int (-1), .int lp, .int mi])) := by rw [ef7, va_up_self]
  refine lv_aload_n hx hb dX1_begin_25 rfl (lv_at hl9 0 rfl) ?_
  have h10 : f7 nq = some (.inl (cI G, 6, .inl (va_cpy gw gq (0 : Int32).toNatClampNeg (0 : Int32).toNatClampNeg (6 : Int32).toNatClampNeg))) := by rw [e8, va_up_ne _ _ (Ne.symm n4)]; exact h2
  have n12 : nr ≠ nq := hne k_nr k_nq (Nat.ne_of_beq_eq_false rfl)
  have h11 : f1 nr = some (.inr (3, [.null, .null, .int 0])) := by rw [ef1, va_up_ne _ _ n12]; exact k_nr
  have n14 : nr ≠ en := hne k_nr k_en (Nat.ne_of_beq_eq_false rfl)
  have h13 : f7 nr = some (.inr (3, [.null, .null, .int 0])) := by rw [e8, va_up_ne _ _ n14]; exact h11
  refine hp_V (ci := 1) (As := []) (rest := []) B0 hw hS (c_X1_ask0 hl G f7 en nw na nq nr mg 1 tm lp mi h9 (va_cpy gw gq (0 : Int32).toNatClampNeg (0 : Int32).toNatClampNeg (6 : Int32).toNatClampNeg) h10 h13) mV_X1_ask qM_X1_63 rfl h9 rfl rfl hl9.1 (Nat.le_of_ble_eq_true rfl) ⟨⟨Nat.le_of_ble_eq_true rfl, Nat.le_of_ble_eq_true rfl⟩, Nat.le_of_ble_eq_true rfl, Nat.le_of_ble_eq_true rfl⟩ dX1_begin_26 (fun E ce q9 f15 H locs hPX hw hS hce hcv hcl => ?_) (fun v f15 H locs hP hw hS => ?_)
  · exact hPX.elim
  · obtain ⟨ev9, h16, k17⟩ := hP
    subst ev9
    refine W.eq (g2 := F0 m 29 ls [.int 1]) rfl ?_
    refine lv_pop hx hb dX1_begin_29 rfl ?_
    refine lv_aload_n hx hb dX1_begin_30 rfl (lv_at hl9 0 rfl) ?_
    refine hp_get B0 hw 1 rfl in_X1 h16 8 (by decide) qF_X1_38 rfl dX1_begin_31 ?_
    exact hp_iret (v := 0) B0 hw hS hr ⟨Nat.le_of_ble_eq_true rfl, Nat.le_of_ble_eq_true rfl⟩ dX1_begin_34 (⟨rfl, ((show hKeep [en, nq, nr] f f1 from (by rw [ef1]; exact hKeep.up (by simp))).tr ((show hKeep [en, nq, nr] f1 f7 from (by rw [e8]; exact hKeep.up (by simp))).tr (show hKeep [en, nq, nr] f7 f15 from (k17.mono (fun x9 hx9 => by simp only [List.mem_cons, List.not_mem_nil, or_false] at hx9 ⊢; omega)))))⟩)

set_option maxHeartbeats 4000000 in
set_option maxRecDepth 100000 in
theorem c_X4_open0 {l : Launch} (hl : l.stackTraces = false) (G : hG) (f : hM) (xo ez eo bu : Nat) (k_xo : f xo = some (.inr (4, [.ref ez, .ref eo, .ref bu]))) (nw0 na0 nq0 nr0 : Nat) (mg0 : Int32) (k_ez : f ez = some (.inr (1, [.ref nw0, .ref na0, .ref nq0, .ref nr0, .int mg0, .int 0, .int 0, .int 0, .int (-1), .int 0, .int 0]))) (nw1 na1 nq1 nr1 : Nat) (mg1 : Int32) (k_eo : f eo = some (.inr (1, [.ref nw1, .ref na1, .ref nq1, .ref nr1, .int mg1, .int 0, .int 0, .int 0, .int (-1), .int 0, .int 0]))) (hwq0 : nw0 ≠ nq0) (gw0 : Nat → Int32) (k_nw0 : f nw0 = some (.inl (cI G, 6, .inl gw0))) (gq0 : Nat → Int32) (k_nq0 : f nq0 = some (.inl (cI G, 6, .inl gq0))) (k_nr0 : f nr0 = some (.inr (3, [.null, .null, .int 0]))) (hwq1 : nw1 ≠ nq1) (gw1 : Nat → Int32) (k_nw1 : f nw1 = some (.inl (cI G, 6, .inl gw1))) (gq1 : Nat → Int32) (k_nq1 : f nq1 = some (.inl (cI G, 6, .inl gq1))) (k_nr1 : f nr1 = some (.inr (3, [.null, .null, .int 0]))) (i : Int32) : CT l yX4_open (.code yX4_open cX4_open 3 (some .int)) 7 103 3 17 G [.ref xo, .int i] f (fun v f1 => spc (sE i) True = 0 ∧ v = some (.int 0) ∧ hKeep [ez, nq0, nr0, eo, nq1, nr1] f f1) (fun E f1 => f1 = f ∧ E = eI ∧ spc (sE i) True = 1) := by
  refine hp_start hl (own := RX4) (by decide) rfl (Nat.le_of_ble_eq_true rfl) ?_
  intro p e s m args below meth c B0 hr hnm hout hw hS ls hl9
  have hx := B0.1
  have hb := B0.2.1
  have hl9 : lv_has ls 3 [(0, .ref xo), (1, .int i)] := hl9
  refine lv_aload_n hx hb dX4_open_0 rfl (lv_at hl9 0 rfl) ?_
  refine lv_iload_n hx hb dX4_open_1 rfl (lv_at hl9 1 rfl) ?_
  refine hp_V (ci := 4) (As := [.int i]) (rest := []) B0 hw hS (c_X4_endAt hl G f xo ez eo bu k_xo i) mV_X4_endAt qM_X4_28 rfl k_xo rfl rfl hl9.1 (Nat.le_of_ble_eq_true rfl) ⟨⟨Nat.le_of_ble_eq_true rfl, Nat.le_of_ble_eq_true rfl⟩, Nat.le_of_ble_eq_true rfl, Nat.le_of_ble_eq_true rfl⟩ dX4_open_2 (fun E ce q9 f1 H locs hPX hw hS hce hcv hcl => ?_) (fun v f1 H locs hP hw hS => ?_)
  · obtain ⟨ef9, eE9, hE9⟩ := hPX
    rw [ef9] at hw
    subst eE9
    exact hp_out B0 hw hS hout hce hcv hcl ⟨Nat.le_of_ble_eq_true rfl, Nat.le_of_ble_eq_true rfl⟩ (⟨rfl, rfl, spc_1 hE9⟩)
  · obtain ⟨ef9, hv9⟩ := hP
    rw [ef9] at hw
    rcases hv9 with ⟨k2, ev9⟩ | ⟨k2, ev9⟩
    · subst ev9
      refine W.eq (g2 := F0 m 5 ls [.ref ez]) rfl ?_
      refine lv_astore_n (lv' := [(2, .ref ez), (0, .ref xo), (1, .int i)]) hx hb dX4_open_5 rfl hl9 (by decide) rfl (fun ls hl9 => ?_)
      refine lv_aload_n hx hb dX4_open_6 rfl (lv_at hl9 0 rfl) ?_
      refine hp_getN B0 hw 1 rfl in_X1 k_ez 5 (by decide) oF_X4_55 rfl dX4_open_7 ?_
      refine lv_if_eq (tgt := 23) hx hb dX4_open_10 (by decide) (fun _ => ?_) (fun c9 => absurd (by decide) c9)
      refine lv_aload_n hx hb dX4_open_23 rfl (lv_at hl9 0 rfl) ?_
      refine hp_V (ci := 1) (As := []) (rest := []) B0 hw hS (c_X1_begin0 hl G f ez nw0 na0 nq0 nr0 hwq0 mg0 0 0 0 0 k_ez gw0 k_nw0 gq0 k_nq0 k_nr0) mV_X1_begin qM_X4_64 rfl k_ez rfl rfl hl9.1 (Nat.le_of_ble_eq_true rfl) ⟨⟨Nat.le_of_ble_eq_true rfl, Nat.le_of_ble_eq_true rfl⟩, Nat.le_of_ble_eq_true rfl, Nat.le_of_ble_eq_true rfl⟩ dX4_open_24 (fun E ce q9 f3 H locs hPX hw hS hce hcv hcl => ?_) (fun v f3 H locs hP hw hS => ?_)
      · exact hPX.elim
      · obtain ⟨ev9, k4⟩ := hP
        subst ev9
        refine W.eq (g2 := F0 m 27 ls [.int 0]) rfl ?_
        exact hp_iret (v := 0) B0 hw hS hr ⟨Nat.le_of_ble_eq_true rfl, Nat.le_of_ble_eq_true rfl⟩ dX4_open_27 (⟨spc_0 (Or.inl k2) trivial, rfl, (show hKeep [ez, nq0, nr0, eo, nq1, nr1] f f3 from (k4.mono (fun x9 hx9 => by simp only [List.mem_cons, List.not_mem_nil, or_false] at hx9 ⊢; omega)))⟩)
    · subst ev9
      refine W.eq (g2 := F0 m 5 ls [.ref eo]) rfl ?_
      refine lv_astore_n (lv' := [(2, .ref eo), (0, .ref xo), (1, .int i)]) hx hb dX4_open_5 rfl hl9 (by decide) rfl (fun ls hl9 => ?_)
      refine lv_aload_n hx hb dX4_open_6 rfl (lv_at hl9 0 rfl) ?_
      refine hp_getN B0 hw 1 rfl in_X1 k_eo 5 (by decide) oF_X4_55 rfl dX4_open_7 ?_
      refine lv_if_eq (tgt := 23) hx hb dX4_open_10 (by decide) (fun _ => ?_) (fun c9 => absurd (by decide) c9)
      refine lv_aload_n hx hb dX4_open_23 rfl (lv_at hl9 0 rfl) ?_
      refine hp_V (ci := 1) (As := []) (rest := []) B0 hw hS (c_X1_begin0 hl G f eo nw1 na1 nq1 nr1 hwq1 mg1 0 0 0 0 k_eo gw1 k_nw1 gq1 k_nq1 k_nr1) mV_X1_begin qM_X4_64 rfl k_eo rfl rfl hl9.1 (Nat.le_of_ble_eq_true rfl) ⟨⟨Nat.le_of_ble_eq_true rfl, Nat.le_of_ble_eq_true rfl⟩, Nat.le_of_ble_eq_true rfl, Nat.le_of_ble_eq_true rfl⟩ dX4_open_24 (fun E ce q9 f5 H locs hPX hw hS hce hcv hcl => ?_) (fun v f5 H locs hP hw hS => ?_)
      · exact hPX.elim
      · obtain ⟨ev9, k6⟩ := hP
        subst ev9
        refine W.eq (g2 := F0 m 27 ls [.int 0]) rfl ?_
        exact hp_iret (v := 0) B0 hw hS hr ⟨Nat.le_of_ble_eq_true rfl, Nat.le_of_ble_eq_true rfl⟩ dX4_open_27 (⟨spc_0 (Or.inr k2) trivial, rfl, (show hKeep [ez, nq0, nr0, eo, nq1, nr1] f f5 from (k6.mono (fun x9 hx9 => by simp only [List.mem_cons, List.not_mem_nil, or_false] at hx9 ⊢; omega)))⟩)

set_option maxHeartbeats 4000000 in
set_option maxRecDepth 100000 in
theorem c_X4_close0 {l : Launch} (hl : l.stackTraces = false) (G : hG) (f : hM) (xo ez eo bu : Nat) (k_xo : f xo = some (.inr (4, [.ref ez, .ref eo, .ref bu]))) (nw0 na0 nq0 nr0 : Nat) (mg0 : Int32) (k_ez : f ez = some (.inr (1, [.ref nw0, .ref na0, .ref nq0, .ref nr0, .int mg0, .int 0, .int 0, .int 0, .int (-1), .int 0, .int 0]))) (nw1 na1 nq1 nr1 : Nat) (mg1 : Int32) (k_eo : f eo = some (.inr (1, [.ref nw1, .ref na1, .ref nq1, .ref nr1, .int mg1, .int 0, .int 0, .int 0, .int (-1), .int 0, .int 0]))) (i : Int32) : CT l yX4_close (.code yX4_close cX4_close 3 (some .int)) 7 103 2 12 G [.ref xo, .int i] f (fun v f1 => False) (fun E f1 => f1 = f ∧ ((E = eI ∧ spc (sE i) False = 1) ∨ (E = eS ∧ spc (sE i) False = 2))) := by
  refine hp_start hl (own := RX4) (by decide) rfl (Nat.le_of_ble_eq_true rfl) ?_
  intro p e s m args below meth c B0 hr hnm hout hw hS ls hl9
  have hx := B0.1
  have hb := B0.2.1
  have hl9 : lv_has ls 3 [(0, .ref xo), (1, .int i)] := hl9
  refine lv_aload_n hx hb dX4_close_0 rfl (lv_at hl9 0 rfl) ?_
  refine lv_iload_n hx hb dX4_close_1 rfl (lv_at hl9 1 rfl) ?_
  refine hp_V (ci := 4) (As := [.int i]) (rest := []) B0 hw hS (c_X4_endAt hl G f xo ez eo bu k_xo i) mV_X4_endAt qM_X4_28 rfl k_xo rfl rfl hl9.1 (Nat.le_of_ble_eq_true rfl) ⟨⟨Nat.le_of_ble_eq_true rfl, Nat.le_of_ble_eq_true rfl⟩, Nat.le_of_ble_eq_true rfl, Nat.le_of_ble_eq_true rfl⟩ dX4_close_2 (fun E ce q9 f1 H locs hPX hw hS hce hcv hcl => ?_) (fun v f1 H locs hP hw hS => ?_)
  · obtain ⟨ef9, eE9, hE9⟩ := hPX
    rw [ef9] at hw
    subst eE9
    exact hp_out B0 hw hS hout hce hcv hcl ⟨Nat.le_of_ble_eq_true rfl, Nat.le_of_ble_eq_true rfl⟩ (⟨rfl, Or.inl ⟨rfl, spc_1 hE9⟩⟩)
  · obtain ⟨ef9, hv9⟩ := hP
    rw [ef9] at hw
    rcases hv9 with ⟨k2, ev9⟩ | ⟨k2, ev9⟩
    · subst ev9
      refine W.eq (g2 := F0 m 5 ls [.ref ez]) rfl ?_
      refine lv_astore_n (lv' := [(2, .ref ez), (0, .ref xo), (1, .int i)]) hx hb dX4_close_5 rfl hl9 (by decide) rfl (fun ls hl9 => ?_)
      refine lv_aload_n hx hb dX4_close_6 rfl (lv_at hl9 0 rfl) ?_
      refine hp_getN B0 hw 1 rfl in_X1 k_ez 5 (by decide) oF_X4_55 rfl dX4_close_7 ?_
      refine lv_if_ne (tgt := 23) hx hb dX4_close_10 (by decide) (fun c9 => absurd (by decide) c9) (fun _ => ?_)
      exact hp_throw (cls := eS) (names := tNm) B0 hw hS hout tF_eS qC_X4_59 qN_java_lang_IllegalStateException sR_X4_68 tA_eS tB_eS tG_eS hl9.1 dX4_close_13 dX4_close_16 dX4_close_17 dX4_close_19 dX4_close_22 ⟨⟨Nat.le_of_ble_eq_true rfl, Nat.le_of_ble_eq_true rfl⟩, Nat.le_of_ble_eq_true rfl, Nat.le_of_ble_eq_true rfl⟩ ⟨Nat.le_of_ble_eq_true rfl, Nat.le_of_ble_eq_true rfl⟩ (⟨rfl, Or.inr ⟨rfl, spc_2 (Or.inl k2) id⟩⟩)
    · subst ev9
      refine W.eq (g2 := F0 m 5 ls [.ref eo]) rfl ?_
      refine lv_astore_n (lv' := [(2, .ref eo), (0, .ref xo), (1, .int i)]) hx hb dX4_close_5 rfl hl9 (by decide) rfl (fun ls hl9 => ?_)
      refine lv_aload_n hx hb dX4_close_6 rfl (lv_at hl9 0 rfl) ?_
      refine hp_getN B0 hw 1 rfl in_X1 k_eo 5 (by decide) oF_X4_55 rfl dX4_close_7 ?_
      refine lv_if_ne (tgt := 23) hx hb dX4_close_10 (by decide) (fun c9 => absurd (by decide) c9) (fun _ => ?_)
      exact hp_throw (cls := eS) (names := tNm) B0 hw hS hout tF_eS qC_X4_59 qN_java_lang_IllegalStateException sR_X4_68 tA_eS tB_eS tG_eS hl9.1 dX4_close_13 dX4_close_16 dX4_close_17 dX4_close_19 dX4_close_22 ⟨⟨Nat.le_of_ble_eq_true rfl, Nat.le_of_ble_eq_true rfl⟩, Nat.le_of_ble_eq_true rfl, Nat.le_of_ble_eq_true rfl⟩ ⟨Nat.le_of_ble_eq_true rfl, Nat.le_of_ble_eq_true rfl⟩ (⟨rfl, Or.inr ⟨rfl, spc_2 (Or.inr k2) id⟩⟩)

set_option maxHeartbeats 4000000 in
set_option maxRecDepth 100000 in
theorem c_X4_takeFrame0 {l : Launch} (hl : l.stackTraces = false) (G : hG) (f : hM) (en : Nat) (nw na nq nr : Nat) (cn mg st tm sr li lp mi : Int32) (k_en : f en = some (.inr (1, [.ref nw, .ref na, .ref nq, .ref nr, .int mg, .int st, .int tm, .int sr, .int li, .int lp, .int mi]))) (k_nr : f nr = some (.inr (3, [.null, .null, .int cn]))) : CT l yX4_takeFrame (.code yX4_takeFrame cX4_takeFrame 2 (some (.object "OptionLine$Frame"))) 6 82 1 6 G [.ref en] f (fun v f1 => False) (fun E f1 => f1 = f ∧ E = eS) := by
  refine hp_start hl (own := RX4) (by decide) rfl (Nat.le_of_ble_eq_true rfl) ?_
  intro p e s m args below meth c B0 hr hnm hout hw hS ls hl9
  have hx := B0.1
  have hb := B0.2.1
  have hl9 : lv_has ls 2 [(0, .ref en)] := hl9
  refine lv_aload_n hx hb dX4_takeFrame_0 rfl (lv_at hl9 0 rfl) ?_
  refine hp_getN B0 hw 1 rfl in_X1 k_en 3 (by decide) oF_X4_106 rfl dX4_takeFrame_1 ?_
  refine hp_V (ci := 3) (As := []) (rest := []) B0 hw hS (c_X3_take0 hl G f nr cn k_nr) mV_X3_takeFirst qM_X4_152 rfl k_nr rfl rfl hl9.1 (Nat.le_of_ble_eq_true rfl) ⟨⟨Nat.le_of_ble_eq_true rfl, Nat.le_of_ble_eq_true rfl⟩, Nat.le_of_ble_eq_true rfl, Nat.le_of_ble_eq_true rfl⟩ dX4_takeFrame_4 (fun E ce q9 f1 H locs hPX hw hS hce hcv hcl => ?_) (fun v f1 H locs hP hw hS => ?_)
  · exact hPX.elim
  · obtain ⟨ev9, ef9⟩ := hP
    rw [ef9] at hw
    subst ev9
    refine W.eq (g2 := F0 m 7 ls [.null]) rfl ?_
    refine lv_astore_nN (lv' := [(1, .null), (0, .ref en)]) hx hb dX4_takeFrame_7 rfl hl9 (by decide) rfl (fun ls hl9 => ?_)
    refine lv_aload_nN hx hb dX4_takeFrame_8 rfl (lv_at hl9 0 rfl) ?_
    refine lv_ifnonnullN hx hb dX4_takeFrame_9 ?_
    exact hp_throw (cls := eS) (names := tNm) B0 hw hS hout tF_eS qC_X4_59 qN_java_lang_IllegalStateException sR_X4_156 tA_eS tB_eS tG_eS hl9.1 dX4_takeFrame_12 dX4_takeFrame_15 dX4_takeFrame_16 dX4_takeFrame_18 dX4_takeFrame_21 ⟨⟨Nat.le_of_ble_eq_true rfl, Nat.le_of_ble_eq_true rfl⟩, Nat.le_of_ble_eq_true rfl, Nat.le_of_ble_eq_true rfl⟩ ⟨Nat.le_of_ble_eq_true rfl, Nat.le_of_ble_eq_true rfl⟩ (⟨rfl, rfl⟩)

set_option maxHeartbeats 4000000 in
set_option maxRecDepth 100000 in
theorem c_X4_deliver0 {l : Launch} (hl : l.stackTraces = false) (G : hG) (f : hM) (xo ez eo bu : Nat) (k_xo : f xo = some (.inr (4, [.ref ez, .ref eo, .ref bu]))) (nw0 na0 nq0 nr0 : Nat) (mg0 : Int32) (k_ez : f ez = some (.inr (1, [.ref nw0, .ref na0, .ref nq0, .ref nr0, .int mg0, .int 0, .int 0, .int 0, .int (-1), .int 0, .int 0]))) (nw1 na1 nq1 nr1 : Nat) (mg1 : Int32) (k_eo : f eo = some (.inr (1, [.ref nw1, .ref na1, .ref nq1, .ref nr1, .int mg1, .int 0, .int 0, .int 0, .int (-1), .int 0, .int 0]))) (k_nr0 : f nr0 = some (.inr (3, [.null, .null, .int 0]))) (k_nr1 : f nr1 = some (.inr (3, [.null, .null, .int 0]))) (i : Int32) : CT l yX4_deliver (.code yX4_deliver cX4_deliver 3 (some .int)) 7 103 2 12 G [.ref xo, .int i] f (fun v f1 => False) (fun E f1 => f1 = f ∧ ((E = eI ∧ spc (sE i) False = 1) ∨ (E = eS ∧ spc (sE i) False = 2))) := by
  refine hp_start hl (own := RX4) (by decide) rfl (Nat.le_of_ble_eq_true rfl) ?_
  intro p e s m args below meth c B0 hr hnm hout hw hS ls hl9
  have hx := B0.1
  have hb := B0.2.1
  have hl9 : lv_has ls 3 [(0, .ref xo), (1, .int i)] := hl9
  refine lv_aload_n hx hb dX4_deliver_0 rfl (lv_at hl9 0 rfl) ?_
  refine lv_iload_n hx hb dX4_deliver_1 rfl (lv_at hl9 1 rfl) ?_
  refine hp_V (ci := 4) (As := [.int i]) (rest := []) B0 hw hS (c_X4_endAt hl G f xo ez eo bu k_xo i) mV_X4_endAt qM_X4_28 rfl k_xo rfl rfl hl9.1 (Nat.le_of_ble_eq_true rfl) ⟨⟨Nat.le_of_ble_eq_true rfl, Nat.le_of_ble_eq_true rfl⟩, Nat.le_of_ble_eq_true rfl, Nat.le_of_ble_eq_true rfl⟩ dX4_deliver_2 (fun E ce q9 f1 H locs hPX hw hS hce hcv hcl => ?_) (fun v f1 H locs hP hw hS => ?_)
  · obtain ⟨ef9, eE9, hE9⟩ := hPX
    rw [ef9] at hw
    subst eE9
    exact hp_out B0 hw hS hout hce hcv hcl ⟨Nat.le_of_ble_eq_true rfl, Nat.le_of_ble_eq_true rfl⟩ (⟨rfl, Or.inl ⟨rfl, spc_1 hE9⟩⟩)
  · obtain ⟨ef9, hv9⟩ := hP
    rw [ef9] at hw
    rcases hv9 with ⟨k2, ev9⟩ | ⟨k2, ev9⟩
    · subst ev9
      refine W.eq (g2 := F0 m 5 ls [.ref ez]) rfl ?_
      refine hp_S (As := [.ref ez]) (rest := []) B0 hw hS (c_X4_takeFrame0 hl G f ez nw0 na0 nq0 nr0 0 mg0 0 0 0 (-1) 0 0 k_ez k_nr0) mS_X4_takeFrame qM_X4_73 rfl rfl hl9.1 (Nat.le_of_ble_eq_true rfl) ⟨⟨Nat.le_of_ble_eq_true rfl, Nat.le_of_ble_eq_true rfl⟩, Nat.le_of_ble_eq_true rfl, Nat.le_of_ble_eq_true rfl⟩ dX4_deliver_5 (fun E ce q9 f3 H locs hPX hw hS hce hcv hcl => ?_) (fun v f3 H locs hP hw hS => ?_)
      · obtain ⟨ef9, eE9⟩ := hPX
        rw [ef9] at hw
        subst eE9
        exact hp_out B0 hw hS hout hce hcv hcl ⟨Nat.le_of_ble_eq_true rfl, Nat.le_of_ble_eq_true rfl⟩ (⟨rfl, Or.inr ⟨rfl, spc_2 (Or.inl k2) id⟩⟩)
      · exact hP.elim
    · subst ev9
      refine W.eq (g2 := F0 m 5 ls [.ref eo]) rfl ?_
      refine hp_S (As := [.ref eo]) (rest := []) B0 hw hS (c_X4_takeFrame0 hl G f eo nw1 na1 nq1 nr1 0 mg1 0 0 0 (-1) 0 0 k_eo k_nr1) mS_X4_takeFrame qM_X4_73 rfl rfl hl9.1 (Nat.le_of_ble_eq_true rfl) ⟨⟨Nat.le_of_ble_eq_true rfl, Nat.le_of_ble_eq_true rfl⟩, Nat.le_of_ble_eq_true rfl, Nat.le_of_ble_eq_true rfl⟩ dX4_deliver_5 (fun E ce q9 f4 H locs hPX hw hS hce hcv hcl => ?_) (fun v f4 H locs hP hw hS => ?_)
      · obtain ⟨ef9, eE9⟩ := hPX
        rw [ef9] at hw
        subst eE9
        exact hp_out B0 hw hS hout hce hcv hcl ⟨Nat.le_of_ble_eq_true rfl, Nat.le_of_ble_eq_true rfl⟩ (⟨rfl, Or.inr ⟨rfl, spc_2 (Or.inr k2) id⟩⟩)
      · exact hP.elim

set_option maxHeartbeats 4000000 in
set_option maxRecDepth 100000 in
theorem c_X4_lose0 {l : Launch} (hl : l.stackTraces = false) (G : hG) (f : hM) (xo ez eo bu : Nat) (k_xo : f xo = some (.inr (4, [.ref ez, .ref eo, .ref bu]))) (nw0 na0 nq0 nr0 : Nat) (mg0 : Int32) (k_ez : f ez = some (.inr (1, [.ref nw0, .ref na0, .ref nq0, .ref nr0, .int mg0, .int 0, .int 0, .int 0, .int (-1), .int 0, .int 0]))) (nw1 na1 nq1 nr1 : Nat) (mg1 : Int32) (k_eo : f eo = some (.inr (1, [.ref nw1, .ref na1, .ref nq1, .ref nr1, .int mg1, .int 0, .int 0, .int 0, .int (-1), .int 0, .int 0]))) (k_nr0 : f nr0 = some (.inr (3, [.null, .null, .int 0]))) (k_nr1 : f nr1 = some (.inr (3, [.null, .null, .int 0]))) (i : Int32) : CT l yX4_lose (.code yX4_lose cX4_lose 4 (some .int)) 7 103 2 12 G [.ref xo, .int i] f (fun v f1 => False) (fun E f1 => f1 = f ∧ ((E = eI ∧ spc (sE i) False = 1) ∨ (E = eS ∧ spc (sE i) False = 2))) := by
  refine hp_start hl (own := RX4) (by decide) rfl (Nat.le_of_ble_eq_true rfl) ?_
  intro p e s m args below meth c B0 hr hnm hout hw hS ls hl9
  have hx := B0.1
  have hb := B0.2.1
  have hl9 : lv_has ls 4 [(0, .ref xo), (1, .int i)] := hl9
  refine lv_aload_n hx hb dX4_lose_0 rfl (lv_at hl9 0 rfl) ?_
  refine lv_iload_n hx hb dX4_lose_1 rfl (lv_at hl9 1 rfl) ?_
  refine hp_V (ci := 4) (As := [.int i]) (rest := []) B0 hw hS (c_X4_endAt hl G f xo ez eo bu k_xo i) mV_X4_endAt qM_X4_28 rfl k_xo rfl rfl hl9.1 (Nat.le_of_ble_eq_true rfl) ⟨⟨Nat.le_of_ble_eq_true rfl, Nat.le_of_ble_eq_true rfl⟩, Nat.le_of_ble_eq_true rfl, Nat.le_of_ble_eq_true rfl⟩ dX4_lose_2 (fun E ce q9 f1 H locs hPX hw hS hce hcv hcl => ?_) (fun v f1 H locs hP hw hS => ?_)
  · obtain ⟨ef9, eE9, hE9⟩ := hPX
    rw [ef9] at hw
    subst eE9
    exact hp_out B0 hw hS hout hce hcv hcl ⟨Nat.le_of_ble_eq_true rfl, Nat.le_of_ble_eq_true rfl⟩ (⟨rfl, Or.inl ⟨rfl, spc_1 hE9⟩⟩)
  · obtain ⟨ef9, hv9⟩ := hP
    rw [ef9] at hw
    rcases hv9 with ⟨k2, ev9⟩ | ⟨k2, ev9⟩
    · subst ev9
      refine W.eq (g2 := F0 m 5 ls [.ref ez]) rfl ?_
      refine lv_astore_n (lv' := [(2, .ref ez), (0, .ref xo), (1, .int i)]) hx hb dX4_lose_5 rfl hl9 (by decide) rfl (fun ls hl9 => ?_)
      refine lv_aload_n hx hb dX4_lose_6 rfl (lv_at hl9 0 rfl) ?_
      refine hp_S (As := [.ref ez]) (rest := []) B0 hw hS (c_X4_takeFrame0 hl G f ez nw0 na0 nq0 nr0 0 mg0 0 0 0 (-1) 0 0 k_ez k_nr0) mS_X4_takeFrame qM_X4_73 rfl rfl hl9.1 (Nat.le_of_ble_eq_true rfl) ⟨⟨Nat.le_of_ble_eq_true rfl, Nat.le_of_ble_eq_true rfl⟩, Nat.le_of_ble_eq_true rfl, Nat.le_of_ble_eq_true rfl⟩ dX4_lose_7 (fun E ce q9 f3 H locs hPX hw hS hce hcv hcl => ?_) (fun v f3 H locs hP hw hS => ?_)
      · obtain ⟨ef9, eE9⟩ := hPX
        rw [ef9] at hw
        subst eE9
        exact hp_out B0 hw hS hout hce hcv hcl ⟨Nat.le_of_ble_eq_true rfl, Nat.le_of_ble_eq_true rfl⟩ (⟨rfl, Or.inr ⟨rfl, spc_2 (Or.inl k2) id⟩⟩)
      · exact hP.elim
    · subst ev9
      refine W.eq (g2 := F0 m 5 ls [.ref eo]) rfl ?_
      refine lv_astore_n (lv' := [(2, .ref eo), (0, .ref xo), (1, .int i)]) hx hb dX4_lose_5 rfl hl9 (by decide) rfl (fun ls hl9 => ?_)
      refine lv_aload_n hx hb dX4_lose_6 rfl (lv_at hl9 0 rfl) ?_
      refine hp_S (As := [.ref eo]) (rest := []) B0 hw hS (c_X4_takeFrame0 hl G f eo nw1 na1 nq1 nr1 0 mg1 0 0 0 (-1) 0 0 k_eo k_nr1) mS_X4_takeFrame qM_X4_73 rfl rfl hl9.1 (Nat.le_of_ble_eq_true rfl) ⟨⟨Nat.le_of_ble_eq_true rfl, Nat.le_of_ble_eq_true rfl⟩, Nat.le_of_ble_eq_true rfl, Nat.le_of_ble_eq_true rfl⟩ dX4_lose_7 (fun E ce q9 f4 H locs hPX hw hS hce hcv hcl => ?_) (fun v f4 H locs hP hw hS => ?_)
      · obtain ⟨ef9, eE9⟩ := hPX
        rw [ef9] at hw
        subst eE9
        exact hp_out B0 hw hS hout hce hcv hcl ⟨Nat.le_of_ble_eq_true rfl, Nat.le_of_ble_eq_true rfl⟩ (⟨rfl, Or.inr ⟨rfl, spc_2 (Or.inr k2) id⟩⟩)
      · exact hP.elim

set_option maxHeartbeats 4000000 in
set_option maxRecDepth 100000 in
theorem c_X4_loop0 {l : Launch} (hl : l.stackTraces = false) (G : hG) (f : hM) (xo ez eo bu : Nat) (k_xo : f xo = some (.inr (4, [.ref ez, .ref eo, .ref bu]))) (nw0 na0 nq0 nr0 : Nat) (mg0 : Int32) (k_ez : f ez = some (.inr (1, [.ref nw0, .ref na0, .ref nq0, .ref nr0, .int mg0, .int 0, .int 0, .int 0, .int (-1), .int 0, .int 0]))) (nw1 na1 nq1 nr1 : Nat) (mg1 : Int32) (k_eo : f eo = some (.inr (1, [.ref nw1, .ref na1, .ref nq1, .ref nr1, .int mg1, .int 0, .int 0, .int 0, .int (-1), .int 0, .int 0]))) (k_nr0 : f nr0 = some (.inr (3, [.null, .null, .int 0]))) (k_nr1 : f nr1 = some (.inr (3, [.null, .null, .int 0]))) (i : Int32) : CT l yX4_loop (.code yX4_loop cX4_loop 4 (some .int)) 7 103 2 12 G [.ref xo, .int i] f (fun v f1 => False) (fun E f1 => f1 = f ∧ ((E = eI ∧ spc (sE i) False = 1) ∨ (E = eS ∧ spc (sE i) False = 2))) := by
  refine hp_start hl (own := RX4) (by decide) rfl (Nat.le_of_ble_eq_true rfl) ?_
  intro p e s m args below meth c B0 hr hnm hout hw hS ls hl9
  have hx := B0.1
  have hb := B0.2.1
  have hl9 : lv_has ls 4 [(0, .ref xo), (1, .int i)] := hl9
  refine lv_aload_n hx hb dX4_loop_0 rfl (lv_at hl9 0 rfl) ?_
  refine lv_iload_n hx hb dX4_loop_1 rfl (lv_at hl9 1 rfl) ?_
  refine hp_V (ci := 4) (As := [.int i]) (rest := []) B0 hw hS (c_X4_endAt hl G f xo ez eo bu k_xo i) mV_X4_endAt qM_X4_28 rfl k_xo rfl rfl hl9.1 (Nat.le_of_ble_eq_true rfl) ⟨⟨Nat.le_of_ble_eq_true rfl, Nat.le_of_ble_eq_true rfl⟩, Nat.le_of_ble_eq_true rfl, Nat.le_of_ble_eq_true rfl⟩ dX4_loop_2 (fun E ce q9 f1 H locs hPX hw hS hce hcv hcl => ?_) (fun v f1 H locs hP hw hS => ?_)
  · obtain ⟨ef9, eE9, hE9⟩ := hPX
    rw [ef9] at hw
    subst eE9
    exact hp_out B0 hw hS hout hce hcv hcl ⟨Nat.le_of_ble_eq_true rfl, Nat.le_of_ble_eq_true rfl⟩ (⟨rfl, Or.inl ⟨rfl, spc_1 hE9⟩⟩)
  · obtain ⟨ef9, hv9⟩ := hP
    rw [ef9] at hw
    rcases hv9 with ⟨k2, ev9⟩ | ⟨k2, ev9⟩
    · subst ev9
      refine W.eq (g2 := F0 m 5 ls [.ref ez]) rfl ?_
      refine lv_astore_n (lv' := [(2, .ref ez), (0, .ref xo), (1, .int i)]) hx hb dX4_loop_5 rfl hl9 (by decide) rfl (fun ls hl9 => ?_)
      refine lv_aload_n hx hb dX4_loop_6 rfl (lv_at hl9 0 rfl) ?_
      refine hp_S (As := [.ref ez]) (rest := []) B0 hw hS (c_X4_takeFrame0 hl G f ez nw0 na0 nq0 nr0 0 mg0 0 0 0 (-1) 0 0 k_ez k_nr0) mS_X4_takeFrame qM_X4_73 rfl rfl hl9.1 (Nat.le_of_ble_eq_true rfl) ⟨⟨Nat.le_of_ble_eq_true rfl, Nat.le_of_ble_eq_true rfl⟩, Nat.le_of_ble_eq_true rfl, Nat.le_of_ble_eq_true rfl⟩ dX4_loop_7 (fun E ce q9 f3 H locs hPX hw hS hce hcv hcl => ?_) (fun v f3 H locs hP hw hS => ?_)
      · obtain ⟨ef9, eE9⟩ := hPX
        rw [ef9] at hw
        subst eE9
        exact hp_out B0 hw hS hout hce hcv hcl ⟨Nat.le_of_ble_eq_true rfl, Nat.le_of_ble_eq_true rfl⟩ (⟨rfl, Or.inr ⟨rfl, spc_2 (Or.inl k2) id⟩⟩)
      · exact hP.elim
    · subst ev9
      refine W.eq (g2 := F0 m 5 ls [.ref eo]) rfl ?_
      refine lv_astore_n (lv' := [(2, .ref eo), (0, .ref xo), (1, .int i)]) hx hb dX4_loop_5 rfl hl9 (by decide) rfl (fun ls hl9 => ?_)
      refine lv_aload_n hx hb dX4_loop_6 rfl (lv_at hl9 0 rfl) ?_
      refine hp_S (As := [.ref eo]) (rest := []) B0 hw hS (c_X4_takeFrame0 hl G f eo nw1 na1 nq1 nr1 0 mg1 0 0 0 (-1) 0 0 k_eo k_nr1) mS_X4_takeFrame qM_X4_73 rfl rfl hl9.1 (Nat.le_of_ble_eq_true rfl) ⟨⟨Nat.le_of_ble_eq_true rfl, Nat.le_of_ble_eq_true rfl⟩, Nat.le_of_ble_eq_true rfl, Nat.le_of_ble_eq_true rfl⟩ dX4_loop_7 (fun E ce q9 f4 H locs hPX hw hS hce hcv hcl => ?_) (fun v f4 H locs hP hw hS => ?_)
      · obtain ⟨ef9, eE9⟩ := hPX
        rw [ef9] at hw
        subst eE9
        exact hp_out B0 hw hS hout hce hcv hcl ⟨Nat.le_of_ble_eq_true rfl, Nat.le_of_ble_eq_true rfl⟩ (⟨rfl, Or.inr ⟨rfl, spc_2 (Or.inr k2) id⟩⟩)
      · exact hP.elim

set_option maxHeartbeats 4000000 in
set_option maxRecDepth 100000 in
theorem c_X1_tick0 {l : Launch} (hl : l.stackTraces = false) (G : hG) (f : hM) (en nw na nq nr : Nat) (mg tm sr li lp mi : Int32) (k_en : f en = some (.inr (1, [.ref nw, .ref na, .ref nq, .ref nr, .int mg, .int 0, .int tm, .int sr, .int li, .int lp, .int mi]))) : CT l yX1_tick (.code yX1_tick cX1_tick 1 (some .boolean)) 0 0 0 0 G [.ref en] f (fun v f1 => v = some (.int 0) ∧ f1 = f) (fun E f1 => False) := by
  refine hp_start hl (own := RX1) (by decide) rfl (Nat.le_of_ble_eq_true rfl) ?_
  intro p e s m args below meth c B0 hr hnm hout hw hS ls hl9
  have hx := B0.1
  have hb := B0.2.1
  have hl9 : lv_has ls 1 [(0, .ref en)] := hl9
  refine lv_aload_n hx hb dX1_tick_0 rfl (lv_at hl9 0 rfl) ?_
  refine hp_get B0 hw 1 rfl in_X1 k_en 5 (by decide) qF_X1_28 rfl dX1_tick_1 ?_
  refine lv_if_eq (tgt := 15) hx hb dX1_tick_4 (by decide) (fun _ => ?_) (fun c9 => absurd (by decide) c9)
  refine lv_iconst (v := 0) hx hb dX1_tick_15 (by decide) ?_
  exact hp_zret (v := 0) B0 hw hS hr ⟨Nat.le_of_ble_eq_true rfl, Nat.le_of_ble_eq_true rfl⟩ (rfl) dX1_tick_16 (⟨rfl, rfl⟩)

