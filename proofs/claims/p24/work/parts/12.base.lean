abbrev sE (i : Int32) : Prop := i = 0 ∨ i = 1
abbrev sO (o : Int32) : Prop := 0 ≤ o.toInt ∧ o.toInt < 6
abbrev sV (v : Int32) : Prop := -1 ≤ v.toInt ∧ v.toInt ≤ 9
abbrev sA (v : Int32) : Prop := 0 ≤ v.toInt ∧ v.toInt ≤ 1023
abbrev sT (v : Int32) : Prop := 1 ≤ v.toInt ∧ v.toInt ≤ 50
abbrev sP (v : Int32) : Prop := 1 ≤ v.toInt ∧ v.toInt ≤ 4
abbrev sL (v : Int32) : Prop := 0 ≤ v.toInt ∧ v.toInt < 3
theorem jlt {a b : Int32} : a < b ↔ a.toInt < b.toInt := Int32.lt_iff_toInt_lt
theorem jle {a b : Int32} : a ≤ b ↔ a.toInt ≤ b.toInt := Int32.le_iff_toInt_le
theorem tq0 : (0 : Int32).toInt = 0 := rfl
theorem tq1 : (1 : Int32).toInt = 1 := rfl
theorem tq3 : (3 : Int32).toInt = 3 := rfl
theorem tq4 : (4 : Int32).toInt = 4 := rfl
theorem tq5 : (5 : Int32).toInt = 5 := rfl
theorem tq6 : (6 : Int32).toInt = 6 := rfl
theorem tq9 : (9 : Int32).toInt = 9 := rfl
theorem tq50 : (50 : Int32).toInt = 50 := rfl
theorem tq60 : (60 : Int32).toInt = 60 := rfl
theorem tq1023 : (1023 : Int32).toInt = 1023 := rfl
theorem tqm1 : ((-1) : Int32).toInt = (-1) := rfl
theorem tq2 : (2 : Int32).toInt = 2 := rfl
theorem vin6 {o : Int32} (h : sO o) : vp_in o 6 := vp_in_iff.mpr ⟨h.1, h.2⟩

set_option maxHeartbeats 4000000 in
set_option maxRecDepth 100000 in
/-- the end of that number, or a throw -/
theorem c_X4_endAt {l : Launch} (hl : l.stackTraces = false) (G : hG) (f : hM) (xo ez eo bu : Nat) (k_xo : f xo = some (.inr (4, [.ref ez, .ref eo, .ref bu]))) (i : Int32) : CT l yX4_endAt (.code yX4_endAt cX4_endAt 2 (some (.object "OptionLine$End"))) 6 82 1 6 G [.ref xo, .int i] f (fun v f1 => f1 = f ∧ ((i = 0 ∧ v = some (.ref ez)) ∨ (i = 1 ∧ v = some (.ref eo)))) (fun E f1 => f1 = f ∧ E = eI ∧ ¬ sE i) := by
  refine hp_start hl (own := RX4) (by decide) rfl (Nat.le_of_ble_eq_true rfl) ?_
  intro p e s m args below meth c B0 hr hnm hout hw hS ls hl9
  have hx := B0.1
  have hb := B0.2.1
  have hl9 : lv_has ls 2 [(0, .ref xo), (1, .int i)] := hl9
  refine lv_iload_n hx hb dX4_endAt_0 rfl (lv_at hl9 1 rfl) ?_
  refine lv_if_ne (tgt := 9) hx hb dX4_endAt_1 (by decide) (fun c1 => ?_) (fun c1 => ?_)
  · refine lv_iload_n hx hb dX4_endAt_9 rfl (lv_at hl9 1 rfl) ?_
    refine lv_iconst (v := 1) hx hb dX4_endAt_10 (by decide) ?_
    refine lv_icmp_ne (tgt := 19) hx hb dX4_endAt_11 (by decide) (fun c2 => ?_) (fun c2 => ?_)
    · exact hp_throw (cls := eI) (names := tNm) B0 hw hS hout tF_eI qC_X4_137 qN_java_lang_IndexOutOfBoundsException sR_X4_148 tA_eI tB_eI tG_eI hl9.1 dX4_endAt_19 dX4_endAt_22 dX4_endAt_23 dX4_endAt_25 dX4_endAt_28 ⟨⟨Nat.le_of_ble_eq_true rfl, Nat.le_of_ble_eq_true rfl⟩, Nat.le_of_ble_eq_true rfl, Nat.le_of_ble_eq_true rfl⟩ ⟨Nat.le_of_ble_eq_true rfl, Nat.le_of_ble_eq_true rfl⟩ (⟨rfl, rfl, fun h9 => h9.elim c1 c2⟩)
    · refine lv_aload_n hx hb dX4_endAt_14 rfl (lv_at hl9 0 rfl) ?_
      refine hp_get B0 hw 4 rfl in_X4 k_xo 1 (by decide) qF_X4_18 rfl dX4_endAt_15 ?_
      exact hp_aret (v := .ref eo) B0 hw hS hr (Or.inl ⟨_, rfl⟩) (Or.inr ⟨_, rfl⟩) ⟨Nat.le_of_ble_eq_true rfl, Nat.le_of_ble_eq_true rfl⟩ dX4_endAt_18 (⟨rfl, Or.inr ⟨c2, rfl⟩⟩)
  · refine lv_aload_n hx hb dX4_endAt_4 rfl (lv_at hl9 0 rfl) ?_
    refine hp_get B0 hw 4 rfl in_X4 k_xo 0 (by decide) qF_X4_12 rfl dX4_endAt_5 ?_
    exact hp_aret (v := .ref ez) B0 hw hS hr (Or.inl ⟨_, rfl⟩) (Or.inr ⟨_, rfl⟩) ⟨Nat.le_of_ble_eq_true rfl, Nat.le_of_ble_eq_true rfl⟩ dX4_endAt_8 (⟨rfl, Or.inl ⟨c1, rfl⟩⟩)

set_option maxHeartbeats 4000000 in
set_option maxRecDepth 100000 in
theorem c_X4_refuseNoOption {l : Launch} (hl : l.stackTraces = false) (G : hG) (f : hM) (o : Int32) : CT l yX4_refuseNoOption (.code yX4_refuseNoOption cX4_refuseNoOption 1 none) 6 82 1 6 G [.int o] f (fun v f1 => f1 = f ∧ v = none ∧ sO o) (fun E f1 => f1 = f ∧ E = eI ∧ ¬ sO o) := by
  refine hp_start hl (own := RX4) (by decide) rfl (Nat.le_of_ble_eq_true rfl) ?_
  intro p e s m args below meth c B0 hr hnm hout hw hS ls hl9
  have hx := B0.1
  have hb := B0.2.1
  have hl9 : lv_has ls 1 [(0, .int o)] := hl9
  refine lv_iload_n hx hb dX4_refuseNoOption_0 rfl (lv_at hl9 0 rfl) ?_
  refine lv_if_lt (tgt := 10) hx hb dX4_refuseNoOption_1 (by decide) (fun c1 => ?_) (fun c1 => ?_)
  · exact hp_throw (cls := eI) (names := tNm) B0 hw hS hout tF_eI qC_X4_137 qN_java_lang_IndexOutOfBoundsException sR_X4_150 tA_eI tB_eI tG_eI hl9.1 dX4_refuseNoOption_10 dX4_refuseNoOption_13 dX4_refuseNoOption_14 dX4_refuseNoOption_16 dX4_refuseNoOption_19 ⟨⟨Nat.le_of_ble_eq_true rfl, Nat.le_of_ble_eq_true rfl⟩, Nat.le_of_ble_eq_true rfl, Nat.le_of_ble_eq_true rfl⟩ ⟨Nat.le_of_ble_eq_true rfl, Nat.le_of_ble_eq_true rfl⟩ (⟨rfl, rfl, fun h9 => by have h1 := c1; simp only [jlt, jle, tq0, tq6] at h1; omega⟩)
  · refine lv_iload_n hx hb dX4_refuseNoOption_4 rfl (lv_at hl9 0 rfl) ?_
    refine lv_bipush (v := 6) hx hb dX4_refuseNoOption_5 (by decide) ?_
    refine lv_icmp_lt (tgt := 20) hx hb dX4_refuseNoOption_7 (by decide) (fun c2 => ?_) (fun c2 => ?_)
    · exact hp_vret B0 hw hS hr ⟨Nat.le_of_ble_eq_true rfl, Nat.le_of_ble_eq_true rfl⟩ dX4_refuseNoOption_20 (⟨rfl, rfl, by have h1 := c1; have h2 := c2; simp only [jlt, jle, tq0, tq1, tq3, tq4, tq6, tq9, tq50, tq1023, tqm1] at h1; simp only [jlt, jle, tq0, tq1, tq3, tq4, tq6, tq9, tq50, tq1023, tqm1] at h2; omega⟩)
    · exact hp_throw (cls := eI) (names := tNm) B0 hw hS hout tF_eI qC_X4_137 qN_java_lang_IndexOutOfBoundsException sR_X4_150 tA_eI tB_eI tG_eI hl9.1 dX4_refuseNoOption_10 dX4_refuseNoOption_13 dX4_refuseNoOption_14 dX4_refuseNoOption_16 dX4_refuseNoOption_19 ⟨⟨Nat.le_of_ble_eq_true rfl, Nat.le_of_ble_eq_true rfl⟩, Nat.le_of_ble_eq_true rfl, Nat.le_of_ble_eq_true rfl⟩ ⟨Nat.le_of_ble_eq_true rfl, Nat.le_of_ble_eq_true rfl⟩ (⟨rfl, rfl, fun h9 => by have h1 := c2; simp only [jlt, jle, tq0, tq6] at h1; omega⟩)

set_option maxHeartbeats 4000000 in
set_option maxRecDepth 100000 in
theorem c_X1_changeWish {l : Launch} (hl : l.stackTraces = false) (G : hG) (f : hM) (en : Nat) (nw na nq nr : Nat) (mg st tm sr li lp mi : Int32) (k_en : f en = some (.inr (1, [.ref nw, .ref na, .ref nq, .ref nr, .int mg, .int st, .int tm, .int sr, .int li, .int lp, .int mi]))) (gw : Nat → Int32) (k_nw : f nw = some (.inl (cI G, 6, .inl gw))) (o x : Int32) (hop : sO o) : CT l yX1_changeWish (.code yX1_changeWish cX1_changeWish 4 (some .int)) 0 0 0 0 G [.ref en, .int o, .int x] f (fun v f1 => sO o ∧ v = some (.int (gw o.toNatClampNeg)) ∧ f1 = va_up f nw (some (.inl (cI G, 6, .inl (upd gw o.toNatClampNeg x)))) ∧ hKeep [nw] f f1) (fun E f1 => False) := by
  refine hp_start hl (own := RX1) (by decide) rfl (Nat.le_of_ble_eq_true rfl) ?_
  intro p e s m args below meth c B0 hr hnm hout hw hS ls hl9
  have hx := B0.1
  have hb := B0.2.1
  have hl9 : lv_has ls 4 [(0, .ref en), (1, .int o), (2, .int x)] := hl9
  refine lv_aload_n hx hb dX1_changeWish_0 rfl (lv_at hl9 0 rfl) ?_
  refine hp_get B0 hw 1 rfl in_X1 k_en 0 (by decide) qF_X1_9 rfl dX1_changeWish_1 ?_
  refine lv_iload_n hx hb dX1_changeWish_4 rfl (lv_at hl9 1 rfl) ?_
  refine hp_iald B0 hw k_nw (vin6 hop) dX1_changeWish_5 ?_
  refine lv_istore_n (lv' := [(3, .int (gw (o : Int32).toNatClampNeg)), (0, .ref en), (1, .int o), (2, .int x)]) hx hb dX1_changeWish_6 rfl hl9 (by decide) rfl (fun ls hl9 => ?_)
  refine lv_aload_n hx hb dX1_changeWish_7 rfl (lv_at hl9 1 rfl) ?_
  refine hp_get B0 hw 1 rfl in_X1 k_en 0 (by decide) qF_X1_9 rfl dX1_changeWish_8 ?_
  refine lv_iload_n hx hb dX1_changeWish_11 rfl (lv_at hl9 2 rfl) ?_
  refine lv_iload_n hx hb dX1_changeWish_12 rfl (lv_at hl9 3 rfl) ?_
  refine hp_iast B0 hw hS k_nw (vin6 hop) dX1_changeWish_13 (fun H locs f1 ef1 hw hS => ?_)
  have h2 : f1 nw = some (.inl (cI G, 6, .inl (upd gw (o : Int32).toNatClampNeg x))) := by rw [ef1, va_up_self]
  refine lv_iload_n hx hb dX1_changeWish_14 rfl (lv_at hl9 0 rfl) ?_
  exact hp_iret (v := (gw (o : Int32).toNatClampNeg)) B0 hw hS hr ⟨Nat.le_of_ble_eq_true rfl, Nat.le_of_ble_eq_true rfl⟩ dX1_changeWish_15 (⟨hop, rfl, ef1, (show hKeep [nw] f f1 from (by rw [ef1]; exact hKeep.up (by simp)))⟩)

set_option maxHeartbeats 4000000 in
set_option maxRecDepth 100000 in
theorem c_X1_changeAllowed {l : Launch} (hl : l.stackTraces = false) (G : hG) (f : hM) (en : Nat) (nw na nq nr : Nat) (mg st tm sr li lp mi : Int32) (k_en : f en = some (.inr (1, [.ref nw, .ref na, .ref nq, .ref nr, .int mg, .int st, .int tm, .int sr, .int li, .int lp, .int mi]))) (ga : Nat → Int32) (k_na : f na = some (.inl (cI G, 6, .inl ga))) (o x : Int32) (hop : sO o) : CT l yX1_changeAllowed (.code yX1_changeAllowed cX1_changeAllowed 4 (some .int)) 0 0 0 0 G [.ref en, .int o, .int x] f (fun v f1 => sO o ∧ v = some (.int (ga o.toNatClampNeg)) ∧ f1 = va_up f na (some (.inl (cI G, 6, .inl (upd ga o.toNatClampNeg x)))) ∧ hKeep [na] f f1) (fun E f1 => False) := by
  refine hp_start hl (own := RX1) (by decide) rfl (Nat.le_of_ble_eq_true rfl) ?_
  intro p e s m args below meth c B0 hr hnm hout hw hS ls hl9
  have hx := B0.1
  have hb := B0.2.1
  have hl9 : lv_has ls 4 [(0, .ref en), (1, .int o), (2, .int x)] := hl9
  refine lv_aload_n hx hb dX1_changeAllowed_0 rfl (lv_at hl9 0 rfl) ?_
  refine hp_get B0 hw 1 rfl in_X1 k_en 1 (by decide) qF_X1_15 rfl dX1_changeAllowed_1 ?_
  refine lv_iload_n hx hb dX1_changeAllowed_4 rfl (lv_at hl9 1 rfl) ?_
  refine hp_iald B0 hw k_na (vin6 hop) dX1_changeAllowed_5 ?_
  refine lv_istore_n (lv' := [(3, .int (ga (o : Int32).toNatClampNeg)), (0, .ref en), (1, .int o), (2, .int x)]) hx hb dX1_changeAllowed_6 rfl hl9 (by decide) rfl (fun ls hl9 => ?_)
  refine lv_aload_n hx hb dX1_changeAllowed_7 rfl (lv_at hl9 1 rfl) ?_
  refine hp_get B0 hw 1 rfl in_X1 k_en 1 (by decide) qF_X1_15 rfl dX1_changeAllowed_8 ?_
  refine lv_iload_n hx hb dX1_changeAllowed_11 rfl (lv_at hl9 2 rfl) ?_
  refine lv_iload_n hx hb dX1_changeAllowed_12 rfl (lv_at hl9 3 rfl) ?_
  refine hp_iast B0 hw hS k_na (vin6 hop) dX1_changeAllowed_13 (fun H locs f1 ef1 hw hS => ?_)
  have h2 : f1 na = some (.inl (cI G, 6, .inl (upd ga (o : Int32).toNatClampNeg x))) := by rw [ef1, va_up_self]
  refine lv_iload_n hx hb dX1_changeAllowed_14 rfl (lv_at hl9 0 rfl) ?_
  exact hp_iret (v := (ga (o : Int32).toNatClampNeg)) B0 hw hS hr ⟨Nat.le_of_ble_eq_true rfl, Nat.le_of_ble_eq_true rfl⟩ dX1_changeAllowed_15 (⟨hop, rfl, ef1, (show hKeep [na] f f1 from (by rw [ef1]; exact hKeep.up (by simp)))⟩)

theorem hKeep.trn {S : List Nat} {f f2 : hM} {q : Nat} (hq : f q = none) (h2 : hKeep (q :: S) f f2) : hKeep S f f2 := fun a e h n => h2 a e h (ninc (fun z => by rw [z, hq] at h; cases h) n)
def spc (A B : Prop) [Decidable A] [Decidable B] : Int32 := if A then (if B then 0 else 2) else 1
theorem spc_0 {A B : Prop} [Decidable A] [Decidable B] (a : A) (b : B) : spc A B = 0 := by unfold spc; rw [if_pos a, if_pos b]
theorem spc_2 {A B : Prop} [Decidable A] [Decidable B] (a : A) (b : ¬ B) : spc A B = 2 := by unfold spc; rw [if_pos a, if_neg b]
theorem spc_1 {A B : Prop} [Decidable A] [Decidable B] (a : ¬ A) : spc A B = 1 := by unfold spc; rw [if_neg a]

set_option maxHeartbeats 4000000 in
set_option maxRecDepth 100000 in
theorem c_X1_changeMagic {l : Launch} (hl : l.stackTraces = false) (G : hG) (f : hM) (en : Nat) (nw na nq nr : Nat) (mg st tm sr li lp mi : Int32) (k_en : f en = some (.inr (1, [.ref nw, .ref na, .ref nq, .ref nr, .int mg, .int st, .int tm, .int sr, .int li, .int lp, .int mi]))) (x : Int32) : CT l yX1_changeMagic (.code yX1_changeMagic cX1_changeMagic 3 (some .int)) 0 0 0 0 G [.ref en, .int x] f (fun v f1 => v = some (.int mg) ∧ f1 = va_up f en (some (.inr (1, [.ref nw, .ref na, .ref nq, .ref nr, .int x, .int st, .int tm, .int sr, .int li, .int lp, .int mi]))) ∧ hKeep [en] f f1) (fun E f1 => False) := by
  refine hp_start hl (own := RX1) (by decide) rfl (Nat.le_of_ble_eq_true rfl) ?_
  intro p e s m args below meth c B0 hr hnm hout hw hS ls hl9
  have hx := B0.1
  have hb := B0.2.1
  have hl9 : lv_has ls 3 [(0, .ref en), (1, .int x)] := hl9
  refine lv_aload_n hx hb dX1_changeMagic_0 rfl (lv_at hl9 0 rfl) ?_
  refine hp_get B0 hw 1 rfl in_X1 k_en 4 (by decide) qF_X1_48 rfl dX1_changeMagic_1 ?_
  refine lv_istore_n (lv' := [(2, .int mg), (0, .ref en), (1, .int x)]) hx hb dX1_changeMagic_4 rfl hl9 (by decide) rfl (fun ls hl9 => ?_)
  refine lv_aload_n hx hb dX1_changeMagic_5 rfl (lv_at hl9 1 rfl) ?_
  refine lv_iload_n hx hb dX1_changeMagic_6 rfl (lv_at hl9 2 rfl) ?_
  refine hp_put (fs1 := [.ref nw, .ref na, .ref nq, .ref nr, .int x, .int st, .int tm, .int sr, .int li, .int lp, .int mi]) (ty := .int) B0 hw hS 1 rfl in_X1 tyX1 tyX1_ok nmX1 k_en 4 (by decide) qF_X1_48 rfl (by decide +kernel) rfl rfl (Nat.le_of_ble_eq_true rfl) rfl dX1_changeMagic_7 (fun H locs f1 ef1 hw hS => ?_)
  have h2 : f1 en = some (.inr (1, [.ref nw, .ref na, .ref nq, .ref nr, .int x, .int st, .int tm, .int sr, .int li, .int lp, .int mi])) := by rw [ef1, va_up_self]
  refine lv_iload_n hx hb dX1_changeMagic_10 rfl (lv_at hl9 0 rfl) ?_
  exact hp_iret (v := mg) B0 hw hS hr ⟨Nat.le_of_ble_eq_true rfl, Nat.le_of_ble_eq_true rfl⟩ dX1_changeMagic_11 (⟨rfl, ef1, (show hKeep [en] f f1 from (by rw [ef1]; exact hKeep.up (by simp)))⟩)

