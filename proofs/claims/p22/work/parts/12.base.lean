abbrev sE (i : Int32) : Prop := i = 0 ∨ i = 1
abbrev sO (o : Int32) : Prop := 0 ≤ o.toInt ∧ o.toInt < 6
abbrev sV (v : Int32) : Prop := -1 ≤ v.toInt ∧ v.toInt ≤ 9
abbrev sA (v : Int32) : Prop := 0 ≤ v.toInt ∧ v.toInt ≤ 1023
abbrev sT (v : Int32) : Prop := 1 ≤ v.toInt ∧ v.toInt ≤ 50
abbrev sP (v : Int32) : Prop := 1 ≤ v.toInt ∧ v.toInt ≤ 4
abbrev sL (v : Int32) : Prop := 0 ≤ v.toInt ∧ v.toInt < 3
theorem jlt {a b : Int32} : a < b ↔ a.toInt < b.toInt := Int32.lt_iff_toInt_lt
theorem jle {a b : Int32} : a ≤ b ↔ a.toInt ≤ b.toInt := Int32.le_iff_toInt_le
theorem tq0 : (0 : Int32).toInt = 0 := rfl
theorem tq1 : (1 : Int32).toInt = 1 := rfl
theorem tq3 : (3 : Int32).toInt = 3 := rfl
theorem tq4 : (4 : Int32).toInt = 4 := rfl
theorem tq5 : (5 : Int32).toInt = 5 := rfl
theorem tq6 : (6 : Int32).toInt = 6 := rfl
theorem tq9 : (9 : Int32).toInt = 9 := rfl
theorem tq50 : (50 : Int32).toInt = 50 := rfl
theorem tq60 : (60 : Int32).toInt = 60 := rfl
theorem tq1023 : (1023 : Int32).toInt = 1023 := rfl
theorem tqm1 : ((-1) : Int32).toInt = (-1) := rfl
theorem tq2 : (2 : Int32).toInt = 2 := rfl
theorem vin6 {o : Int32} (h : sO o) : vp_in o 6 := vp_in_iff.mpr ⟨h.1, h.2⟩

set_option maxHeartbeats 4000000 in
set_option maxRecDepth 100000 in
/-- the end of that number, or a throw -/
theorem c_X4_endAt {l : Launch} (hl : l.stackTraces = false) (G : hG) (f : hM) (xo ez eo bu : Nat) (k_xo : f xo = some (.inr (4, [.ref ez, .ref eo, .ref bu]))) (i : Int32) : CT l yX4_endAt (.code yX4_endAt cX4_endAt 2 (some (.object "OptionLine$End"))) 6 82 1 6 G [.ref xo, .int i] f (fun v f1 => f1 = f ∧ ((i = 0 ∧ v = some (.ref ez)) ∨ (i = 1 ∧ v = some (.ref eo)))) (fun E f1 => f1 = f ∧ E = eI ∧ ¬ sE i) := by
  refine hp_start hl (own := RX4) (by decide) rfl (Nat.le_of_ble_eq_true rfl) ?_
  intro p e s m args below meth c B0 hr hnm hout hw hS ls hl9
  have hx := B0.1
  have hb := B0.2.1
  have hl9 : lv_has ls 2 [(0, .ref xo), (1, .int i)] := hl9
  refine lv_iload_n hx hb dX4_endAt_0 rfl (lv_at hl9 1 rfl) ?_
  refine lv_if_ne (tgt := 9) hx hb dX4_endAt_1 (by decide) (fun c1 => ?_) (fun c1 => ?_)
  · refine lv_iload_n hx hb dX4_endAt_9 rfl (lv_at hl9 1 rfl) ?_
    refine lv_iconst (v := 1) hx hb dX4_endAt_10 (by decide) ?_
    refine lv_icmp_ne (tgt := 19) hx hb dX4_endAt_11 (by decide) (fun c2 => ?_) (fun c2 => ?_)
    · exact hp_throw (cls := eI) (names := tNm) B0 hw hS hout tF_eI qC_X4_137 qN_java_lang_IndexOutOfBoundsException sR_X4_148 tA_eI tB_eI tG_eI hl9.1 dX4_endAt_19 dX4_endAt_22 dX4_endAt_23 dX4_endAt_25 dX4_endAt_28 ⟨⟨Nat.le_of_ble_eq_true rfl, Nat.le_of_ble_eq_true rfl⟩, Nat.le_of_ble_eq_true rfl, Nat.le_of_ble_eq_true rfl⟩ ⟨Nat.le_of_ble_eq_true rfl, Nat.le_of_ble_eq_true rfl⟩ (⟨rfl, rfl, fun h9 => h9.elim c1 c2⟩)
    · refine lv_aload_n hx hb dX4_endAt_14 rfl (lv_at hl9 0 rfl) ?_
      refine hp_get B0 hw 4 rfl in_X4 k_xo 1 (by decide) qF_X4_18 rfl dX4_endAt_15 ?_
      exact hp_aret (v := .ref eo) B0 hw hS hr (Or.inl ⟨_, rfl⟩) (Or.inr ⟨_, rfl⟩) ⟨Nat.le_of_ble_eq_true rfl, Nat.le_of_ble_eq_true rfl⟩ dX4_endAt_18 (⟨rfl, Or.inr ⟨c2, rfl⟩⟩)
  · refine lv_aload_n hx hb dX4_endAt_4 rfl (lv_at hl9 0 rfl) ?_
    refine hp_get B0 hw 4 rfl in_X4 k_xo 0 (by decide) qF_X4_12 rfl dX4_endAt_5 ?_
    exact hp_aret (v := .ref ez) B0 hw hS hr (Or.inl ⟨_, rfl⟩) (Or.inr ⟨_, rfl⟩) ⟨Nat.le_of_ble_eq_true rfl, Nat.le_of_ble_eq_true rfl⟩ dX4_endAt_8 (⟨rfl, Or.inl ⟨c1, rfl⟩⟩)

set_option maxHeartbeats 4000000 in
set_option maxRecDepth 100000 in
theorem c_X4_refuseNoOption {l : Launch} (hl : l.stackTraces = false) (G : hG) (f : hM) (o : Int32) : CT l yX4_refuseNoOption (.code yX4_refuseNoOption cX4_refuseNoOption 1 none) 6 82 1 6 G [.int o] f (fun v f1 => f1 = f ∧ v = none ∧ sO o) (fun E f1 => f1 = f ∧ E = eI ∧ ¬ sO o) := by
  refine hp_start hl (own := RX4) (by decide) rfl (Nat.le_of_ble_eq_true rfl) ?_
  intro p e s m args below meth c B0 hr hnm hout hw hS ls hl9
  have hx := B0.1
  have hb := B0.2.1
  have hl9 : lv_has ls 1 [(0, .int o)] := hl9
  refine lv_iload_n hx hb dX4_refuseNoOption_0 rfl (lv_at hl9 0 rfl) ?_
  refine lv_if_lt (tgt := 10) hx hb dX4_refuseNoOption_1 (by decide) (fun c1 => ?_) (fun c1 => ?_)
  · exact hp_throw (cls := eI) (names := tNm) B0 hw hS hout tF_eI qC_X4_137 qN_java_lang_IndexOutOfBoundsException sR_X4_150 tA_eI tB_eI tG_eI hl9.1 dX4_refuseNoOption_10 dX4_refuseNoOption_13 dX4_refuseNoOption_14 dX4_refuseNoOption_16 dX4_refuseNoOption_19 ⟨⟨Nat.le_of_ble_eq_true rfl, Nat.le_of_ble_eq_true rfl⟩, Nat.le_of_ble_eq_true rfl, Nat.le_of_ble_eq_true rfl⟩ ⟨Nat.le_of_ble_eq_true rfl, Nat.le_of_ble_eq_true rfl⟩ (⟨rfl, rfl, fun h9 => by have h1 := c1; simp only [jlt, jle, tq0, tq6] at h1; omega⟩)
  · refine lv_iload_n hx hb dX4_refuseNoOption_4 rfl (lv_at hl9 0 rfl) ?_
    refine lv_bipush (v := 6) hx hb dX4_refuseNoOption_5 (by decide) ?_
    refine lv_icmp_lt (tgt := 20) hx hb dX4_refuseNoOption_7 (by decide) (fun c2 => ?_) (fun c2 => ?_)
    · exact hp_vret B0 hw hS hr ⟨Nat.le_of_ble_eq_true rfl, Nat.le_of_ble_eq_true rfl⟩ dX4_refuseNoOption_20 (⟨rfl, rfl, by have h1 := c1; have h2 := c2; simp only [jlt, jle, tq0, tq1, tq3, tq4, tq6, tq9, tq50, tq1023, tqm1] at h1; simp only [jlt, jle, tq0, tq1, tq3, tq4, tq6, tq9, tq50, tq1023, tqm1] at h2; omega⟩)
    · exact hp_throw (cls := eI) (names := tNm) B0 hw hS hout tF_eI qC_X4_137 qN_java_lang_IndexOutOfBoundsException sR_X4_150 tA_eI tB_eI tG_eI hl9.1 dX4_refuseNoOption_10 dX4_refuseNoOption_13 dX4_refuseNoOption_14 dX4_refuseNoOption_16 dX4_refuseNoOption_19 ⟨⟨Nat.le_of_ble_eq_true rfl, Nat.le_of_ble_eq_true rfl⟩, Nat.le_of_ble_eq_true rfl, Nat.le_of_ble_eq_true rfl⟩ ⟨Nat.le_of_ble_eq_true rfl, Nat.le_of_ble_eq_true rfl⟩ (⟨rfl, rfl, fun h9 => by have h1 := c2; simp only [jlt, jle, tq0, tq6] at h1; omega⟩)

set_option maxHeartbeats 4000000 in
set_option maxRecDepth 100000 in
theorem c_X1_changeWish {l : Launch} (hl : l.stackTraces = false) (G : hG) (f : hM) (en : Nat) (nw na nq nr : Nat) (mg st tm sr li lp mi : Int32) (k_en : f en = some (.inr (1, [.ref nw, .ref na, .ref nq, .ref nr, .int mg, .int st, .int tm, .int sr, .int li, .int lp, .int mi]))) (gw : Nat → Int32) (k_nw : f nw = some (.inl (cI G, 6, .inl gw))) (o x : Int32) (hop : sO o) : CT l yX1_changeWish (.code yX1_changeWish cX1_changeWish 4 (some .int)) 0 0 0 0 G [.ref en, .int o, .int x] f (fun v f1 => sO o ∧ v = some (.int (gw o.toNatClampNeg)) ∧ f1 = va_up f nw (some (.inl (cI G, 6, .inl (upd gw o.toNatClampNeg x)))) ∧ hKeep [nw] f f1) (fun E f1 => False) := by
  refine hp_start hl (own := RX1) (by decide) rfl (Nat.le_of_ble_eq_true rfl) ?_
  intro p e s m args below meth c B0 hr hnm hout hw hS ls hl9
  have hx := B0.1
  have hb := B0.2.1
  have hl9 : lv_has ls 4 [(0, .ref en), (1, .int o), (2, .int x)] := hl9
  refine lv_aload_n hx hb dX1_changeWish_0 rfl (lv_at hl9 0 rfl) ?_
  refine hp_get B0 hw 1 rfl in_X1 k_en 0 (by decide) qF_X1_9 rfl dX1_changeWish_1 ?_
  refine lv_iload_n hx hb dX1_changeWish_4 rfl (lv_at hl9 1 rfl) ?_
  refine hp_iald B0 hw k_nw (vin6 hop) dX1_changeWish_5 ?_
  refine lv_istore_n (lv' := [(3, .int (gw (o : Int32).toNatClampNeg)), (0, .ref en), (1, .int o), (2, .int x)]) hx hb dX1_changeWish_6 rfl hl9 (by decide) rfl (fun ls hl9 => ?_)
  refine lv_aload_n hx hb dX1_changeWish_7 rfl (lv_at hl9 1 rfl) ?_
  refine hp_get B0 hw 1 rfl in_X1 k_en 0 (by decide) qF_X1_9 rfl dX1_changeWish_8 ?_
  refine lv_iload_n hx hb dX1_changeWish_11 rfl (lv_at hl9 2 rfl) ?_
  refine lv_iload_n hx hb dX1_changeWish_12 rfl (lv_at hl9 3 rfl) ?_
  refine hp_iast B0 hw hS k_nw (vin6 hop) dX1_changeWish_13 (fun H locs f1 ef1 hw hS => ?_)
  have h2 : f1 nw = some (.inl (cI G, 6, .inl (upd gw (o : Int32).toNatClampNeg x))) := by rw [ef1, va_up_self]
  refine lv_iload_n hx hb dX1_changeWish_14 rfl (lv_at hl9 0 rfl) ?_
  exact hp_iret (v := (gw (o : Int32).toNatClampNeg)) B0 hw hS hr ⟨Nat.le_of_ble_eq_true rfl, Nat.le_of_ble_eq_true rfl⟩ dX1_changeWish_15 (⟨hop, rfl, ef1, (show hKeep [nw] f f1 from (by rw [ef1]; exact hKeep.up (by simp)))⟩)

set_option maxHeartbeats 4000000 in
set_option maxRecDepth 100000 in
theorem c_X1_changeAllowed {l : Launch} (hl : l.stackTraces = false) (G : hG) (f : hM) (en : Nat) (nw na nq nr : Nat) (mg st tm sr li lp mi : Int32) (k_en : f en = some (.inr (1, [.ref nw, .ref na, .ref nq, .ref nr, .int mg, .int st, .int tm, .int sr, .int li, .int lp, .int mi]))) (ga : Nat → Int32) (k_na : f na = some (.inl (cI G, 6, .inl ga))) (o x : Int32) (hop : sO o) : CT l yX1_changeAllowed (.code yX1_changeAllowed cX1_changeAllowed 4 (some .int)) 0 0 0 0 G [.ref en, .int o, .int x] f (fun v f1 => sO o ∧ v = some (.int (ga o.toNatClampNeg)) ∧ f1 = va_up f na (some (.inl (cI G, 6, .inl (upd ga o.toNatClampNeg x)))) ∧ hKeep [na] f f1) (fun E f1 => False) := by
  refine hp_start hl (own := RX1) (by decide) rfl (Nat.le_of_ble_eq_true rfl) ?_
  intro p e s m args below meth c B0 hr hnm hout hw hS ls hl9
  have hx := B0.1
  have hb := B0.2.1
  have hl9 : lv_has ls 4 [(0, .ref en), (1, .int o), (2, .int x)] := hl9
  refine lv_aload_n hx hb dX1_changeAllowed_0 rfl (lv_at hl9 0 rfl) ?_
  refine hp_get B0 hw 1 rfl in_X1 k_en 1 (by decide) qF_X1_15 rfl dX1_changeAllowed_1 ?_
  refine lv_iload_n hx hb dX1_changeAllowed_4 rfl (lv_at hl9 1 rfl) ?_
  refine hp_iald B0 hw k_na (vin6 hop) dX1_changeAllowed_5 ?_
  refine lv_istore_n (lv' := [(3, .int (ga (o : Int32).toNatClampNeg)), (0, .ref en), (1, .int o), (2, .int x)]) hx hb dX1_changeAllowed_6 rfl hl9 (by decide) rfl (fun ls hl9 => ?_)
  refine lv_aload_n hx hb dX1_changeAllowed_7 rfl (lv_at hl9 1 rfl) ?_
  refine hp_get B0 hw 1 rfl in_X1 k_en 1 (by decide) qF_X1_15 rfl dX1_changeAllowed_8 ?_
  refine lv_iload_n hx hb dX1_changeAllowed_11 rfl (lv_at hl9 2 rfl) ?_
  refine lv_iload_n hx hb dX1_changeAllowed_12 rfl (lv_at hl9 3 rfl) ?_
  refine hp_iast B0 hw hS k_na (vin6 hop) dX1_changeAllowed_13 (fun H locs f1 ef1 hw hS => ?_)
  have h2 : f1 na = some (.inl (cI G, 6, .inl (upd ga (o : Int32).toNatClampNeg x))) := by rw [ef1, va_up_self]
  refine lv_iload_n hx hb dX1_changeAllowed_14 rfl (lv_at hl9 0 rfl) ?_
  exact hp_iret (v := (ga (o : Int32).toNatClampNeg)) B0 hw hS hr ⟨Nat.le_of_ble_eq_true rfl, Nat.le_of_ble_eq_true rfl⟩ dX1_changeAllowed_15 (⟨hop, rfl, ef1, (show hKeep [na] f f1 from (by rw [ef1]; exact hKeep.up (by simp)))⟩)

theorem hKeep.trn {S : List Nat} {f f2 : hM} {q : Nat} (hq : f q = none) (h2 : hKeep (q :: S) f f2) : hKeep S f f2 := fun a e h n => h2 a e h (ninc (fun z => by rw [z, hq] at h; cases h) n)
def spc (A B : Prop) [Decidable A] [Decidable B] : Int32 := if A then (if B then 0 else 2) else 1
theorem spc_0 {A B : Prop} [Decidable A] [Decidable B] (a : A) (b : B) : spc A B = 0 := by unfold spc; rw [if_pos a, if_pos b]
theorem spc_2 {A B : Prop} [Decidable A] [Decidable B] (a : A) (b : ¬ B) : spc A B = 2 := by unfold spc; rw [if_pos a, if_neg b]
theorem spc_1 {A B : Prop} [Decidable A] [Decidable B] (a : ¬ A) : spc A B = 1 := by unfold spc; rw [if_neg a]

set_option maxHeartbeats 4000000 in
set_option maxRecDepth 100000 in
theorem c_X4_wish {l : Launch} (hl : l.stackTraces = false) (G : hG) (f : hM) (xo ez eo bu : Nat) (k_xo : f xo = some (.inr (4, [.ref ez, .ref eo, .ref bu]))) (nw0 na0 nq0 nr0 : Nat) (mg0 st0 tm0 sr0 li0 lp0 mi0 : Int32) (k_ez : f ez = some (.inr (1, [.ref nw0, .ref na0, .ref nq0, .ref nr0, .int mg0, .int st0, .int tm0, .int sr0, .int li0, .int lp0, .int mi0]))) (nw1 na1 nq1 nr1 : Nat) (mg1 st1 tm1 sr1 li1 lp1 mi1 : Int32) (k_eo : f eo = some (.inr (1, [.ref nw1, .ref na1, .ref nq1, .ref nr1, .int mg1, .int st1, .int tm1, .int sr1, .int li1, .int lp1, .int mi1]))) (gw0 gw1 : Nat → Int32) (k_nw0 : f nw0 = some (.inl (cI G, 6, .inl gw0))) (k_nw1 : f nw1 = some (.inl (cI G, 6, .inl gw1))) (i o x : Int32) : CT l yX4_wish (.code yX4_wish cX4_wish 5 (some .int)) 7 103 3 18 G [.ref xo, .int i, .int o, .int x] f (fun v f1 => spc (sE i ∧ sO o) (sV x) = 0 ∧ ((i = 0 ∧ v = some (.int (gw0 o.toNatClampNeg)) ∧ f1 = va_up f nw0 (some (.inl (cI G, 6, .inl (upd gw0 o.toNatClampNeg x)))) ∧ hKeep [nw0] f f1) ∨ (i = 1 ∧ v = some (.int (gw1 o.toNatClampNeg)) ∧ f1 = va_up f nw1 (some (.inl (cI G, 6, .inl (upd gw1 o.toNatClampNeg x)))) ∧ hKeep [nw1] f f1))) (fun E f1 => f1 = f ∧ ((E = eI ∧ spc (sE i ∧ sO o) (sV x) = 1) ∨ (E = eA ∧ spc (sE i ∧ sO o) (sV x) = 2))) := by
  refine hp_start hl (own := RX4) (by decide) rfl (Nat.le_of_ble_eq_true rfl) ?_
  intro p e s m args below meth c B0 hr hnm hout hw hS ls hl9
  have hx := B0.1
  have hb := B0.2.1
  have hl9 : lv_has ls 5 [(0, .ref xo), (1, .int i), (2, .int o), (3, .int x)] := hl9
  refine lv_aload_n hx hb dX4_wish_0 rfl (lv_at hl9 0 rfl) ?_
  refine lv_iload_n hx hb dX4_wish_1 rfl (lv_at hl9 1 rfl) ?_
  refine hp_V (ci := 4) (As := [.int i]) (rest := []) B0 hw hS (c_X4_endAt hl G f xo ez eo bu k_xo i) mV_X4_endAt qM_X4_28 rfl k_xo rfl rfl hl9.1 (Nat.le_of_ble_eq_true rfl) ⟨⟨Nat.le_of_ble_eq_true rfl, Nat.le_of_ble_eq_true rfl⟩, Nat.le_of_ble_eq_true rfl, Nat.le_of_ble_eq_true rfl⟩ dX4_wish_2 (fun E ce q9 f1 H locs hPX hw hS hce hcv hcl => ?_) (fun v f1 H locs hP hw hS => ?_)
  · obtain ⟨ef9, eE9, hE9⟩ := hPX
    rw [ef9] at hw
    subst eE9
    exact hp_out B0 hw hS hout hce hcv hcl ⟨Nat.le_of_ble_eq_true rfl, Nat.le_of_ble_eq_true rfl⟩ (⟨rfl, Or.inl ⟨rfl, spc_1 (fun h9 => hE9 h9.1)⟩⟩)
  · obtain ⟨ef9, hv9⟩ := hP
    rw [ef9] at hw
    rcases hv9 with ⟨k2, ev9⟩ | ⟨k2, ev9⟩
    · subst ev9
      refine W.eq (g2 := F0 m 5 ls [.ref ez]) rfl ?_
      refine lv_astore (lv' := [(4, .ref ez), (0, .ref xo), (1, .int i), (2, .int o), (3, .int x)]) hx hb dX4_wish_5 hl9 (by decide) rfl (fun ls hl9 => ?_)
      refine lv_iload_n hx hb dX4_wish_7 rfl (lv_at hl9 3 rfl) ?_
      refine hp_S (As := [.int o]) (rest := []) B0 hw hS (c_X4_refuseNoOption hl G f o) mS_X4_refuseNoOption qM_X4_32 rfl rfl hl9.1 (Nat.le_of_ble_eq_true rfl) ⟨⟨Nat.le_of_ble_eq_true rfl, Nat.le_of_ble_eq_true rfl⟩, Nat.le_of_ble_eq_true rfl, Nat.le_of_ble_eq_true rfl⟩ dX4_wish_8 (fun E ce q9 f3 H locs hPX hw hS hce hcv hcl => ?_) (fun v f3 H locs hP hw hS => ?_)
      · obtain ⟨ef9, eE9, hE9⟩ := hPX
        rw [ef9] at hw
        subst eE9
        exact hp_out B0 hw hS hout hce hcv hcl ⟨Nat.le_of_ble_eq_true rfl, Nat.le_of_ble_eq_true rfl⟩ (⟨rfl, Or.inl ⟨rfl, spc_1 (fun h9 => hE9 h9.2)⟩⟩)
      · obtain ⟨ef9, ev9, ho4⟩ := hP
        rw [ef9] at hw
        subst ev9
        refine W.eq (g2 := F0 m 11 ls []) rfl ?_
        refine lv_iload_n hx hb dX4_wish_11 rfl (lv_at hl9 4 rfl) ?_
        refine lv_iconst (v := (-1)) hx hb dX4_wish_12 (by decide) ?_
        refine lv_icmp_lt (tgt := 22) hx hb dX4_wish_13 (by decide) (fun c5 => ?_) (fun c5 => ?_)
        · exact hp_throw (cls := eA) (names := tNm) B0 hw hS hout tF_eA qC_X4_35 qN_java_lang_IllegalArgumentException sR_X4_37 tA_eA tB_eA tG_eA hl9.1 dX4_wish_22 dX4_wish_25 dX4_wish_26 dX4_wish_28 dX4_wish_31 ⟨⟨Nat.le_of_ble_eq_true rfl, Nat.le_of_ble_eq_true rfl⟩, Nat.le_of_ble_eq_true rfl, Nat.le_of_ble_eq_true rfl⟩ ⟨Nat.le_of_ble_eq_true rfl, Nat.le_of_ble_eq_true rfl⟩ (⟨rfl, Or.inr ⟨rfl, spc_2 ⟨(Or.inl k2), ho4⟩ (fun h9 => by have h1 := c5; simp only [jlt, jle, tq0, tq1, tq3, tq4, tq6, tq9, tq50, tq1023, tqm1] at h1; obtain ⟨h3, h4⟩ := h9; omega)⟩⟩)
        · refine lv_iload_n hx hb dX4_wish_16 rfl (lv_at hl9 4 rfl) ?_
          refine lv_bipush (v := 9) hx hb dX4_wish_17 (by decide) ?_
          refine lv_icmp_le (tgt := 32) hx hb dX4_wish_19 (by decide) (fun c6 => ?_) (fun c6 => ?_)
          · refine lv_aload hx hb dX4_wish_32 (lv_at hl9 0 rfl) ?_
            refine lv_iload_n hx hb dX4_wish_34 rfl (lv_at hl9 3 rfl) ?_
            refine lv_iload_n hx hb dX4_wish_35 rfl (lv_at hl9 4 rfl) ?_
            refine hp_V (ci := 1) (As := [.int o, .int x]) (rest := []) B0 hw hS (c_X1_changeWish hl G f ez nw0 na0 nq0 nr0 mg0 st0 tm0 sr0 li0 lp0 mi0 k_ez gw0 k_nw0 o x ho4 ) mV_X1_changeWish qM_X4_42 rfl k_ez rfl rfl hl9.1 (Nat.le_of_ble_eq_true rfl) ⟨⟨Nat.le_of_ble_eq_true rfl, Nat.le_of_ble_eq_true rfl⟩, Nat.le_of_ble_eq_true rfl, Nat.le_of_ble_eq_true rfl⟩ dX4_wish_36 (fun E ce q9 f7 H locs hPX hw hS hce hcv hcl => ?_) (fun v f7 H locs hP hw hS => ?_)
            · exact hPX.elim
            · obtain ⟨ho9, ev9, e8, k9⟩ := hP
              subst ev9
              have h10 : f7 nw0 = some (.inl (cI G, 6, .inl (upd gw0 (o : Int32).toNatClampNeg x))) := by rw [e8, va_up_self]
              refine W.eq (g2 := F0 m 39 ls [.int (gw0 (o : Int32).toNatClampNeg)]) rfl ?_
              exact hp_iret (v := (gw0 (o : Int32).toNatClampNeg)) B0 hw hS hr ⟨Nat.le_of_ble_eq_true rfl, Nat.le_of_ble_eq_true rfl⟩ dX4_wish_39 (⟨spc_0 ⟨(Or.inl k2), ho4⟩ (by have h1 := c5; have h2 := c6; simp only [jlt, jle, tq0, tq1, tq3, tq4, tq6, tq9, tq50, tq1023, tqm1] at h1; simp only [jlt, jle, tq0, tq1, tq3, tq4, tq6, tq9, tq50, tq1023, tqm1] at h2; exact ⟨by omega, by omega⟩), Or.inl ⟨k2, rfl, e8, (show hKeep [nw0] f f7 from (by rw [e8]; exact hKeep.up (by simp)))⟩⟩)
          · exact hp_throw (cls := eA) (names := tNm) B0 hw hS hout tF_eA qC_X4_35 qN_java_lang_IllegalArgumentException sR_X4_37 tA_eA tB_eA tG_eA hl9.1 dX4_wish_22 dX4_wish_25 dX4_wish_26 dX4_wish_28 dX4_wish_31 ⟨⟨Nat.le_of_ble_eq_true rfl, Nat.le_of_ble_eq_true rfl⟩, Nat.le_of_ble_eq_true rfl, Nat.le_of_ble_eq_true rfl⟩ ⟨Nat.le_of_ble_eq_true rfl, Nat.le_of_ble_eq_true rfl⟩ (⟨rfl, Or.inr ⟨rfl, spc_2 ⟨(Or.inl k2), ho4⟩ (fun h9 => by have h1 := c6; simp only [jlt, jle, tq0, tq1, tq3, tq4, tq6, tq9, tq50, tq1023, tqm1] at h1; obtain ⟨h3, h4⟩ := h9; omega)⟩⟩)
    · subst ev9
      refine W.eq (g2 := F0 m 5 ls [.ref eo]) rfl ?_
      refine lv_astore (lv' := [(4, .ref eo), (0, .ref xo), (1, .int i), (2, .int o), (3, .int x)]) hx hb dX4_wish_5 hl9 (by decide) rfl (fun ls hl9 => ?_)
      refine lv_iload_n hx hb dX4_wish_7 rfl (lv_at hl9 3 rfl) ?_
      refine hp_S (As := [.int o]) (rest := []) B0 hw hS (c_X4_refuseNoOption hl G f o) mS_X4_refuseNoOption qM_X4_32 rfl rfl hl9.1 (Nat.le_of_ble_eq_true rfl) ⟨⟨Nat.le_of_ble_eq_true rfl, Nat.le_of_ble_eq_true rfl⟩, Nat.le_of_ble_eq_true rfl, Nat.le_of_ble_eq_true rfl⟩ dX4_wish_8 (fun E ce q9 f11 H locs hPX hw hS hce hcv hcl => ?_) (fun v f11 H locs hP hw hS => ?_)
      · obtain ⟨ef9, eE9, hE9⟩ := hPX
        rw [ef9] at hw
        subst eE9
        exact hp_out B0 hw hS hout hce hcv hcl ⟨Nat.le_of_ble_eq_true rfl, Nat.le_of_ble_eq_true rfl⟩ (⟨rfl, Or.inl ⟨rfl, spc_1 (fun h9 => hE9 h9.2)⟩⟩)
      · obtain ⟨ef9, ev9, ho12⟩ := hP
        rw [ef9] at hw
        subst ev9
        refine W.eq (g2 := F0 m 11 ls []) rfl ?_
        refine lv_iload_n hx hb dX4_wish_11 rfl (lv_at hl9 4 rfl) ?_
        refine lv_iconst (v := (-1)) hx hb dX4_wish_12 (by decide) ?_
        refine lv_icmp_lt (tgt := 22) hx hb dX4_wish_13 (by decide) (fun c13 => ?_) (fun c13 => ?_)
        · exact hp_throw (cls := eA) (names := tNm) B0 hw hS hout tF_eA qC_X4_35 qN_java_lang_IllegalArgumentException sR_X4_37 tA_eA tB_eA tG_eA hl9.1 dX4_wish_22 dX4_wish_25 dX4_wish_26 dX4_wish_28 dX4_wish_31 ⟨⟨Nat.le_of_ble_eq_true rfl, Nat.le_of_ble_eq_true rfl⟩, Nat.le_of_ble_eq_true rfl, Nat.le_of_ble_eq_true rfl⟩ ⟨Nat.le_of_ble_eq_true rfl, Nat.le_of_ble_eq_true rfl⟩ (⟨rfl, Or.inr ⟨rfl, spc_2 ⟨(Or.inr k2), ho12⟩ (fun h9 => by have h1 := c13; simp only [jlt, jle, tq0, tq1, tq3, tq4, tq6, tq9, tq50, tq1023, tqm1] at h1; obtain ⟨h3, h4⟩ := h9; omega)⟩⟩)
        · refine lv_iload_n hx hb dX4_wish_16 rfl (lv_at hl9 4 rfl) ?_
          refine lv_bipush (v := 9) hx hb dX4_wish_17 (by decide) ?_
          refine lv_icmp_le (tgt := 32) hx hb dX4_wish_19 (by decide) (fun c14 => ?_) (fun c14 => ?_)
          · refine lv_aload hx hb dX4_wish_32 (lv_at hl9 0 rfl) ?_
            refine lv_iload_n hx hb dX4_wish_34 rfl (lv_at hl9 3 rfl) ?_
            refine lv_iload_n hx hb dX4_wish_35 rfl (lv_at hl9 4 rfl) ?_
            refine hp_V (ci := 1) (As := [.int o, .int x]) (rest := []) B0 hw hS (c_X1_changeWish hl G f eo nw1 na1 nq1 nr1 mg1 st1 tm1 sr1 li1 lp1 mi1 k_eo gw1 k_nw1 o x ho12 ) mV_X1_changeWish qM_X4_42 rfl k_eo rfl rfl hl9.1 (Nat.le_of_ble_eq_true rfl) ⟨⟨Nat.le_of_ble_eq_true rfl, Nat.le_of_ble_eq_true rfl⟩, Nat.le_of_ble_eq_true rfl, Nat.le_of_ble_eq_true rfl⟩ dX4_wish_36 (fun E ce q9 f15 H locs hPX hw hS hce hcv hcl => ?_) (fun v f15 H locs hP hw hS => ?_)
            · exact hPX.elim
            · obtain ⟨ho9, ev9, e16, k17⟩ := hP
              subst ev9
              have h18 : f15 nw1 = some (.inl (cI G, 6, .inl (upd gw1 (o : Int32).toNatClampNeg x))) := by rw [e16, va_up_self]
              refine W.eq (g2 := F0 m 39 ls [.int (gw1 (o : Int32).toNatClampNeg)]) rfl ?_
              exact hp_iret (v := (gw1 (o : Int32).toNatClampNeg)) B0 hw hS hr ⟨Nat.le_of_ble_eq_true rfl, Nat.le_of_ble_eq_true rfl⟩ dX4_wish_39 (⟨spc_0 ⟨(Or.inr k2), ho12⟩ (by have h1 := c13; have h2 := c14; simp only [jlt, jle, tq0, tq1, tq3, tq4, tq6, tq9, tq50, tq1023, tqm1] at h1; simp only [jlt, jle, tq0, tq1, tq3, tq4, tq6, tq9, tq50, tq1023, tqm1] at h2; exact ⟨by omega, by omega⟩), Or.inr ⟨k2, rfl, e16, (show hKeep [nw1] f f15 from (by rw [e16]; exact hKeep.up (by simp)))⟩⟩)
          · exact hp_throw (cls := eA) (names := tNm) B0 hw hS hout tF_eA qC_X4_35 qN_java_lang_IllegalArgumentException sR_X4_37 tA_eA tB_eA tG_eA hl9.1 dX4_wish_22 dX4_wish_25 dX4_wish_26 dX4_wish_28 dX4_wish_31 ⟨⟨Nat.le_of_ble_eq_true rfl, Nat.le_of_ble_eq_true rfl⟩, Nat.le_of_ble_eq_true rfl, Nat.le_of_ble_eq_true rfl⟩ ⟨Nat.le_of_ble_eq_true rfl, Nat.le_of_ble_eq_true rfl⟩ (⟨rfl, Or.inr ⟨rfl, spc_2 ⟨(Or.inr k2), ho12⟩ (fun h9 => by have h1 := c14; simp only [jlt, jle, tq0, tq1, tq3, tq4, tq6, tq9, tq50, tq1023, tqm1] at h1; obtain ⟨h3, h4⟩ := h9; omega)⟩⟩)

set_option maxHeartbeats 4000000 in
set_option maxRecDepth 100000 in
theorem c_X4_allow {l : Launch} (hl : l.stackTraces = false) (G : hG) (f : hM) (xo ez eo bu : Nat) (k_xo : f xo = some (.inr (4, [.ref ez, .ref eo, .ref bu]))) (nw0 na0 nq0 nr0 : Nat) (mg0 st0 tm0 sr0 li0 lp0 mi0 : Int32) (k_ez : f ez = some (.inr (1, [.ref nw0, .ref na0, .ref nq0, .ref nr0, .int mg0, .int st0, .int tm0, .int sr0, .int li0, .int lp0, .int mi0]))) (nw1 na1 nq1 nr1 : Nat) (mg1 st1 tm1 sr1 li1 lp1 mi1 : Int32) (k_eo : f eo = some (.inr (1, [.ref nw1, .ref na1, .ref nq1, .ref nr1, .int mg1, .int st1, .int tm1, .int sr1, .int li1, .int lp1, .int mi1]))) (ga0 ga1 : Nat → Int32) (k_na0 : f na0 = some (.inl (cI G, 6, .inl ga0))) (k_na1 : f na1 = some (.inl (cI G, 6, .inl ga1))) (i o x : Int32) : CT l yX4_allow (.code yX4_allow cX4_allow 5 (some .int)) 7 103 3 18 G [.ref xo, .int i, .int o, .int x] f (fun v f1 => spc (sE i ∧ sO o) (sA x) = 0 ∧ ((i = 0 ∧ v = some (.int (ga0 o.toNatClampNeg)) ∧ f1 = va_up f na0 (some (.inl (cI G, 6, .inl (upd ga0 o.toNatClampNeg x)))) ∧ hKeep [na0] f f1) ∨ (i = 1 ∧ v = some (.int (ga1 o.toNatClampNeg)) ∧ f1 = va_up f na1 (some (.inl (cI G, 6, .inl (upd ga1 o.toNatClampNeg x)))) ∧ hKeep [na1] f f1))) (fun E f1 => f1 = f ∧ ((E = eI ∧ spc (sE i ∧ sO o) (sA x) = 1) ∨ (E = eA ∧ spc (sE i ∧ sO o) (sA x) = 2))) := by
  refine hp_start hl (own := RX4) (by decide) rfl (Nat.le_of_ble_eq_true rfl) ?_
  intro p e s m args below meth c B0 hr hnm hout hw hS ls hl9
  have hx := B0.1
  have hb := B0.2.1
  have hl9 : lv_has ls 5 [(0, .ref xo), (1, .int i), (2, .int o), (3, .int x)] := hl9
  refine lv_aload_n hx hb dX4_allow_0 rfl (lv_at hl9 0 rfl) ?_
  refine lv_iload_n hx hb dX4_allow_1 rfl (lv_at hl9 1 rfl) ?_
  refine hp_V (ci := 4) (As := [.int i]) (rest := []) B0 hw hS (c_X4_endAt hl G f xo ez eo bu k_xo i) mV_X4_endAt qM_X4_28 rfl k_xo rfl rfl hl9.1 (Nat.le_of_ble_eq_true rfl) ⟨⟨Nat.le_of_ble_eq_true rfl, Nat.le_of_ble_eq_true rfl⟩, Nat.le_of_ble_eq_true rfl, Nat.le_of_ble_eq_true rfl⟩ dX4_allow_2 (fun E ce q9 f1 H locs hPX hw hS hce hcv hcl => ?_) (fun v f1 H locs hP hw hS => ?_)
  · obtain ⟨ef9, eE9, hE9⟩ := hPX
    rw [ef9] at hw
    subst eE9
    exact hp_out B0 hw hS hout hce hcv hcl ⟨Nat.le_of_ble_eq_true rfl, Nat.le_of_ble_eq_true rfl⟩ (⟨rfl, Or.inl ⟨rfl, spc_1 (fun h9 => hE9 h9.1)⟩⟩)
  · obtain ⟨ef9, hv9⟩ := hP
    rw [ef9] at hw
    rcases hv9 with ⟨k2, ev9⟩ | ⟨k2, ev9⟩
    · subst ev9
      refine W.eq (g2 := F0 m 5 ls [.ref ez]) rfl ?_
      refine lv_astore (lv' := [(4, .ref ez), (0, .ref xo), (1, .int i), (2, .int o), (3, .int x)]) hx hb dX4_allow_5 hl9 (by decide) rfl (fun ls hl9 => ?_)
      refine lv_iload_n hx hb dX4_allow_7 rfl (lv_at hl9 3 rfl) ?_
      refine hp_S (As := [.int o]) (rest := []) B0 hw hS (c_X4_refuseNoOption hl G f o) mS_X4_refuseNoOption qM_X4_32 rfl rfl hl9.1 (Nat.le_of_ble_eq_true rfl) ⟨⟨Nat.le_of_ble_eq_true rfl, Nat.le_of_ble_eq_true rfl⟩, Nat.le_of_ble_eq_true rfl, Nat.le_of_ble_eq_true rfl⟩ dX4_allow_8 (fun E ce q9 f3 H locs hPX hw hS hce hcv hcl => ?_) (fun v f3 H locs hP hw hS => ?_)
      · obtain ⟨ef9, eE9, hE9⟩ := hPX
        rw [ef9] at hw
        subst eE9
        exact hp_out B0 hw hS hout hce hcv hcl ⟨Nat.le_of_ble_eq_true rfl, Nat.le_of_ble_eq_true rfl⟩ (⟨rfl, Or.inl ⟨rfl, spc_1 (fun h9 => hE9 h9.2)⟩⟩)
      · obtain ⟨ef9, ev9, ho4⟩ := hP
        rw [ef9] at hw
        subst ev9
        refine W.eq (g2 := F0 m 11 ls []) rfl ?_
        refine lv_iload_n hx hb dX4_allow_11 rfl (lv_at hl9 4 rfl) ?_
        refine lv_if_lt (tgt := 22) hx hb dX4_allow_12 (by decide) (fun c5 => ?_) (fun c5 => ?_)
        · exact hp_throw (cls := eA) (names := tNm) B0 hw hS hout tF_eA qC_X4_35 qN_java_lang_IllegalArgumentException sR_X4_46 tA_eA tB_eA tG_eA hl9.1 dX4_allow_22 dX4_allow_25 dX4_allow_26 dX4_allow_28 dX4_allow_31 ⟨⟨Nat.le_of_ble_eq_true rfl, Nat.le_of_ble_eq_true rfl⟩, Nat.le_of_ble_eq_true rfl, Nat.le_of_ble_eq_true rfl⟩ ⟨Nat.le_of_ble_eq_true rfl, Nat.le_of_ble_eq_true rfl⟩ (⟨rfl, Or.inr ⟨rfl, spc_2 ⟨(Or.inl k2), ho4⟩ (fun h9 => by have h1 := c5; simp only [jlt, jle, tq0, tq1, tq3, tq4, tq6, tq9, tq50, tq1023, tqm1] at h1; obtain ⟨h3, h4⟩ := h9; omega)⟩⟩)
        · refine lv_iload_n hx hb dX4_allow_15 rfl (lv_at hl9 4 rfl) ?_
          refine lv_sipush (v := 1023) hx hb dX4_allow_16 (by decide) ?_
          refine lv_icmp_le (tgt := 32) hx hb dX4_allow_19 (by decide) (fun c6 => ?_) (fun c6 => ?_)
          · refine lv_aload hx hb dX4_allow_32 (lv_at hl9 0 rfl) ?_
            refine lv_iload_n hx hb dX4_allow_34 rfl (lv_at hl9 3 rfl) ?_
            refine lv_iload_n hx hb dX4_allow_35 rfl (lv_at hl9 4 rfl) ?_
            refine hp_V (ci := 1) (As := [.int o, .int x]) (rest := []) B0 hw hS (c_X1_changeAllowed hl G f ez nw0 na0 nq0 nr0 mg0 st0 tm0 sr0 li0 lp0 mi0 k_ez ga0 k_na0 o x ho4 ) mV_X1_changeAllowed qM_X4_48 rfl k_ez rfl rfl hl9.1 (Nat.le_of_ble_eq_true rfl) ⟨⟨Nat.le_of_ble_eq_true rfl, Nat.le_of_ble_eq_true rfl⟩, Nat.le_of_ble_eq_true rfl, Nat.le_of_ble_eq_true rfl⟩ dX4_allow_36 (fun E ce q9 f7 H locs hPX hw hS hce hcv hcl => ?_) (fun v f7 H locs hP hw hS => ?_)
            · exact hPX.elim
            · obtain ⟨ho9, ev9, e8, k9⟩ := hP
              subst ev9
              have h10 : f7 na0 = some (.inl (cI G, 6, .inl (upd ga0 (o : Int32).toNatClampNeg x))) := by rw [e8, va_up_self]
              refine W.eq (g2 := F0 m 39 ls [.int (ga0 (o : Int32).toNatClampNeg)]) rfl ?_
              exact hp_iret (v := (ga0 (o : Int32).toNatClampNeg)) B0 hw hS hr ⟨Nat.le_of_ble_eq_true rfl, Nat.le_of_ble_eq_true rfl⟩ dX4_allow_39 (⟨spc_0 ⟨(Or.inl k2), ho4⟩ (by have h1 := c5; have h2 := c6; simp only [jlt, jle, tq0, tq1, tq3, tq4, tq6, tq9, tq50, tq1023, tqm1] at h1; simp only [jlt, jle, tq0, tq1, tq3, tq4, tq6, tq9, tq50, tq1023, tqm1] at h2; exact ⟨by omega, by omega⟩), Or.inl ⟨k2, rfl, e8, (show hKeep [na0] f f7 from (by rw [e8]; exact hKeep.up (by simp)))⟩⟩)
          · exact hp_throw (cls := eA) (names := tNm) B0 hw hS hout tF_eA qC_X4_35 qN_java_lang_IllegalArgumentException sR_X4_46 tA_eA tB_eA tG_eA hl9.1 dX4_allow_22 dX4_allow_25 dX4_allow_26 dX4_allow_28 dX4_allow_31 ⟨⟨Nat.le_of_ble_eq_true rfl, Nat.le_of_ble_eq_true rfl⟩, Nat.le_of_ble_eq_true rfl, Nat.le_of_ble_eq_true rfl⟩ ⟨Nat.le_of_ble_eq_true rfl, Nat.le_of_ble_eq_true rfl⟩ (⟨rfl, Or.inr ⟨rfl, spc_2 ⟨(Or.inl k2), ho4⟩ (fun h9 => by have h1 := c6; simp only [jlt, jle, tq0, tq1, tq3, tq4, tq6, tq9, tq50, tq1023, tqm1] at h1; obtain ⟨h3, h4⟩ := h9; omega)⟩⟩)
    · subst ev9
      refine W.eq (g2 := F0 m 5 ls [.ref eo]) rfl ?_
      refine lv_astore (lv' := [(4, .ref eo), (0, .ref xo), (1, .int i), (2, .int o), (3, .int x)]) hx hb dX4_allow_5 hl9 (by decide) rfl (fun ls hl9 => ?_)
      refine lv_iload_n hx hb dX4_allow_7 rfl (lv_at hl9 3 rfl) ?_
      refine hp_S (As := [.int o]) (rest := []) B0 hw hS (c_X4_refuseNoOption hl G f o) mS_X4_refuseNoOption qM_X4_32 rfl rfl hl9.1 (Nat.le_of_ble_eq_true rfl) ⟨⟨Nat.le_of_ble_eq_true rfl, Nat.le_of_ble_eq_true rfl⟩, Nat.le_of_ble_eq_true rfl, Nat.le_of_ble_eq_true rfl⟩ dX4_allow_8 (fun E ce q9 f11 H locs hPX hw hS hce hcv hcl => ?_) (fun v f11 H locs hP hw hS => ?_)
      · obtain ⟨ef9, eE9, hE9⟩ := hPX
        rw [ef9] at hw
        subst eE9
        exact hp_out B0 hw hS hout hce hcv hcl ⟨Nat.le_of_ble_eq_true rfl, Nat.le_of_ble_eq_true rfl⟩ (⟨rfl, Or.inl ⟨rfl, spc_1 (fun h9 => hE9 h9.2)⟩⟩)
      · obtain ⟨ef9, ev9, ho12⟩ := hP
        rw [ef9] at hw
        subst ev9
        refine W.eq (g2 := F0 m 11 ls []) rfl ?_
        refine lv_iload_n hx hb dX4_allow_11 rfl (lv_at hl9 4 rfl) ?_
        refine lv_if_lt (tgt := 22) hx hb dX4_allow_12 (by decide) (fun c13 => ?_) (fun c13 => ?_)
        · exact hp_throw (cls := eA) (names := tNm) B0 hw hS hout tF_eA qC_X4_35 qN_java_lang_IllegalArgumentException sR_X4_46 tA_eA tB_eA tG_eA hl9.1 dX4_allow_22 dX4_allow_25 dX4_allow_26 dX4_allow_28 dX4_allow_31 ⟨⟨Nat.le_of_ble_eq_true rfl, Nat.le_of_ble_eq_true rfl⟩, Nat.le_of_ble_eq_true rfl, Nat.le_of_ble_eq_true rfl⟩ ⟨Nat.le_of_ble_eq_true rfl, Nat.le_of_ble_eq_true rfl⟩ (⟨rfl, Or.inr ⟨rfl, spc_2 ⟨(Or.inr k2), ho12⟩ (fun h9 => by have h1 := c13; simp only [jlt, jle, tq0, tq1, tq3, tq4, tq6, tq9, tq50, tq1023, tqm1] at h1; obtain ⟨h3, h4⟩ := h9; omega)⟩⟩)
        · refine lv_iload_n hx hb dX4_allow_15 rfl (lv_at hl9 4 rfl) ?_
          refine lv_sipush (v := 1023) hx hb dX4_allow_16 (by decide) ?_
          refine lv_icmp_le (tgt := 32) hx hb dX4_allow_19 (by decide) (fun c14 => ?_) (fun c14 => ?_)
          · refine lv_aload hx hb dX4_allow_32 (lv_at hl9 0 rfl) ?_
            refine lv_iload_n hx hb dX4_allow_34 rfl (lv_at hl9 3 rfl) ?_
            refine lv_iload_n hx hb dX4_allow_35 rfl (lv_at hl9 4 rfl) ?_
            refine hp_V (ci := 1) (As := [.int o, .int x]) (rest := []) B0 hw hS (c_X1_changeAllowed hl G f eo nw1 na1 nq1 nr1 mg1 st1 tm1 sr1 li1 lp1 mi1 k_eo ga1 k_na1 o x ho12 ) mV_X1_changeAllowed qM_X4_48 rfl k_eo rfl rfl hl9.1 (Nat.le_of_ble_eq_true rfl) ⟨⟨Nat.le_of_ble_eq_true rfl, Nat.le_of_ble_eq_true rfl⟩, Nat.le_of_ble_eq_true rfl, Nat.le_of_ble_eq_true rfl⟩ dX4_allow_36 (fun E ce q9 f15 H locs hPX hw hS hce hcv hcl => ?_) (fun v f15 H locs hP hw hS => ?_)
            · exact hPX.elim
            · obtain ⟨ho9, ev9, e16, k17⟩ := hP
              subst ev9
              have h18 : f15 na1 = some (.inl (cI G, 6, .inl (upd ga1 (o : Int32).toNatClampNeg x))) := by rw [e16, va_up_self]
              refine W.eq (g2 := F0 m 39 ls [.int (ga1 (o : Int32).toNatClampNeg)]) rfl ?_
              exact hp_iret (v := (ga1 (o : Int32).toNatClampNeg)) B0 hw hS hr ⟨Nat.le_of_ble_eq_true rfl, Nat.le_of_ble_eq_true rfl⟩ dX4_allow_39 (⟨spc_0 ⟨(Or.inr k2), ho12⟩ (by have h1 := c13; have h2 := c14; simp only [jlt, jle, tq0, tq1, tq3, tq4, tq6, tq9, tq50, tq1023, tqm1] at h1; simp only [jlt, jle, tq0, tq1, tq3, tq4, tq6, tq9, tq50, tq1023, tqm1] at h2; exact ⟨by omega, by omega⟩), Or.inr ⟨k2, rfl, e16, (show hKeep [na1] f f15 from (by rw [e16]; exact hKeep.up (by simp)))⟩⟩)
          · exact hp_throw (cls := eA) (names := tNm) B0 hw hS hout tF_eA qC_X4_35 qN_java_lang_IllegalArgumentException sR_X4_46 tA_eA tB_eA tG_eA hl9.1 dX4_allow_22 dX4_allow_25 dX4_allow_26 dX4_allow_28 dX4_allow_31 ⟨⟨Nat.le_of_ble_eq_true rfl, Nat.le_of_ble_eq_true rfl⟩, Nat.le_of_ble_eq_true rfl, Nat.le_of_ble_eq_true rfl⟩ ⟨Nat.le_of_ble_eq_true rfl, Nat.le_of_ble_eq_true rfl⟩ (⟨rfl, Or.inr ⟨rfl, spc_2 ⟨(Or.inr k2), ho12⟩ (fun h9 => by have h1 := c14; simp only [jlt, jle, tq0, tq1, tq3, tq4, tq6, tq9, tq50, tq1023, tqm1] at h1; obtain ⟨h3, h4⟩ := h9; omega)⟩⟩)

set_option maxHeartbeats 4000000 in
set_option maxRecDepth 100000 in
theorem c_X4_stateOf {l : Launch} (hl : l.stackTraces = false) (G : hG) (f : hM) (xo ez eo bu : Nat) (k_xo : f xo = some (.inr (4, [.ref ez, .ref eo, .ref bu]))) (nw0 na0 nq0 nr0 : Nat) (mg0 st0 tm0 sr0 li0 lp0 mi0 : Int32) (k_ez : f ez = some (.inr (1, [.ref nw0, .ref na0, .ref nq0, .ref nr0, .int mg0, .int st0, .int tm0, .int sr0, .int li0, .int lp0, .int mi0]))) (nw1 na1 nq1 nr1 : Nat) (mg1 st1 tm1 sr1 li1 lp1 mi1 : Int32) (k_eo : f eo = some (.inr (1, [.ref nw1, .ref na1, .ref nq1, .ref nr1, .int mg1, .int st1, .int tm1, .int sr1, .int li1, .int lp1, .int mi1]))) (i : Int32) : CT l yX4_stateOf (.code yX4_stateOf cX4_stateOf 2 (some .int)) 7 103 1 6 G [.ref xo, .int i] f (fun v f1 => spc (sE i) True = 0 ∧ f1 = f ∧ ((i = 0 ∧ v = some (.int st0)) ∨ (i = 1 ∧ v = some (.int st1)))) (fun E f1 => f1 = f ∧ E = eI ∧ spc (sE i) True = 1) := by
  refine hp_start hl (own := RX4) (by decide) rfl (Nat.le_of_ble_eq_true rfl) ?_
  intro p e s m args below meth c B0 hr hnm hout hw hS ls hl9
  have hx := B0.1
  have hb := B0.2.1
  have hl9 : lv_has ls 2 [(0, .ref xo), (1, .int i)] := hl9
  refine lv_aload_n hx hb dX4_stateOf_0 rfl (lv_at hl9 0 rfl) ?_
  refine lv_iload_n hx hb dX4_stateOf_1 rfl (lv_at hl9 1 rfl) ?_
  refine hp_V (ci := 4) (As := [.int i]) (rest := []) B0 hw hS (c_X4_endAt hl G f xo ez eo bu k_xo i) mV_X4_endAt qM_X4_28 rfl k_xo rfl rfl hl9.1 (Nat.le_of_ble_eq_true rfl) ⟨⟨Nat.le_of_ble_eq_true rfl, Nat.le_of_ble_eq_true rfl⟩, Nat.le_of_ble_eq_true rfl, Nat.le_of_ble_eq_true rfl⟩ dX4_stateOf_2 (fun E ce q9 f1 H locs hPX hw hS hce hcv hcl => ?_) (fun v f1 H locs hP hw hS => ?_)
  · obtain ⟨ef9, eE9, hE9⟩ := hPX
    rw [ef9] at hw
    subst eE9
    exact hp_out B0 hw hS hout hce hcv hcl ⟨Nat.le_of_ble_eq_true rfl, Nat.le_of_ble_eq_true rfl⟩ (⟨rfl, rfl, spc_1 hE9⟩)
  · obtain ⟨ef9, hv9⟩ := hP
    rw [ef9] at hw
    rcases hv9 with ⟨k2, ev9⟩ | ⟨k2, ev9⟩
    · subst ev9
      refine W.eq (g2 := F0 m 5 ls [.ref ez]) rfl ?_
      refine hp_getN B0 hw 1 rfl in_X1 k_ez 5 (by decide) oF_X4_55 rfl dX4_stateOf_5 ?_
      exact hp_iret (v := st0) B0 hw hS hr ⟨Nat.le_of_ble_eq_true rfl, Nat.le_of_ble_eq_true rfl⟩ dX4_stateOf_8 (⟨spc_0 (Or.inl k2) trivial, rfl, Or.inl ⟨k2, rfl⟩⟩)
    · subst ev9
      refine W.eq (g2 := F0 m 5 ls [.ref eo]) rfl ?_
      refine hp_getN B0 hw 1 rfl in_X1 k_eo 5 (by decide) oF_X4_55 rfl dX4_stateOf_5 ?_
      exact hp_iret (v := st1) B0 hw hS hr ⟨Nat.le_of_ble_eq_true rfl, Nat.le_of_ble_eq_true rfl⟩ dX4_stateOf_8 (⟨spc_0 (Or.inr k2) trivial, rfl, Or.inr ⟨k2, rfl⟩⟩)

set_option maxHeartbeats 4000000 in
set_option maxRecDepth 100000 in
theorem c_X4_requests {l : Launch} (hl : l.stackTraces = false) (G : hG) (f : hM) (xo ez eo bu : Nat) (k_xo : f xo = some (.inr (4, [.ref ez, .ref eo, .ref bu]))) (nw0 na0 nq0 nr0 : Nat) (mg0 st0 tm0 sr0 li0 lp0 mi0 : Int32) (k_ez : f ez = some (.inr (1, [.ref nw0, .ref na0, .ref nq0, .ref nr0, .int mg0, .int st0, .int tm0, .int sr0, .int li0, .int lp0, .int mi0]))) (nw1 na1 nq1 nr1 : Nat) (mg1 st1 tm1 sr1 li1 lp1 mi1 : Int32) (k_eo : f eo = some (.inr (1, [.ref nw1, .ref na1, .ref nq1, .ref nr1, .int mg1, .int st1, .int tm1, .int sr1, .int li1, .int lp1, .int mi1]))) (i : Int32) : CT l yX4_requests (.code yX4_requests cX4_requests 2 (some .int)) 7 103 1 6 G [.ref xo, .int i] f (fun v f1 => spc (sE i) True = 0 ∧ f1 = f ∧ ((i = 0 ∧ v = some (.int sr0)) ∨ (i = 1 ∧ v = some (.int sr1)))) (fun E f1 => f1 = f ∧ E = eI ∧ spc (sE i) True = 1) := by
  refine hp_start hl (own := RX4) (by decide) rfl (Nat.le_of_ble_eq_true rfl) ?_
  intro p e s m args below meth c B0 hr hnm hout hw hS ls hl9
  have hx := B0.1
  have hb := B0.2.1
  have hl9 : lv_has ls 2 [(0, .ref xo), (1, .int i)] := hl9
  refine lv_aload_n hx hb dX4_requests_0 rfl (lv_at hl9 0 rfl) ?_
  refine lv_iload_n hx hb dX4_requests_1 rfl (lv_at hl9 1 rfl) ?_
  refine hp_V (ci := 4) (As := [.int i]) (rest := []) B0 hw hS (c_X4_endAt hl G f xo ez eo bu k_xo i) mV_X4_endAt qM_X4_28 rfl k_xo rfl rfl hl9.1 (Nat.le_of_ble_eq_true rfl) ⟨⟨Nat.le_of_ble_eq_true rfl, Nat.le_of_ble_eq_true rfl⟩, Nat.le_of_ble_eq_true rfl, Nat.le_of_ble_eq_true rfl⟩ dX4_requests_2 (fun E ce q9 f1 H locs hPX hw hS hce hcv hcl => ?_) (fun v f1 H locs hP hw hS => ?_)
  · obtain ⟨ef9, eE9, hE9⟩ := hPX
    rw [ef9] at hw
    subst eE9
    exact hp_out B0 hw hS hout hce hcv hcl ⟨Nat.le_of_ble_eq_true rfl, Nat.le_of_ble_eq_true rfl⟩ (⟨rfl, rfl, spc_1 hE9⟩)
  · obtain ⟨ef9, hv9⟩ := hP
    rw [ef9] at hw
    rcases hv9 with ⟨k2, ev9⟩ | ⟨k2, ev9⟩
    · subst ev9
      refine W.eq (g2 := F0 m 5 ls [.ref ez]) rfl ?_
      refine hp_getN B0 hw 1 rfl in_X1 k_ez 7 (by decide) oF_X4_99 rfl dX4_requests_5 ?_
      exact hp_iret (v := sr0) B0 hw hS hr ⟨Nat.le_of_ble_eq_true rfl, Nat.le_of_ble_eq_true rfl⟩ dX4_requests_8 (⟨spc_0 (Or.inl k2) trivial, rfl, Or.inl ⟨k2, rfl⟩⟩)
    · subst ev9
      refine W.eq (g2 := F0 m 5 ls [.ref eo]) rfl ?_
      refine hp_getN B0 hw 1 rfl in_X1 k_eo 7 (by decide) oF_X4_99 rfl dX4_requests_5 ?_
      exact hp_iret (v := sr1) B0 hw hS hr ⟨Nat.le_of_ble_eq_true rfl, Nat.le_of_ble_eq_true rfl⟩ dX4_requests_8 (⟨spc_0 (Or.inr k2) trivial, rfl, Or.inr ⟨k2, rfl⟩⟩)

set_option maxHeartbeats 4000000 in
set_option maxRecDepth 100000 in
theorem c_X4_isLooped {l : Launch} (hl : l.stackTraces = false) (G : hG) (f : hM) (xo ez eo bu : Nat) (k_xo : f xo = some (.inr (4, [.ref ez, .ref eo, .ref bu]))) (nw0 na0 nq0 nr0 : Nat) (mg0 st0 tm0 sr0 li0 lp0 mi0 : Int32) (k_ez : f ez = some (.inr (1, [.ref nw0, .ref na0, .ref nq0, .ref nr0, .int mg0, .int st0, .int tm0, .int sr0, .int li0, .int lp0, .int mi0]))) (nw1 na1 nq1 nr1 : Nat) (mg1 st1 tm1 sr1 li1 lp1 mi1 : Int32) (k_eo : f eo = some (.inr (1, [.ref nw1, .ref na1, .ref nq1, .ref nr1, .int mg1, .int st1, .int tm1, .int sr1, .int li1, .int lp1, .int mi1]))) (b0 : narrow .boolean (.int lp0) = .int lp0) (b1 : narrow .boolean (.int lp1) = .int lp1) (i : Int32) : CT l yX4_isLooped (.code yX4_isLooped cX4_isLooped 2 (some .boolean)) 7 103 1 6 G [.ref xo, .int i] f (fun v f1 => spc (sE i) True = 0 ∧ f1 = f ∧ ((i = 0 ∧ v = some (.int lp0)) ∨ (i = 1 ∧ v = some (.int lp1)))) (fun E f1 => f1 = f ∧ E = eI ∧ spc (sE i) True = 1) := by
  refine hp_start hl (own := RX4) (by decide) rfl (Nat.le_of_ble_eq_true rfl) ?_
  intro p e s m args below meth c B0 hr hnm hout hw hS ls hl9
  have hx := B0.1
  have hb := B0.2.1
  have hl9 : lv_has ls 2 [(0, .ref xo), (1, .int i)] := hl9
  refine lv_aload_n hx hb dX4_isLooped_0 rfl (lv_at hl9 0 rfl) ?_
  refine lv_iload_n hx hb dX4_isLooped_1 rfl (lv_at hl9 1 rfl) ?_
  refine hp_V (ci := 4) (As := [.int i]) (rest := []) B0 hw hS (c_X4_endAt hl G f xo ez eo bu k_xo i) mV_X4_endAt qM_X4_28 rfl k_xo rfl rfl hl9.1 (Nat.le_of_ble_eq_true rfl) ⟨⟨Nat.le_of_ble_eq_true rfl, Nat.le_of_ble_eq_true rfl⟩, Nat.le_of_ble_eq_true rfl, Nat.le_of_ble_eq_true rfl⟩ dX4_isLooped_2 (fun E ce q9 f1 H locs hPX hw hS hce hcv hcl => ?_) (fun v f1 H locs hP hw hS => ?_)
  · obtain ⟨ef9, eE9, hE9⟩ := hPX
    rw [ef9] at hw
    subst eE9
    exact hp_out B0 hw hS hout hce hcv hcl ⟨Nat.le_of_ble_eq_true rfl, Nat.le_of_ble_eq_true rfl⟩ (⟨rfl, rfl, spc_1 hE9⟩)
  · obtain ⟨ef9, hv9⟩ := hP
    rw [ef9] at hw
    rcases hv9 with ⟨k2, ev9⟩ | ⟨k2, ev9⟩
    · subst ev9
      refine W.eq (g2 := F0 m 5 ls [.ref ez]) rfl ?_
      refine hp_getN B0 hw 1 rfl in_X1 k_ez 9 (by decide) oF_X4_102 rfl dX4_isLooped_5 ?_
      exact hp_zret (v := lp0) B0 hw hS hr ⟨Nat.le_of_ble_eq_true rfl, Nat.le_of_ble_eq_true rfl⟩ (b0) dX4_isLooped_8 (⟨spc_0 (Or.inl k2) trivial, rfl, Or.inl ⟨k2, rfl⟩⟩)
    · subst ev9
      refine W.eq (g2 := F0 m 5 ls [.ref eo]) rfl ?_
      refine hp_getN B0 hw 1 rfl in_X1 k_eo 9 (by decide) oF_X4_102 rfl dX4_isLooped_5 ?_
      exact hp_zret (v := lp1) B0 hw hS hr ⟨Nat.le_of_ble_eq_true rfl, Nat.le_of_ble_eq_true rfl⟩ (b1) dX4_isLooped_8 (⟨spc_0 (Or.inr k2) trivial, rfl, Or.inr ⟨k2, rfl⟩⟩)

set_option maxHeartbeats 4000000 in
set_option maxRecDepth 100000 in
theorem c_X4_missed {l : Launch} (hl : l.stackTraces = false) (G : hG) (f : hM) (xo ez eo bu : Nat) (k_xo : f xo = some (.inr (4, [.ref ez, .ref eo, .ref bu]))) (nw0 na0 nq0 nr0 : Nat) (mg0 st0 tm0 sr0 li0 lp0 mi0 : Int32) (k_ez : f ez = some (.inr (1, [.ref nw0, .ref na0, .ref nq0, .ref nr0, .int mg0, .int st0, .int tm0, .int sr0, .int li0, .int lp0, .int mi0]))) (nw1 na1 nq1 nr1 : Nat) (mg1 st1 tm1 sr1 li1 lp1 mi1 : Int32) (k_eo : f eo = some (.inr (1, [.ref nw1, .ref na1, .ref nq1, .ref nr1, .int mg1, .int st1, .int tm1, .int sr1, .int li1, .int lp1, .int mi1]))) (i : Int32) : CT l yX4_missed (.code yX4_missed cX4_missed 2 (some .int)) 7 103 1 6 G [.ref xo, .int i] f (fun v f1 => spc (sE i) True = 0 ∧ f1 = f ∧ ((i = 0 ∧ v = some (.int mi0)) ∨ (i = 1 ∧ v = some (.int mi1)))) (fun E f1 => f1 = f ∧ E = eI ∧ spc (sE i) True = 1) := by
  refine hp_start hl (own := RX4) (by decide) rfl (Nat.le_of_ble_eq_true rfl) ?_
  intro p e s m args below meth c B0 hr hnm hout hw hS ls hl9
  have hx := B0.1
  have hb := B0.2.1
  have hl9 : lv_has ls 2 [(0, .ref xo), (1, .int i)] := hl9
  refine lv_aload_n hx hb dX4_missed_0 rfl (lv_at hl9 0 rfl) ?_
  refine lv_iload_n hx hb dX4_missed_1 rfl (lv_at hl9 1 rfl) ?_
  refine hp_V (ci := 4) (As := [.int i]) (rest := []) B0 hw hS (c_X4_endAt hl G f xo ez eo bu k_xo i) mV_X4_endAt qM_X4_28 rfl k_xo rfl rfl hl9.1 (Nat.le_of_ble_eq_true rfl) ⟨⟨Nat.le_of_ble_eq_true rfl, Nat.le_of_ble_eq_true rfl⟩, Nat.le_of_ble_eq_true rfl, Nat.le_of_ble_eq_true rfl⟩ dX4_missed_2 (fun E ce q9 f1 H locs hPX hw hS hce hcv hcl => ?_) (fun v f1 H locs hP hw hS => ?_)
  · obtain ⟨ef9, eE9, hE9⟩ := hPX
    rw [ef9] at hw
    subst eE9
    exact hp_out B0 hw hS hout hce hcv hcl ⟨Nat.le_of_ble_eq_true rfl, Nat.le_of_ble_eq_true rfl⟩ (⟨rfl, rfl, spc_1 hE9⟩)
  · obtain ⟨ef9, hv9⟩ := hP
    rw [ef9] at hw
    rcases hv9 with ⟨k2, ev9⟩ | ⟨k2, ev9⟩
    · subst ev9
      refine W.eq (g2 := F0 m 5 ls [.ref ez]) rfl ?_
      refine hp_getN B0 hw 1 rfl in_X1 k_ez 10 (by decide) oF_X4_86 rfl dX4_missed_5 ?_
      exact hp_iret (v := mi0) B0 hw hS hr ⟨Nat.le_of_ble_eq_true rfl, Nat.le_of_ble_eq_true rfl⟩ dX4_missed_8 (⟨spc_0 (Or.inl k2) trivial, rfl, Or.inl ⟨k2, rfl⟩⟩)
    · subst ev9
      refine W.eq (g2 := F0 m 5 ls [.ref eo]) rfl ?_
      refine hp_getN B0 hw 1 rfl in_X1 k_eo 10 (by decide) oF_X4_86 rfl dX4_missed_5 ?_
      exact hp_iret (v := mi1) B0 hw hS hr ⟨Nat.le_of_ble_eq_true rfl, Nat.le_of_ble_eq_true rfl⟩ dX4_missed_8 (⟨spc_0 (Or.inr k2) trivial, rfl, Or.inr ⟨k2, rfl⟩⟩)

set_option maxHeartbeats 4000000 in
set_option maxRecDepth 100000 in
theorem c_X4_underWay {l : Launch} (hl : l.stackTraces = false) (G : hG) (f : hM) (xo ez eo bu : Nat) (k_xo : f xo = some (.inr (4, [.ref ez, .ref eo, .ref bu]))) (nw0 na0 nq0 nr0 : Nat) (mg0 st0 tm0 sr0 li0 lp0 mi0 : Int32) (k_ez : f ez = some (.inr (1, [.ref nw0, .ref na0, .ref nq0, .ref nr0, .int mg0, .int st0, .int tm0, .int sr0, .int li0, .int lp0, .int mi0]))) (nw1 na1 nq1 nr1 : Nat) (mg1 st1 tm1 sr1 li1 lp1 mi1 : Int32) (k_eo : f eo = some (.inr (1, [.ref nw1, .ref na1, .ref nq1, .ref nr1, .int mg1, .int st1, .int tm1, .int sr1, .int li1, .int lp1, .int mi1]))) (hd0 tl0 : Value) (cn0 : Int32) (k_nr0 : f nr0 = some (.inr (3, [hd0, tl0, .int cn0]))) (hd1 tl1 : Value) (cn1 : Int32) (k_nr1 : f nr1 = some (.inr (3, [hd1, tl1, .int cn1]))) (i : Int32) : CT l yX4_underWay (.code yX4_underWay cX4_underWay 2 (some .int)) 7 103 1 6 G [.ref xo, .int i] f (fun v f1 => spc (sE i) True = 0 ∧ f1 = f ∧ ((i = 0 ∧ v = some (.int cn0)) ∨ (i = 1 ∧ v = some (.int cn1)))) (fun E f1 => f1 = f ∧ E = eI ∧ spc (sE i) True = 1) := by
  refine hp_start hl (own := RX4) (by decide) rfl (Nat.le_of_ble_eq_true rfl) ?_
  intro p e s m args below meth c B0 hr hnm hout hw hS ls hl9
  have hx := B0.1
  have hb := B0.2.1
  have hl9 : lv_has ls 2 [(0, .ref xo), (1, .int i)] := hl9
  refine lv_aload_n hx hb dX4_underWay_0 rfl (lv_at hl9 0 rfl) ?_
  refine lv_iload_n hx hb dX4_underWay_1 rfl (lv_at hl9 1 rfl) ?_
  refine hp_V (ci := 4) (As := [.int i]) (rest := []) B0 hw hS (c_X4_endAt hl G f xo ez eo bu k_xo i) mV_X4_endAt qM_X4_28 rfl k_xo rfl rfl hl9.1 (Nat.le_of_ble_eq_true rfl) ⟨⟨Nat.le_of_ble_eq_true rfl, Nat.le_of_ble_eq_true rfl⟩, Nat.le_of_ble_eq_true rfl, Nat.le_of_ble_eq_true rfl⟩ dX4_underWay_2 (fun E ce q9 f1 H locs hPX hw hS hce hcv hcl => ?_) (fun v f1 H locs hP hw hS => ?_)
  · obtain ⟨ef9, eE9, hE9⟩ := hPX
    rw [ef9] at hw
    subst eE9
    exact hp_out B0 hw hS hout hce hcv hcl ⟨Nat.le_of_ble_eq_true rfl, Nat.le_of_ble_eq_true rfl⟩ (⟨rfl, rfl, spc_1 hE9⟩)
  · obtain ⟨ef9, hv9⟩ := hP
    rw [ef9] at hw
    rcases hv9 with ⟨k2, ev9⟩ | ⟨k2, ev9⟩
    · subst ev9
      refine W.eq (g2 := F0 m 5 ls [.ref ez]) rfl ?_
      refine hp_getN B0 hw 1 rfl in_X1 k_ez 3 (by decide) oF_X4_106 rfl dX4_underWay_5 ?_
      refine hp_getN B0 hw 3 rfl in_X3 k_nr0 2 (by decide) oF_X4_110 rfl dX4_underWay_8 ?_
      exact hp_iret (v := cn0) B0 hw hS hr ⟨Nat.le_of_ble_eq_true rfl, Nat.le_of_ble_eq_true rfl⟩ dX4_underWay_11 (⟨spc_0 (Or.inl k2) trivial, rfl, Or.inl ⟨k2, rfl⟩⟩)
    · subst ev9
      refine W.eq (g2 := F0 m 5 ls [.ref eo]) rfl ?_
      refine hp_getN B0 hw 1 rfl in_X1 k_eo 3 (by decide) oF_X4_106 rfl dX4_underWay_5 ?_
      refine hp_getN B0 hw 3 rfl in_X3 k_nr1 2 (by decide) oF_X4_110 rfl dX4_underWay_8 ?_
      exact hp_iret (v := cn1) B0 hw hS hr ⟨Nat.le_of_ble_eq_true rfl, Nat.le_of_ble_eq_true rfl⟩ dX4_underWay_11 (⟨spc_0 (Or.inr k2) trivial, rfl, Or.inr ⟨k2, rfl⟩⟩)

set_option maxHeartbeats 4000000 in
set_option maxRecDepth 100000 in
theorem c_X4_asked {l : Launch} (hl : l.stackTraces = false) (G : hG) (f : hM) (xo ez eo bu : Nat) (k_xo : f xo = some (.inr (4, [.ref ez, .ref eo, .ref bu]))) (nw0 na0 nq0 nr0 : Nat) (mg0 st0 tm0 sr0 li0 lp0 mi0 : Int32) (k_ez : f ez = some (.inr (1, [.ref nw0, .ref na0, .ref nq0, .ref nr0, .int mg0, .int st0, .int tm0, .int sr0, .int li0, .int lp0, .int mi0]))) (nw1 na1 nq1 nr1 : Nat) (mg1 st1 tm1 sr1 li1 lp1 mi1 : Int32) (k_eo : f eo = some (.inr (1, [.ref nw1, .ref na1, .ref nq1, .ref nr1, .int mg1, .int st1, .int tm1, .int sr1, .int li1, .int lp1, .int mi1]))) (gq0 gq1 : Nat → Int32) (k_nq0 : f nq0 = some (.inl (cI G, 6, .inl gq0))) (k_nq1 : f nq1 = some (.inl (cI G, 6, .inl gq1))) (i o : Int32) : CT l yX4_asked (.code yX4_asked cX4_asked 4 (some .int)) 7 103 2 12 G [.ref xo, .int i, .int o] f (fun v f1 => spc (sE i ∧ sO o) True = 0 ∧ f1 = f ∧ ((i = 0 ∧ v = some (.int (gq0 o.toNatClampNeg))) ∨ (i = 1 ∧ v = some (.int (gq1 o.toNatClampNeg))))) (fun E f1 => f1 = f ∧ E = eI ∧ spc (sE i ∧ sO o) True = 1) := by
  refine hp_start hl (own := RX4) (by decide) rfl (Nat.le_of_ble_eq_true rfl) ?_
  intro p e s m args below meth c B0 hr hnm hout hw hS ls hl9
  have hx := B0.1
  have hb := B0.2.1
  have hl9 : lv_has ls 4 [(0, .ref xo), (1, .int i), (2, .int o)] := hl9
  refine lv_aload_n hx hb dX4_asked_0 rfl (lv_at hl9 0 rfl) ?_
  refine lv_iload_n hx hb dX4_asked_1 rfl (lv_at hl9 1 rfl) ?_
  refine hp_V (ci := 4) (As := [.int i]) (rest := []) B0 hw hS (c_X4_endAt hl G f xo ez eo bu k_xo i) mV_X4_endAt qM_X4_28 rfl k_xo rfl rfl hl9.1 (Nat.le_of_ble_eq_true rfl) ⟨⟨Nat.le_of_ble_eq_true rfl, Nat.le_of_ble_eq_true rfl⟩, Nat.le_of_ble_eq_true rfl, Nat.le_of_ble_eq_true rfl⟩ dX4_asked_2 (fun E ce q9 f1 H locs hPX hw hS hce hcv hcl => ?_) (fun v f1 H locs hP hw hS => ?_)
  · obtain ⟨ef9, eE9, hE9⟩ := hPX
    rw [ef9] at hw
    subst eE9
    exact hp_out B0 hw hS hout hce hcv hcl ⟨Nat.le_of_ble_eq_true rfl, Nat.le_of_ble_eq_true rfl⟩ (⟨rfl, rfl, spc_1 (fun h9 => hE9 h9.1)⟩)
  · obtain ⟨ef9, hv9⟩ := hP
    rw [ef9] at hw
    rcases hv9 with ⟨k2, ev9⟩ | ⟨k2, ev9⟩
    · subst ev9
      refine W.eq (g2 := F0 m 5 ls [.ref ez]) rfl ?_
      refine lv_astore_n (lv' := [(3, .ref ez), (0, .ref xo), (1, .int i), (2, .int o)]) hx hb dX4_asked_5 rfl hl9 (by decide) rfl (fun ls hl9 => ?_)
      refine lv_iload_n hx hb dX4_asked_6 rfl (lv_at hl9 3 rfl) ?_
      refine hp_S (As := [.int o]) (rest := []) B0 hw hS (c_X4_refuseNoOption hl G f o) mS_X4_refuseNoOption qM_X4_32 rfl rfl hl9.1 (Nat.le_of_ble_eq_true rfl) ⟨⟨Nat.le_of_ble_eq_true rfl, Nat.le_of_ble_eq_true rfl⟩, Nat.le_of_ble_eq_true rfl, Nat.le_of_ble_eq_true rfl⟩ dX4_asked_7 (fun E ce q9 f3 H locs hPX hw hS hce hcv hcl => ?_) (fun v f3 H locs hP hw hS => ?_)
      · obtain ⟨ef9, eE9, hE9⟩ := hPX
        rw [ef9] at hw
        subst eE9
        exact hp_out B0 hw hS hout hce hcv hcl ⟨Nat.le_of_ble_eq_true rfl, Nat.le_of_ble_eq_true rfl⟩ (⟨rfl, rfl, spc_1 (fun h9 => hE9 h9.2)⟩)
      · obtain ⟨ef9, ev9, ho4⟩ := hP
        rw [ef9] at hw
        subst ev9
        refine W.eq (g2 := F0 m 10 ls []) rfl ?_
        refine lv_aload_n hx hb dX4_asked_10 rfl (lv_at hl9 0 rfl) ?_
        refine hp_getN B0 hw 1 rfl in_X1 k_ez 2 (by decide) oF_X4_95 rfl dX4_asked_11 ?_
        refine lv_iload_n hx hb dX4_asked_14 rfl (lv_at hl9 3 rfl) ?_
        refine hp_iald B0 hw k_nq0 (vin6 ho4) dX4_asked_15 ?_
        exact hp_iret (v := (gq0 (o : Int32).toNatClampNeg)) B0 hw hS hr ⟨Nat.le_of_ble_eq_true rfl, Nat.le_of_ble_eq_true rfl⟩ dX4_asked_16 (⟨spc_0 ⟨(Or.inl k2), ho4⟩ trivial, rfl, Or.inl ⟨k2, rfl⟩⟩)
    · subst ev9
      refine W.eq (g2 := F0 m 5 ls [.ref eo]) rfl ?_
      refine lv_astore_n (lv' := [(3, .ref eo), (0, .ref xo), (1, .int i), (2, .int o)]) hx hb dX4_asked_5 rfl hl9 (by decide) rfl (fun ls hl9 => ?_)
      refine lv_iload_n hx hb dX4_asked_6 rfl (lv_at hl9 3 rfl) ?_
      refine hp_S (As := [.int o]) (rest := []) B0 hw hS (c_X4_refuseNoOption hl G f o) mS_X4_refuseNoOption qM_X4_32 rfl rfl hl9.1 (Nat.le_of_ble_eq_true rfl) ⟨⟨Nat.le_of_ble_eq_true rfl, Nat.le_of_ble_eq_true rfl⟩, Nat.le_of_ble_eq_true rfl, Nat.le_of_ble_eq_true rfl⟩ dX4_asked_7 (fun E ce q9 f5 H locs hPX hw hS hce hcv hcl => ?_) (fun v f5 H locs hP hw hS => ?_)
      · obtain ⟨ef9, eE9, hE9⟩ := hPX
        rw [ef9] at hw
        subst eE9
        exact hp_out B0 hw hS hout hce hcv hcl ⟨Nat.le_of_ble_eq_true rfl, Nat.le_of_ble_eq_true rfl⟩ (⟨rfl, rfl, spc_1 (fun h9 => hE9 h9.2)⟩)
      · obtain ⟨ef9, ev9, ho6⟩ := hP
        rw [ef9] at hw
        subst ev9
        refine W.eq (g2 := F0 m 10 ls []) rfl ?_
        refine lv_aload_n hx hb dX4_asked_10 rfl (lv_at hl9 0 rfl) ?_
        refine hp_getN B0 hw 1 rfl in_X1 k_eo 2 (by decide) oF_X4_95 rfl dX4_asked_11 ?_
        refine lv_iload_n hx hb dX4_asked_14 rfl (lv_at hl9 3 rfl) ?_
        refine hp_iald B0 hw k_nq1 (vin6 ho6) dX4_asked_15 ?_
        exact hp_iret (v := (gq1 (o : Int32).toNatClampNeg)) B0 hw hS hr ⟨Nat.le_of_ble_eq_true rfl, Nat.le_of_ble_eq_true rfl⟩ dX4_asked_16 (⟨spc_0 ⟨(Or.inr k2), ho6⟩ trivial, rfl, Or.inr ⟨k2, rfl⟩⟩)

set_option maxHeartbeats 4000000 in
set_option maxRecDepth 100000 in
theorem c_X1_changeMagic {l : Launch} (hl : l.stackTraces = false) (G : hG) (f : hM) (en : Nat) (nw na nq nr : Nat) (mg st tm sr li lp mi : Int32) (k_en : f en = some (.inr (1, [.ref nw, .ref na, .ref nq, .ref nr, .int mg, .int st, .int tm, .int sr, .int li, .int lp, .int mi]))) (x : Int32) : CT l yX1_changeMagic (.code yX1_changeMagic cX1_changeMagic 3 (some .int)) 0 0 0 0 G [.ref en, .int x] f (fun v f1 => v = some (.int mg) ∧ f1 = va_up f en (some (.inr (1, [.ref nw, .ref na, .ref nq, .ref nr, .int x, .int st, .int tm, .int sr, .int li, .int lp, .int mi]))) ∧ hKeep [en] f f1) (fun E f1 => False) := by
  refine hp_start hl (own := RX1) (by decide) rfl (Nat.le_of_ble_eq_true rfl) ?_
  intro p e s m args below meth c B0 hr hnm hout hw hS ls hl9
  have hx := B0.1
  have hb := B0.2.1
  have hl9 : lv_has ls 3 [(0, .ref en), (1, .int x)] := hl9
  refine lv_aload_n hx hb dX1_changeMagic_0 rfl (lv_at hl9 0 rfl) ?_
  refine hp_get B0 hw 1 rfl in_X1 k_en 4 (by decide) qF_X1_48 rfl dX1_changeMagic_1 ?_
  refine lv_istore_n (lv' := [(2, .int mg), (0, .ref en), (1, .int x)]) hx hb dX1_changeMagic_4 rfl hl9 (by decide) rfl (fun ls hl9 => ?_)
  refine lv_aload_n hx hb dX1_changeMagic_5 rfl (lv_at hl9 1 rfl) ?_
  refine lv_iload_n hx hb dX1_changeMagic_6 rfl (lv_at hl9 2 rfl) ?_
  refine hp_put (fs1 := [.ref nw, .ref na, .ref nq, .ref nr, .int x, .int st, .int tm, .int sr, .int li, .int lp, .int mi]) (ty := .int) B0 hw hS 1 rfl in_X1 tyX1 tyX1_ok nmX1 k_en 4 (by decide) qF_X1_48 rfl (by decide +kernel) rfl rfl (Nat.le_of_ble_eq_true rfl) rfl dX1_changeMagic_7 (fun H locs f1 ef1 hw hS => ?_)
  have h2 : f1 en = some (.inr (1, [.ref nw, .ref na, .ref nq, .ref nr, .int x, .int st, .int tm, .int sr, .int li, .int lp, .int mi])) := by rw [ef1, va_up_self]
  refine lv_iload_n hx hb dX1_changeMagic_10 rfl (lv_at hl9 0 rfl) ?_
  exact hp_iret (v := mg) B0 hw hS hr ⟨Nat.le_of_ble_eq_true rfl, Nat.le_of_ble_eq_true rfl⟩ dX1_changeMagic_11 (⟨rfl, ef1, (show hKeep [en] f f1 from (by rw [ef1]; exact hKeep.up (by simp)))⟩)

set_option maxHeartbeats 4000000 in
set_option maxRecDepth 100000 in
theorem c_X4_setMagic {l : Launch} (hl : l.stackTraces = false) (G : hG) (f : hM) (xo ez eo bu : Nat) (k_xo : f xo = some (.inr (4, [.ref ez, .ref eo, .ref bu]))) (nw0 na0 nq0 nr0 : Nat) (mg0 st0 tm0 sr0 li0 lp0 mi0 : Int32) (k_ez : f ez = some (.inr (1, [.ref nw0, .ref na0, .ref nq0, .ref nr0, .int mg0, .int st0, .int tm0, .int sr0, .int li0, .int lp0, .int mi0]))) (nw1 na1 nq1 nr1 : Nat) (mg1 st1 tm1 sr1 li1 lp1 mi1 : Int32) (k_eo : f eo = some (.inr (1, [.ref nw1, .ref na1, .ref nq1, .ref nr1, .int mg1, .int st1, .int tm1, .int sr1, .int li1, .int lp1, .int mi1]))) (i x : Int32) : CT l yX4_setMagic (.code yX4_setMagic cX4_setMagic 3 (some .int)) 7 103 1 6 G [.ref xo, .int i, .int x] f (fun v f1 => spc (sE i) True = 0 ∧ ((i = 0 ∧ v = some (.int mg0) ∧ f1 = va_up f ez (some (.inr (1, [.ref nw0, .ref na0, .ref nq0, .ref nr0, .int x, .int st0, .int tm0, .int sr0, .int li0, .int lp0, .int mi0]))) ∧ hKeep [ez] f f1) ∨ (i = 1 ∧ v = some (.int mg1) ∧ f1 = va_up f eo (some (.inr (1, [.ref nw1, .ref na1, .ref nq1, .ref nr1, .int x, .int st1, .int tm1, .int sr1, .int li1, .int lp1, .int mi1]))) ∧ hKeep [eo] f f1))) (fun E f1 => f1 = f ∧ E = eI ∧ spc (sE i) True = 1) := by
  refine hp_start hl (own := RX4) (by decide) rfl (Nat.le_of_ble_eq_true rfl) ?_
  intro p e s m args below meth c B0 hr hnm hout hw hS ls hl9
  have hx := B0.1
  have hb := B0.2.1
  have hl9 : lv_has ls 3 [(0, .ref xo), (1, .int i), (2, .int x)] := hl9
  refine lv_aload_n hx hb dX4_setMagic_0 rfl (lv_at hl9 0 rfl) ?_
  refine lv_iload_n hx hb dX4_setMagic_1 rfl (lv_at hl9 1 rfl) ?_
  refine hp_V (ci := 4) (As := [.int i]) (rest := []) B0 hw hS (c_X4_endAt hl G f xo ez eo bu k_xo i) mV_X4_endAt qM_X4_28 rfl k_xo rfl rfl hl9.1 (Nat.le_of_ble_eq_true rfl) ⟨⟨Nat.le_of_ble_eq_true rfl, Nat.le_of_ble_eq_true rfl⟩, Nat.le_of_ble_eq_true rfl, Nat.le_of_ble_eq_true rfl⟩ dX4_setMagic_2 (fun E ce q9 f1 H locs hPX hw hS hce hcv hcl => ?_) (fun v f1 H locs hP hw hS => ?_)
  · obtain ⟨ef9, eE9, hE9⟩ := hPX
    rw [ef9] at hw
    subst eE9
    exact hp_out B0 hw hS hout hce hcv hcl ⟨Nat.le_of_ble_eq_true rfl, Nat.le_of_ble_eq_true rfl⟩ (⟨rfl, rfl, spc_1 hE9⟩)
  · obtain ⟨ef9, hv9⟩ := hP
    rw [ef9] at hw
    rcases hv9 with ⟨k2, ev9⟩ | ⟨k2, ev9⟩
    · subst ev9
      refine W.eq (g2 := F0 m 5 ls [.ref ez]) rfl ?_
      refine lv_iload_n hx hb dX4_setMagic_5 rfl (lv_at hl9 2 rfl) ?_
      refine hp_V (ci := 1) (As := [.int x]) (rest := []) B0 hw hS (c_X1_changeMagic hl G f ez nw0 na0 nq0 nr0 mg0 st0 tm0 sr0 li0 lp0 mi0 k_ez x) mV_X1_changeMagic qM_X4_51 rfl k_ez rfl rfl hl9.1 (Nat.le_of_ble_eq_true rfl) ⟨⟨Nat.le_of_ble_eq_true rfl, Nat.le_of_ble_eq_true rfl⟩, Nat.le_of_ble_eq_true rfl, Nat.le_of_ble_eq_true rfl⟩ dX4_setMagic_6 (fun E ce q9 f3 H locs hPX hw hS hce hcv hcl => ?_) (fun v f3 H locs hP hw hS => ?_)
      · exact hPX.elim
      · obtain ⟨ev9, e4, k5⟩ := hP
        subst ev9
        have h6 : f3 ez = some (.inr (1, [.ref nw0, .ref na0, .ref nq0, .ref nr0, .int x, .int st0, .int tm0, .int sr0, .int li0, .int lp0, .int mi0])) := by rw [e4, va_up_self]
        refine W.eq (g2 := F0 m 9 ls [.int mg0]) rfl ?_
        exact hp_iret (v := mg0) B0 hw hS hr ⟨Nat.le_of_ble_eq_true rfl, Nat.le_of_ble_eq_true rfl⟩ dX4_setMagic_9 (⟨spc_0 (Or.inl k2) trivial, Or.inl ⟨k2, rfl, e4, (show hKeep [ez] f f3 from (by rw [e4]; exact hKeep.up (by simp)))⟩⟩)
    · subst ev9
      refine W.eq (g2 := F0 m 5 ls [.ref eo]) rfl ?_
      refine lv_iload_n hx hb dX4_setMagic_5 rfl (lv_at hl9 2 rfl) ?_
      refine hp_V (ci := 1) (As := [.int x]) (rest := []) B0 hw hS (c_X1_changeMagic hl G f eo nw1 na1 nq1 nr1 mg1 st1 tm1 sr1 li1 lp1 mi1 k_eo x) mV_X1_changeMagic qM_X4_51 rfl k_eo rfl rfl hl9.1 (Nat.le_of_ble_eq_true rfl) ⟨⟨Nat.le_of_ble_eq_true rfl, Nat.le_of_ble_eq_true rfl⟩, Nat.le_of_ble_eq_true rfl, Nat.le_of_ble_eq_true rfl⟩ dX4_setMagic_6 (fun E ce q9 f7 H locs hPX hw hS hce hcv hcl => ?_) (fun v f7 H locs hP hw hS => ?_)
      · exact hPX.elim
      · obtain ⟨ev9, e8, k9⟩ := hP
        subst ev9
        have h10 : f7 eo = some (.inr (1, [.ref nw1, .ref na1, .ref nq1, .ref nr1, .int x, .int st1, .int tm1, .int sr1, .int li1, .int lp1, .int mi1])) := by rw [e8, va_up_self]
        refine W.eq (g2 := F0 m 9 ls [.int mg1]) rfl ?_
        exact hp_iret (v := mg1) B0 hw hS hr ⟨Nat.le_of_ble_eq_true rfl, Nat.le_of_ble_eq_true rfl⟩ dX4_setMagic_9 (⟨spc_0 (Or.inr k2) trivial, Or.inr ⟨k2, rfl, e8, (show hKeep [eo] f f7 from (by rw [e8]; exact hKeep.up (by simp)))⟩⟩)

