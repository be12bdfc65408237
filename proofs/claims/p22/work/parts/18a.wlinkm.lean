def mA12 : Nat → Int32 := fun j => if j < 12 then (-1) else 0
def mA2 (a b : Int32) : Nat → Int32 := fun j => if j = 1 then b else if j = 0 then a else 0
def mA3 (a b c : Int32) : Nat → Int32 := fun j => if j = 2 then c else if j = 1 then b else if j = 0 then a else 0
theorem mA12_eq : (upd (upd (upd (upd (upd (upd (upd (upd (upd (upd (upd (upd (fun _ => 0) (0 : Int32).toNatClampNeg (-1)) (1 : Int32).toNatClampNeg (-1)) (2 : Int32).toNatClampNeg (-1)) (3 : Int32).toNatClampNeg (-1)) (4 : Int32).toNatClampNeg (-1)) (5 : Int32).toNatClampNeg (-1)) (6 : Int32).toNatClampNeg (-1)) (7 : Int32).toNatClampNeg (-1)) (8 : Int32).toNatClampNeg (-1)) (9 : Int32).toNatClampNeg (-1)) (10 : Int32).toNatClampNeg (-1)) (11 : Int32).toNatClampNeg (-1)) = mA12 := by
  funext j
  simp only [upd, cl0, cl1, cl2, cl3, cl4, cl5, cl6, cl7, cl8, cl9, cl10, cl11, mA12]
  by_cases h : j < 12
  · rw [if_pos h]
    rcases (show j = 0 ∨ j = 1 ∨ j = 2 ∨ j = 3 ∨ j = 4 ∨ j = 5 ∨ j = 6 ∨ j = 7 ∨ j = 8 ∨ j = 9 ∨ j = 10 ∨ j = 11 by omega) with rfl | rfl | rfl | rfl | rfl | rfl | rfl | rfl | rfl | rfl | rfl | rfl <;> rfl
  · rw [if_neg h]
    rw [if_neg (show ¬ j = 11 by omega)]
    rw [if_neg (show ¬ j = 10 by omega)]
    rw [if_neg (show ¬ j = 9 by omega)]
    rw [if_neg (show ¬ j = 8 by omega)]
    rw [if_neg (show ¬ j = 7 by omega)]
    rw [if_neg (show ¬ j = 6 by omega)]
    rw [if_neg (show ¬ j = 5 by omega)]
    rw [if_neg (show ¬ j = 4 by omega)]
    rw [if_neg (show ¬ j = 3 by omega)]
    rw [if_neg (show ¬ j = 2 by omega)]
    rw [if_neg (show ¬ j = 1 by omega)]
    rw [if_neg (show ¬ j = 0 by omega)]
theorem mA2_eq (a b : Int32) : upd (upd (fun _ => 0) (0 : Int32).toNatClampNeg a) (1 : Int32).toNatClampNeg b = mA2 a b := rfl
theorem mA3_eq (a b c : Int32) : upd (upd (upd (fun _ => 0) (0 : Int32).toNatClampNeg a) (1 : Int32).toNatClampNeg b) (2 : Int32).toNatClampNeg c = mA3 a b c := rfl
theorem mA12_in : ∀ j, j < 12 → mA12 j = -1 := fun j h => if_pos h
theorem vin2 {i : Int32} (h : sE i) : vp_in i 2 := by rcases h with rfl | rfl <;> (unfold vp_in; decide)
theorem vin12 {i o : Int32} (hi : sE i) (ho : sO o) : vp_in (6 * i + o) 12 := by
  obtain ⟨k, hk, rfl⟩ := vp_in_of (vin6 ho) (by decide)
  rcases hi with rfl | rfl
  · rw [show (6 : Int32) * 0 + nI k = nI k from Int32.zero_add _]
    exact vp_in_nI (by omega) (by decide)
  · rw [show (6 : Int32) * 1 = nI 6 from rfl, nI_add]
    exact vp_in_nI (by omega) (by decide)
theorem sE_of {i : Int32} : (0 ≤ i.toInt ∧ i.toInt ≤ 1) ↔ sE i := by
  constructor
  · intro h
    rcases (show i.toInt = 0 ∨ i.toInt = 1 by omega) with h1 | h1
    · exact Or.inl (Int32.toInt_inj.mp h1)
    · exact Or.inr (Int32.toInt_inj.mp h1)
  · intro h
    rcases h with rfl | rfl <;> decide
theorem spc_F {A : Prop} [Decidable A] : spc A False ≠ 0 := by
  by_cases a : A
  · rw [spc_2 a id]; decide
  · rw [spc_1 a]; decide
theorem X3_ge : ∀ j, j < 3 → (0 : Int32) ≤ mA3 0 1 2 j := by decide
set_option maxHeartbeats 4000000 in
set_option maxRecDepth 100000 in
theorem c_X5_in {l : Launch} (hl : l.stackTraces = false) (G : hG) (f : hM) (x a b : Int32) : CT l yX5_in (.code yX5_in cX5_in 3 (some .boolean)) 0 0 0 0 G [.int x, .int a, .int b] f (fun v f1 => f1 = f ∧ (((a.toInt ≤ x.toInt ∧ x.toInt ≤ b.toInt) ∧ v = some (.int 1)) ∨ (¬ (a.toInt ≤ x.toInt ∧ x.toInt ≤ b.toInt) ∧ v = some (.int 0)))) (fun E f1 => False) := by
  refine hp_start hl (own := RX5) (by decide) rfl (Nat.le_of_ble_eq_true rfl) ?_
  intro p e s m args below meth c B0 hr hnm hout hw hS ls hl9
  have hx := B0.1
  have hb := B0.2.1
  have hl9 : lv_has ls 3 [(0, .int x), (1, .int a), (2, .int b)] := hl9
  refine lv_iload_n hx hb dX5_in_0 rfl (lv_at hl9 0 rfl) ?_
  refine lv_iload_n hx hb dX5_in_1 rfl (lv_at hl9 1 rfl) ?_
  refine lv_icmp_lt (tgt := 14) hx hb dX5_in_2 (by decide) (fun c1 => ?_) (fun c1 => ?_)
  · refine lv_iconst (v := 0) hx hb dX5_in_14 (by decide) ?_
    exact hp_zret (v := 0) B0 hw hS hr ⟨Nat.le_of_ble_eq_true rfl, Nat.le_of_ble_eq_true rfl⟩ (rfl) dX5_in_15 (⟨rfl, Or.inr ⟨(fun h9 => by have h1 := c1; simp only [jlt, jle] at h1; obtain ⟨h3, h4⟩ := h9; omega), rfl⟩⟩)
  · refine lv_iload_n hx hb dX5_in_5 rfl (lv_at hl9 0 rfl) ?_
    refine lv_iload_n hx hb dX5_in_6 rfl (lv_at hl9 2 rfl) ?_
    refine lv_icmp_gt (tgt := 14) hx hb dX5_in_7 (by decide) (fun c2 => ?_) (fun c2 => ?_)
    · refine lv_iconst (v := 0) hx hb dX5_in_14 (by decide) ?_
      exact hp_zret (v := 0) B0 hw hS hr ⟨Nat.le_of_ble_eq_true rfl, Nat.le_of_ble_eq_true rfl⟩ (rfl) dX5_in_15 (⟨rfl, Or.inr ⟨(fun h9 => by have h1 := c2; simp only [jlt, jle] at h1; obtain ⟨h3, h4⟩ := h9; omega), rfl⟩⟩)
    · refine lv_iconst (v := 1) hx hb dX5_in_10 (by decide) ?_
      refine lv_goto (tgt := 15) hx hb dX5_in_11 (by decide) ?_
      exact hp_zret (v := 1) B0 hw hS hr ⟨Nat.le_of_ble_eq_true rfl, Nat.le_of_ble_eq_true rfl⟩ (rfl) dX5_in_15 (⟨rfl, Or.inl ⟨(by have h1 := c1; have h2 := c2; simp only [jlt, jle] at h1 h2; exact ⟨by omega, by omega⟩), rfl⟩⟩)

set_option maxHeartbeats 4000000 in
set_option maxRecDepth 100000 in
theorem c_X5_isEnd {l : Launch} (hl : l.stackTraces = false) (G : hG) (f : hM) (x : Int32) : CT l yX5_isEnd (.code yX5_isEnd cX5_isEnd 1 (some .boolean)) 1 22 0 0 G [.int x] f (fun v f1 => f1 = f ∧ ((sE x ∧ v = some (.int 1)) ∨ (¬ sE x ∧ v = some (.int 0)))) (fun E f1 => False) := by
  refine hp_start hl (own := RX5) (by decide) rfl (Nat.le_of_ble_eq_true rfl) ?_
  intro p e s m args below meth c B0 hr hnm hout hw hS ls hl9
  have hx := B0.1
  have hb := B0.2.1
  have hl9 : lv_has ls 1 [(0, .int x)] := hl9
  refine lv_iload_n hx hb dX5_isEnd_0 rfl (lv_at hl9 0 rfl) ?_
  refine lv_iconst (v := 0) hx hb dX5_isEnd_1 (by decide) ?_
  refine lv_iconst (v := 1) hx hb dX5_isEnd_2 (by decide) ?_
  refine hp_S (As := [.int x, .int 0, .int 1]) (rest := []) B0 hw hS (c_X5_in hl G f x 0 1) mS_X5_in qM_X5_81 rfl rfl hl9.1 (Nat.le_of_ble_eq_true rfl) ⟨⟨Nat.le_of_ble_eq_true rfl, Nat.le_of_ble_eq_true rfl⟩, Nat.le_of_ble_eq_true rfl, Nat.le_of_ble_eq_true rfl⟩ dX5_isEnd_3 (fun E ce q9 f1 H locs hPX hw hS hce hcv hcl => ?_) (fun v f1 H locs hP hw hS => ?_)
  · exact hPX.elim
  · obtain ⟨ef9, hv9⟩ := hP
    rw [ef9] at hw
    rcases hv9 with ⟨b2, ev9⟩ | ⟨b2, ev9⟩
    · subst ev9
      refine W.eq (g2 := F0 m 6 ls [.int 1]) rfl ?_
      exact hp_zret (v := 1) B0 hw hS hr ⟨Nat.le_of_ble_eq_true rfl, Nat.le_of_ble_eq_true rfl⟩ (rfl) dX5_isEnd_6 (⟨rfl, Or.inl ⟨sE_of.mp b2, rfl⟩⟩)
    · subst ev9
      refine W.eq (g2 := F0 m 6 ls [.int 0]) rfl ?_
      exact hp_zret (v := 0) B0 hw hS hr ⟨Nat.le_of_ble_eq_true rfl, Nat.le_of_ble_eq_true rfl⟩ (rfl) dX5_isEnd_6 (⟨rfl, Or.inr ⟨(fun h9 => b2 (sE_of.mpr h9)), rfl⟩⟩)

set_option maxHeartbeats 4000000 in
set_option maxRecDepth 100000 in
theorem c_X5_isOption {l : Launch} (hl : l.stackTraces = false) (G : hG) (f : hM) (x : Int32) : CT l yX5_isOption (.code yX5_isOption cX5_isOption 1 (some .boolean)) 1 22 0 0 G [.int x] f (fun v f1 => f1 = f ∧ ((sO x ∧ v = some (.int 1)) ∨ (¬ sO x ∧ v = some (.int 0)))) (fun E f1 => False) := by
  refine hp_start hl (own := RX5) (by decide) rfl (Nat.le_of_ble_eq_true rfl) ?_
  intro p e s m args below meth c B0 hr hnm hout hw hS ls hl9
  have hx := B0.1
  have hb := B0.2.1
  have hl9 : lv_has ls 1 [(0, .int x)] := hl9
  refine lv_iload_n hx hb dX5_isOption_0 rfl (lv_at hl9 0 rfl) ?_
  refine lv_iconst (v := 0) hx hb dX5_isOption_1 (by decide) ?_
  refine lv_iconst (v := 5) hx hb dX5_isOption_2 (by decide) ?_
  refine hp_S (As := [.int x, .int 0, .int 5]) (rest := []) B0 hw hS (c_X5_in hl G f x 0 5) mS_X5_in qM_X5_81 rfl rfl hl9.1 (Nat.le_of_ble_eq_true rfl) ⟨⟨Nat.le_of_ble_eq_true rfl, Nat.le_of_ble_eq_true rfl⟩, Nat.le_of_ble_eq_true rfl, Nat.le_of_ble_eq_true rfl⟩ dX5_isOption_3 (fun E ce q9 f1 H locs hPX hw hS hce hcv hcl => ?_) (fun v f1 H locs hP hw hS => ?_)
  · exact hPX.elim
  · obtain ⟨ef9, hv9⟩ := hP
    rw [ef9] at hw
    rcases hv9 with ⟨b2, ev9⟩ | ⟨b2, ev9⟩
    · subst ev9
      refine W.eq (g2 := F0 m 6 ls [.int 1]) rfl ?_
      exact hp_zret (v := 1) B0 hw hS hr ⟨Nat.le_of_ble_eq_true rfl, Nat.le_of_ble_eq_true rfl⟩ (rfl) dX5_isOption_6 (⟨rfl, Or.inl ⟨(by have h1 := b2; simp only [tq0, tq5] at h1; exact ⟨by omega, by omega⟩), rfl⟩⟩)
    · subst ev9
      refine W.eq (g2 := F0 m 6 ls [.int 0]) rfl ?_
      exact hp_zret (v := 0) B0 hw hS hr ⟨Nat.le_of_ble_eq_true rfl, Nat.le_of_ble_eq_true rfl⟩ (rfl) dX5_isOption_6 (⟨rfl, Or.inr ⟨(fun h9 => b2 (by simp only [tq0, tq5]; exact ⟨by omega, by omega⟩)), rfl⟩⟩)

def jn (x y : Nat → Int32) : Nat → Int32 := fun j => if j < 6 then x j else y (j - 6)
def hHd (g : Nat → Int32) : Prop := ∀ i, i < 2 → ∃ h : Nat, g i = nI h ∧ h < 1024
def hMn (g : Nat → Int32) (B : Nat) : Prop := ∀ i, i < 2 → ∃ k : Nat, g i = nI k ∧ k ≤ B
theorem hMn.up {g : Nat → Int32} {B B1 k i : Nat} (h : hMn g B) (hk : k ≤ B1) (hB : B ≤ B1) : hMn (upd g i (nI k)) B1 := fun j hj => by
  unfold upd
  split
  · exact ⟨k, rfl, hk⟩
  · obtain ⟨q, h1, h2⟩ := h j hj
    exact ⟨q, h1, by omega⟩
theorem hMn.mono {g : Nat → Int32} {B B1 : Nat} (h : hMn g B) (hB : B ≤ B1) : hMn g B1 := fun j hj => by
  obtain ⟨q, h1, h2⟩ := h j hj
  exact ⟨q, h1, by omega⟩
theorem hHd.up {g : Nat → Int32} {k i : Nat} (h : hHd g) (hk : k < 1024) : hHd (upd g i (nI k)) := fun j hj => by
  unfold upd
  split
  · exact ⟨k, rfl, hk⟩
  · exact h j hj
theorem low_ex : ∀ n, n < 1024 → n ≠ 0 → ∃ v, v < 10 ∧ ¬ (nI n >>> (nI v &&& 31)) &&& 1 = 0 := by decide +kernel
def ND5 (dW dA dQ dM dS dL dR dT dZ dI dH dN dK dJ dU dO dF dP dE dX dY dG : Nat) : Prop := dW ≠ dA ∧ dW ≠ dQ ∧ dA ≠ dQ ∧ dM ≠ dS ∧ dM ≠ dL ∧ dM ≠ dR ∧ dM ≠ dT ∧ dM ≠ dZ ∧ dM ≠ dI ∧ dM ≠ dH ∧ dM ≠ dN ∧ dS ≠ dL ∧ dS ≠ dR ∧ dS ≠ dT ∧ dS ≠ dZ ∧ dS ≠ dI ∧ dS ≠ dH ∧ dS ≠ dN ∧ dL ≠ dR ∧ dL ≠ dT ∧ dL ≠ dZ ∧ dL ≠ dI ∧ dL ≠ dH ∧ dL ≠ dN ∧ dR ≠ dT ∧ dR ≠ dZ ∧ dR ≠ dI ∧ dR ≠ dH ∧ dR ≠ dN ∧ dT ≠ dZ ∧ dT ≠ dI ∧ dT ≠ dH ∧ dT ≠ dN ∧ dZ ≠ dI ∧ dZ ≠ dH ∧ dZ ≠ dN ∧ dI ≠ dH ∧ dI ≠ dN ∧ dH ≠ dN ∧ dK ≠ dJ ∧ dK ≠ dU ∧ dK ≠ dO ∧ dJ ≠ dU ∧ dJ ≠ dO ∧ dU ≠ dO ∧ dP ≠ dE ∧ dX ≠ dY
/-- the reference's link, as far as it matters -/
def LM (G : hG) (f : hM) (dQ dS dL dR dT dZ dI dH dN dK dJ dU dO : Nat) (B : Nat) : Prop := ∃ gQ gS gL gR gT gZ gI gH gN gK gJ gU gO : Nat → Int32, f dQ = some (.inl (cI G, 12, .inl gQ)) ∧ f dS = some (.inl (cI G, 2, .inl gS)) ∧ f dL = some (.inl (cI G, 2, .inl gL)) ∧ f dR = some (.inl (cI G, 2, .inl gR)) ∧ f dT = some (.inl (cI G, 2, .inl gT)) ∧ f dZ = some (.inl (cZ G, 2, .inl gZ)) ∧ f dI = some (.inl (cI G, 2, .inl gI)) ∧ f dH = some (.inl (cI G, 2, .inl gH)) ∧ f dN = some (.inl (cI G, 2, .inl gN)) ∧ f dK = some (.inl (cI G, 2048, .inl gK)) ∧ f dJ = some (.inl (cI G, 2048, .inl gJ)) ∧ f dU = some (.inl (cI G, 2048, .inl gU)) ∧ f dO = some (.inl (cI G, 2048, .inl gO)) ∧ hHd gH ∧ hMn gN B
set_option maxHeartbeats 4000000 in
set_option maxRecDepth 100000 in
theorem c_W5_place {l : Launch} (hl : l.stackTraces = false) (G : hG) (f : hM) (j : Nat) (hj : j < 6) : CT l yX5_place (.code yX5_place cX5_place 3 (some .int)) 0 0 0 0 G [.int (nI j)] f (fun v f1 => (∃ r : Int32, v = some (.int r) ∧ ¬ r = 0) ∧ f1 = f) (fun E f1 => False) := by
  refine hp_start hl (own := RX5) (by decide) rfl (Nat.le_of_ble_eq_true rfl) ?_
  intro p e s m args below meth c B0 hr hnm hout hw hS ls hl9
  have hx := B0.1
  have hb := B0.2.1
  have hl9 : lv_has ls 3 [(0, .int (nI j))] := hl9
  rcases (show j = 0 ∨ j = 1 ∨ j = 2 ∨ j = 3 ∨ j = 4 ∨ j = 5 by omega) with rfl | rfl | rfl | rfl | rfl | rfl
  · have hl9 : lv_has ls 3 [(0, .int 0)] := hl9
    refine lv_iconst (v := 1) hx hb dX5_place_0 (by decide) ?_
    refine lv_istore_n (lv' := [(1, .int 1), (0, .int 0)]) hx hb dX5_place_1 rfl hl9 (by decide) rfl (fun ls hl9 => ?_)
    refine lv_iconst (v := 0) hx hb dX5_place_2 (by decide) ?_
    refine lv_istore_n (lv' := [(2, .int 0), (1, .int 1), (0, .int 0)]) hx hb dX5_place_3 rfl hl9 (by decide) rfl (fun ls hl9 => ?_)
    refine lv_iload_n hx hb dX5_place_4 rfl (lv_at hl9 0 rfl) ?_
    refine lv_iload_n hx hb dX5_place_5 rfl (lv_at hl9 2 rfl) ?_
    refine lv_icmp_ge (tgt := 20) hx hb dX5_place_6 (by decide) (fun _ => ?_) (fun c9 => absurd (by decide) c9)
    refine lv_iload_n hx hb dX5_place_20 rfl (lv_at hl9 1 rfl) ?_
    exact hp_iret (v := 1) B0 hw hS hr ⟨Nat.le_of_ble_eq_true rfl, Nat.le_of_ble_eq_true rfl⟩ dX5_place_21 (⟨⟨_, rfl, by decide⟩, rfl⟩)
  · have hl9 : lv_has ls 3 [(0, .int 1)] := hl9
    refine lv_iconst (v := 1) hx hb dX5_place_0 (by decide) ?_
    refine lv_istore_n (lv' := [(1, .int 1), (0, .int 1)]) hx hb dX5_place_1 rfl hl9 (by decide) rfl (fun ls hl9 => ?_)
    refine lv_iconst (v := 0) hx hb dX5_place_2 (by decide) ?_
    refine lv_istore_n (lv' := [(2, .int 0), (1, .int 1), (0, .int 1)]) hx hb dX5_place_3 rfl hl9 (by decide) rfl (fun ls hl9 => ?_)
    refine lv_iload_n hx hb dX5_place_4 rfl (lv_at hl9 0 rfl) ?_
    refine lv_iload_n hx hb dX5_place_5 rfl (lv_at hl9 2 rfl) ?_
    refine lv_icmp_ge (tgt := 20) hx hb dX5_place_6 (by decide) (fun c9 => absurd c9 (by decide)) (fun _ => ?_)
    refine lv_iload_n hx hb dX5_place_9 rfl (lv_at hl9 1 rfl) ?_
    refine lv_bipush (v := 11) hx hb dX5_place_10 (by decide) ?_
    refine lv_imul hx hb dX5_place_12 ?_
    refine hp_c (v := 11) (by decide) ?_
    refine lv_istore_n (lv' := [(1, .int 11), (2, .int 0), (0, .int 1)]) hx hb dX5_place_13 rfl hl9 (by decide) rfl (fun ls hl9 => ?_)
    refine lv_iinc (v := 1) (lv' := [(2, .int 1), (1, .int 11), (0, .int 1)]) hx hb dX5_place_14 hl9 (k := 1) rfl (by decide) (by decide) rfl (fun ls hl9 => ?_)
    refine lv_goto (tgt := 4) hx hb dX5_place_17 (by decide) ?_
    refine lv_iload_n hx hb dX5_place_4 rfl (lv_at hl9 0 rfl) ?_
    refine lv_iload_n hx hb dX5_place_5 rfl (lv_at hl9 2 rfl) ?_
    refine lv_icmp_ge (tgt := 20) hx hb dX5_place_6 (by decide) (fun _ => ?_) (fun c9 => absurd (by decide) c9)
    refine lv_iload_n hx hb dX5_place_20 rfl (lv_at hl9 1 rfl) ?_
    exact hp_iret (v := 11) B0 hw hS hr ⟨Nat.le_of_ble_eq_true rfl, Nat.le_of_ble_eq_true rfl⟩ dX5_place_21 (⟨⟨_, rfl, by decide⟩, rfl⟩)
  · have hl9 : lv_has ls 3 [(0, .int 2)] := hl9
    refine lv_iconst (v := 1) hx hb dX5_place_0 (by decide) ?_
    refine lv_istore_n (lv' := [(1, .int 1), (0, .int 2)]) hx hb dX5_place_1 rfl hl9 (by decide) rfl (fun ls hl9 => ?_)
    refine lv_iconst (v := 0) hx hb dX5_place_2 (by decide) ?_
    refine lv_istore_n (lv' := [(2, .int 0), (1, .int 1), (0, .int 2)]) hx hb dX5_place_3 rfl hl9 (by decide) rfl (fun ls hl9 => ?_)
    refine lv_iload_n hx hb dX5_place_4 rfl (lv_at hl9 0 rfl) ?_
    refine lv_iload_n hx hb dX5_place_5 rfl (lv_at hl9 2 rfl) ?_
    refine lv_icmp_ge (tgt := 20) hx hb dX5_place_6 (by decide) (fun c9 => absurd c9 (by decide)) (fun _ => ?_)
    refine lv_iload_n hx hb dX5_place_9 rfl (lv_at hl9 1 rfl) ?_
    refine lv_bipush (v := 11) hx hb dX5_place_10 (by decide) ?_
    refine lv_imul hx hb dX5_place_12 ?_
    refine hp_c (v := 11) (by decide) ?_
    refine lv_istore_n (lv' := [(1, .int 11), (2, .int 0), (0, .int 2)]) hx hb dX5_place_13 rfl hl9 (by decide) rfl (fun ls hl9 => ?_)
    refine lv_iinc (v := 1) (lv' := [(2, .int 1), (1, .int 11), (0, .int 2)]) hx hb dX5_place_14 hl9 (k := 1) rfl (by decide) (by decide) rfl (fun ls hl9 => ?_)
    refine lv_goto (tgt := 4) hx hb dX5_place_17 (by decide) ?_
    refine lv_iload_n hx hb dX5_place_4 rfl (lv_at hl9 0 rfl) ?_
    refine lv_iload_n hx hb dX5_place_5 rfl (lv_at hl9 2 rfl) ?_
    refine lv_icmp_ge (tgt := 20) hx hb dX5_place_6 (by decide) (fun c9 => absurd c9 (by decide)) (fun _ => ?_)
    refine lv_iload_n hx hb dX5_place_9 rfl (lv_at hl9 1 rfl) ?_
    refine lv_bipush (v := 11) hx hb dX5_place_10 (by decide) ?_
    refine lv_imul hx hb dX5_place_12 ?_
    refine hp_c (v := 121) (by decide) ?_
    refine lv_istore_n (lv' := [(1, .int 121), (2, .int 1), (0, .int 2)]) hx hb dX5_place_13 rfl hl9 (by decide) rfl (fun ls hl9 => ?_)
    refine lv_iinc (v := 2) (lv' := [(2, .int 2), (1, .int 121), (0, .int 2)]) hx hb dX5_place_14 hl9 (k := 1) rfl (by decide) (by decide) rfl (fun ls hl9 => ?_)
    refine lv_goto (tgt := 4) hx hb dX5_place_17 (by decide) ?_
    refine lv_iload_n hx hb dX5_place_4 rfl (lv_at hl9 0 rfl) ?_
    refine lv_iload_n hx hb dX5_place_5 rfl (lv_at hl9 2 rfl) ?_
    refine lv_icmp_ge (tgt := 20) hx hb dX5_place_6 (by decide) (fun _ => ?_) (fun c9 => absurd (by decide) c9)
    refine lv_iload_n hx hb dX5_place_20 rfl (lv_at hl9 1 rfl) ?_
    exact hp_iret (v := 121) B0 hw hS hr ⟨Nat.le_of_ble_eq_true rfl, Nat.le_of_ble_eq_true rfl⟩ dX5_place_21 (⟨⟨_, rfl, by decide⟩, rfl⟩)
  · have hl9 : lv_has ls 3 [(0, .int 3)] := hl9
    refine lv_iconst (v := 1) hx hb dX5_place_0 (by decide) ?_
    refine lv_istore_n (lv' := [(1, .int 1), (0, .int 3)]) hx hb dX5_place_1 rfl hl9 (by decide) rfl (fun ls hl9 => ?_)
    refine lv_iconst (v := 0) hx hb dX5_place_2 (by decide) ?_
    refine lv_istore_n (lv' := [(2, .int 0), (1, .int 1), (0, .int 3)]) hx hb dX5_place_3 rfl hl9 (by decide) rfl (fun ls hl9 => ?_)
    refine lv_iload_n hx hb dX5_place_4 rfl (lv_at hl9 0 rfl) ?_
    refine lv_iload_n hx hb dX5_place_5 rfl (lv_at hl9 2 rfl) ?_
    refine lv_icmp_ge (tgt := 20) hx hb dX5_place_6 (by decide) (fun c9 => absurd c9 (by decide)) (fun _ => ?_)
    refine lv_iload_n hx hb dX5_place_9 rfl (lv_at hl9 1 rfl) ?_
    refine lv_bipush (v := 11) hx hb dX5_place_10 (by decide) ?_
    refine lv_imul hx hb dX5_place_12 ?_
    refine hp_c (v := 11) (by decide) ?_
    refine lv_istore_n (lv' := [(1, .int 11), (2, .int 0), (0, .int 3)]) hx hb dX5_place_13 rfl hl9 (by decide) rfl (fun ls hl9 => ?_)
    refine lv_iinc (v := 1) (lv' := [(2, .int 1), (1, .int 11), (0, .int 3)]) hx hb dX5_place_14 hl9 (k := 1) rfl (by decide) (by decide) rfl (fun ls hl9 => ?_)
    refine lv_goto (tgt := 4) hx hb dX5_place_17 (by decide) ?_
    refine lv_iload_n hx hb dX5_place_4 rfl (lv_at hl9 0 rfl) ?_
    refine lv_iload_n hx hb dX5_place_5 rfl (lv_at hl9 2 rfl) ?_
    refine lv_icmp_ge (tgt := 20) hx hb dX5_place_6 (by decide) (fun c9 => absurd c9 (by decide)) (fun _ => ?_)
    refine lv_iload_n hx hb dX5_place_9 rfl (lv_at hl9 1 rfl) ?_
    refine lv_bipush (v := 11) hx hb dX5_place_10 (by decide) ?_
    refine lv_imul hx hb dX5_place_12 ?_
    refine hp_c (v := 121) (by decide) ?_
    refine lv_istore_n (lv' := [(1, .int 121), (2, .int 1), (0, .int 3)]) hx hb dX5_place_13 rfl hl9 (by decide) rfl (fun ls hl9 => ?_)
    refine lv_iinc (v := 2) (lv' := [(2, .int 2), (1, .int 121), (0, .int 3)]) hx hb dX5_place_14 hl9 (k := 1) rfl (by decide) (by decide) rfl (fun ls hl9 => ?_)
    refine lv_goto (tgt := 4) hx hb dX5_place_17 (by decide) ?_
    refine lv_iload_n hx hb dX5_place_4 rfl (lv_at hl9 0 rfl) ?_
    refine lv_iload_n hx hb dX5_place_5 rfl (lv_at hl9 2 rfl) ?_
    refine lv_icmp_ge (tgt := 20) hx hb dX5_place_6 (by decide) (fun c9 => absurd c9 (by decide)) (fun _ => ?_)
    refine lv_iload_n hx hb dX5_place_9 rfl (lv_at hl9 1 rfl) ?_
    refine lv_bipush (v := 11) hx hb dX5_place_10 (by decide) ?_
    refine lv_imul hx hb dX5_place_12 ?_
    refine hp_c (v := 1331) (by decide) ?_
    refine lv_istore_n (lv' := [(1, .int 1331), (2, .int 2), (0, .int 3)]) hx hb dX5_place_13 rfl hl9 (by decide) rfl (fun ls hl9 => ?_)
    refine lv_iinc (v := 3) (lv' := [(2, .int 3), (1, .int 1331), (0, .int 3)]) hx hb dX5_place_14 hl9 (k := 1) rfl (by decide) (by decide) rfl (fun ls hl9 => ?_)
    refine lv_goto (tgt := 4) hx hb dX5_place_17 (by decide) ?_
    refine lv_iload_n hx hb dX5_place_4 rfl (lv_at hl9 0 rfl) ?_
    refine lv_iload_n hx hb dX5_place_5 rfl (lv_at hl9 2 rfl) ?_
    refine lv_icmp_ge (tgt := 20) hx hb dX5_place_6 (by decide) (fun _ => ?_) (fun c9 => absurd (by decide) c9)
    refine lv_iload_n hx hb dX5_place_20 rfl (lv_at hl9 1 rfl) ?_
    exact hp_iret (v := 1331) B0 hw hS hr ⟨Nat.le_of_ble_eq_true rfl, Nat.le_of_ble_eq_true rfl⟩ dX5_place_21 (⟨⟨_, rfl, by decide⟩, rfl⟩)
  · have hl9 : lv_has ls 3 [(0, .int 4)] := hl9
    refine lv_iconst (v := 1) hx hb dX5_place_0 (by decide) ?_
    refine lv_istore_n (lv' := [(1, .int 1), (0, .int 4)]) hx hb dX5_place_1 rfl hl9 (by decide) rfl (fun ls hl9 => ?_)
    refine lv_iconst (v := 0) hx hb dX5_place_2 (by decide) ?_
    refine lv_istore_n (lv' := [(2, .int 0), (1, .int 1), (0, .int 4)]) hx hb dX5_place_3 rfl hl9 (by decide) rfl (fun ls hl9 => ?_)
    refine lv_iload_n hx hb dX5_place_4 rfl (lv_at hl9 0 rfl) ?_
    refine lv_iload_n hx hb dX5_place_5 rfl (lv_at hl9 2 rfl) ?_
    refine lv_icmp_ge (tgt := 20) hx hb dX5_place_6 (by decide) (fun c9 => absurd c9 (by decide)) (fun _ => ?_)
    refine lv_iload_n hx hb dX5_place_9 rfl (lv_at hl9 1 rfl) ?_
    refine lv_bipush (v := 11) hx hb dX5_place_10 (by decide) ?_
    refine lv_imul hx hb dX5_place_12 ?_
    refine hp_c (v := 11) (by decide) ?_
    refine lv_istore_n (lv' := [(1, .int 11), (2, .int 0), (0, .int 4)]) hx hb dX5_place_13 rfl hl9 (by decide) rfl (fun ls hl9 => ?_)
    refine lv_iinc (v := 1) (lv' := [(2, .int 1), (1, .int 11), (0, .int 4)]) hx hb dX5_place_14 hl9 (k := 1) rfl (by decide) (by decide) rfl (fun ls hl9 => ?_)
    refine lv_goto (tgt := 4) hx hb dX5_place_17 (by decide) ?_
    refine lv_iload_n hx hb dX5_place_4 rfl (lv_at hl9 0 rfl) ?_
    refine lv_iload_n hx hb dX5_place_5 rfl (lv_at hl9 2 rfl) ?_
    refine lv_icmp_ge (tgt := 20) hx hb dX5_place_6 (by decide) (fun c9 => absurd c9 (by decide)) (fun _ => ?_)
    refine lv_iload_n hx hb dX5_place_9 rfl (lv_at hl9 1 rfl) ?_
    refine lv_bipush (v := 11) hx hb dX5_place_10 (by decide) ?_
    refine lv_imul hx hb dX5_place_12 ?_
    refine hp_c (v := 121) (by decide) ?_
    refine lv_istore_n (lv' := [(1, .int 121), (2, .int 1), (0, .int 4)]) hx hb dX5_place_13 rfl hl9 (by decide) rfl (fun ls hl9 => ?_)
    refine lv_iinc (v := 2) (lv' := [(2, .int 2), (1, .int 121), (0, .int 4)]) hx hb dX5_place_14 hl9 (k := 1) rfl (by decide) (by decide) rfl (fun ls hl9 => ?_)
    refine lv_goto (tgt := 4) hx hb dX5_place_17 (by decide) ?_
    refine lv_iload_n hx hb dX5_place_4 rfl (lv_at hl9 0 rfl) ?_
    refine lv_iload_n hx hb dX5_place_5 rfl (lv_at hl9 2 rfl) ?_
    refine lv_icmp_ge (tgt := 20) hx hb dX5_place_6 (by decide) (fun c9 => absurd c9 (by decide)) (fun _ => ?_)
    refine lv_iload_n hx hb dX5_place_9 rfl (lv_at hl9 1 rfl) ?_
    refine lv_bipush (v := 11) hx hb dX5_place_10 (by decide) ?_
    refine lv_imul hx hb dX5_place_12 ?_
    refine hp_c (v := 1331) (by decide) ?_
    refine lv_istore_n (lv' := [(1, .int 1331), (2, .int 2), (0, .int 4)]) hx hb dX5_place_13 rfl hl9 (by decide) rfl (fun ls hl9 => ?_)
    refine lv_iinc (v := 3) (lv' := [(2, .int 3), (1, .int 1331), (0, .int 4)]) hx hb dX5_place_14 hl9 (k := 1) rfl (by decide) (by decide) rfl (fun ls hl9 => ?_)
    refine lv_goto (tgt := 4) hx hb dX5_place_17 (by decide) ?_
    refine lv_iload_n hx hb dX5_place_4 rfl (lv_at hl9 0 rfl) ?_
    refine lv_iload_n hx hb dX5_place_5 rfl (lv_at hl9 2 rfl) ?_
    refine lv_icmp_ge (tgt := 20) hx hb dX5_place_6 (by decide) (fun c9 => absurd c9 (by decide)) (fun _ => ?_)
    refine lv_iload_n hx hb dX5_place_9 rfl (lv_at hl9 1 rfl) ?_
    refine lv_bipush (v := 11) hx hb dX5_place_10 (by decide) ?_
    refine lv_imul hx hb dX5_place_12 ?_
    refine hp_c (v := 14641) (by decide) ?_
    refine lv_istore_n (lv' := [(1, .int 14641), (2, .int 3), (0, .int 4)]) hx hb dX5_place_13 rfl hl9 (by decide) rfl (fun ls hl9 => ?_)
    refine lv_iinc (v := 4) (lv' := [(2, .int 4), (1, .int 14641), (0, .int 4)]) hx hb dX5_place_14 hl9 (k := 1) rfl (by decide) (by decide) rfl (fun ls hl9 => ?_)
    refine lv_goto (tgt := 4) hx hb dX5_place_17 (by decide) ?_
    refine lv_iload_n hx hb dX5_place_4 rfl (lv_at hl9 0 rfl) ?_
    refine lv_iload_n hx hb dX5_place_5 rfl (lv_at hl9 2 rfl) ?_
    refine lv_icmp_ge (tgt := 20) hx hb dX5_place_6 (by decide) (fun _ => ?_) (fun c9 => absurd (by decide) c9)
    refine lv_iload_n hx hb dX5_place_20 rfl (lv_at hl9 1 rfl) ?_
    exact hp_iret (v := 14641) B0 hw hS hr ⟨Nat.le_of_ble_eq_true rfl, Nat.le_of_ble_eq_true rfl⟩ dX5_place_21 (⟨⟨_, rfl, by decide⟩, rfl⟩)
  · have hl9 : lv_has ls 3 [(0, .int 5)] := hl9
    refine lv_iconst (v := 1) hx hb dX5_place_0 (by decide) ?_
    refine lv_istore_n (lv' := [(1, .int 1), (0, .int 5)]) hx hb dX5_place_1 rfl hl9 (by decide) rfl (fun ls hl9 => ?_)
    refine lv_iconst (v := 0) hx hb dX5_place_2 (by decide) ?_
    refine lv_istore_n (lv' := [(2, .int 0), (1, .int 1), (0, .int 5)]) hx hb dX5_place_3 rfl hl9 (by decide) rfl (fun ls hl9 => ?_)
    refine lv_iload_n hx hb dX5_place_4 rfl (lv_at hl9 0 rfl) ?_
    refine lv_iload_n hx hb dX5_place_5 rfl (lv_at hl9 2 rfl) ?_
    refine lv_icmp_ge (tgt := 20) hx hb dX5_place_6 (by decide) (fun c9 => absurd c9 (by decide)) (fun _ => ?_)
    refine lv_iload_n hx hb dX5_place_9 rfl (lv_at hl9 1 rfl) ?_
    refine lv_bipush (v := 11) hx hb dX5_place_10 (by decide) ?_
    refine lv_imul hx hb dX5_place_12 ?_
    refine hp_c (v := 11) (by decide) ?_
    refine lv_istore_n (lv' := [(1, .int 11), (2, .int 0), (0, .int 5)]) hx hb dX5_place_13 rfl hl9 (by decide) rfl (fun ls hl9 => ?_)
    refine lv_iinc (v := 1) (lv' := [(2, .int 1), (1, .int 11), (0, .int 5)]) hx hb dX5_place_14 hl9 (k := 1) rfl (by decide) (by decide) rfl (fun ls hl9 => ?_)
    refine lv_goto (tgt := 4) hx hb dX5_place_17 (by decide) ?_
    refine lv_iload_n hx hb dX5_place_4 rfl (lv_at hl9 0 rfl) ?_
    refine lv_iload_n hx hb dX5_place_5 rfl (lv_at hl9 2 rfl) ?_
    refine lv_icmp_ge (tgt := 20) hx hb dX5_place_6 (by decide) (fun c9 => absurd c9 (by decide)) (fun _ => ?_)
    refine lv_iload_n hx hb dX5_place_9 rfl (lv_at hl9 1 rfl) ?_
    refine lv_bipush (v := 11) hx hb dX5_place_10 (by decide) ?_
    refine lv_imul hx hb dX5_place_12 ?_
    refine hp_c (v := 121) (by decide) ?_
    refine lv_istore_n (lv' := [(1, .int 121), (2, .int 1), (0, .int 5)]) hx hb dX5_place_13 rfl hl9 (by decide) rfl (fun ls hl9 => ?_)
    refine lv_iinc (v := 2) (lv' := [(2, .int 2), (1, .int 121), (0, .int 5)]) hx hb dX5_place_14 hl9 (k := 1) rfl (by decide) (by decide) rfl (fun ls hl9 => ?_)
    refine lv_goto (tgt := 4) hx hb dX5_place_17 (by decide) ?_
    refine lv_iload_n hx hb dX5_place_4 rfl (lv_at hl9 0 rfl) ?_
    refine lv_iload_n hx hb dX5_place_5 rfl (lv_at hl9 2 rfl) ?_
    refine lv_icmp_ge (tgt := 20) hx hb dX5_place_6 (by decide) (fun c9 => absurd c9 (by decide)) (fun _ => ?_)
    refine lv_iload_n hx hb dX5_place_9 rfl (lv_at hl9 1 rfl) ?_
    refine lv_bipush (v := 11) hx hb dX5_place_10 (by decide) ?_
    refine lv_imul hx hb dX5_place_12 ?_
    refine hp_c (v := 1331) (by decide) ?_
    refine lv_istore_n (lv' := [(1, .int 1331), (2, .int 2), (0, .int 5)]) hx hb dX5_place_13 rfl hl9 (by decide) rfl (fun ls hl9 => ?_)
    refine lv_iinc (v := 3) (lv' := [(2, .int 3), (1, .int 1331), (0, .int 5)]) hx hb dX5_place_14 hl9 (k := 1) rfl (by decide) (by decide) rfl (fun ls hl9 => ?_)
    refine lv_goto (tgt := 4) hx hb dX5_place_17 (by decide) ?_
    refine lv_iload_n hx hb dX5_place_4 rfl (lv_at hl9 0 rfl) ?_
    refine lv_iload_n hx hb dX5_place_5 rfl (lv_at hl9 2 rfl) ?_
    refine lv_icmp_ge (tgt := 20) hx hb dX5_place_6 (by decide) (fun c9 => absurd c9 (by decide)) (fun _ => ?_)
    refine lv_iload_n hx hb dX5_place_9 rfl (lv_at hl9 1 rfl) ?_
    refine lv_bipush (v := 11) hx hb dX5_place_10 (by decide) ?_
    refine lv_imul hx hb dX5_place_12 ?_
    refine hp_c (v := 14641) (by decide) ?_
    refine lv_istore_n (lv' := [(1, .int 14641), (2, .int 3), (0, .int 5)]) hx hb dX5_place_13 rfl hl9 (by decide) rfl (fun ls hl9 => ?_)
    refine lv_iinc (v := 4) (lv' := [(2, .int 4), (1, .int 14641), (0, .int 5)]) hx hb dX5_place_14 hl9 (k := 1) rfl (by decide) (by decide) rfl (fun ls hl9 => ?_)
    refine lv_goto (tgt := 4) hx hb dX5_place_17 (by decide) ?_
    refine lv_iload_n hx hb dX5_place_4 rfl (lv_at hl9 0 rfl) ?_
    refine lv_iload_n hx hb dX5_place_5 rfl (lv_at hl9 2 rfl) ?_
    refine lv_icmp_ge (tgt := 20) hx hb dX5_place_6 (by decide) (fun c9 => absurd c9 (by decide)) (fun _ => ?_)
    refine lv_iload_n hx hb dX5_place_9 rfl (lv_at hl9 1 rfl) ?_
    refine lv_bipush (v := 11) hx hb dX5_place_10 (by decide) ?_
    refine lv_imul hx hb dX5_place_12 ?_
    refine hp_c (v := 161051) (by decide) ?_
    refine lv_istore_n (lv' := [(1, .int 161051), (2, .int 4), (0, .int 5)]) hx hb dX5_place_13 rfl hl9 (by decide) rfl (fun ls hl9 => ?_)
    refine lv_iinc (v := 5) (lv' := [(2, .int 5), (1, .int 161051), (0, .int 5)]) hx hb dX5_place_14 hl9 (k := 1) rfl (by decide) (by decide) rfl (fun ls hl9 => ?_)
    refine lv_goto (tgt := 4) hx hb dX5_place_17 (by decide) ?_
    refine lv_iload_n hx hb dX5_place_4 rfl (lv_at hl9 0 rfl) ?_
    refine lv_iload_n hx hb dX5_place_5 rfl (lv_at hl9 2 rfl) ?_
    refine lv_icmp_ge (tgt := 20) hx hb dX5_place_6 (by decide) (fun _ => ?_) (fun c9 => absurd (by decide) c9)
    refine lv_iload_n hx hb dX5_place_20 rfl (lv_at hl9 1 rfl) ?_
    exact hp_iret (v := 161051) B0 hw hS hr ⟨Nat.le_of_ble_eq_true rfl, Nat.le_of_ble_eq_true rfl⟩ dX5_place_21 (⟨⟨_, rfl, by decide⟩, rfl⟩)

set_option maxHeartbeats 4000000 in
set_option maxRecDepth 100000 in
theorem c_W5_valueIn {l : Launch} (hl : l.stackTraces = false) (G : hG) (f : hM) (q : Int32) (j : Nat) (hj : j < 6) : CT l yX5_valueIn (.code yX5_valueIn cX5_valueIn 2 (some .int)) 1 22 0 0 G [.int q, .int (nI j)] f (fun v f1 => (∃ r : Int32, v = some (.int r)) ∧ f1 = f) (fun E f1 => False) := by
  refine hp_start hl (own := RX5) (by decide) rfl (Nat.le_of_ble_eq_true rfl) ?_
  intro p e s m args below meth c B0 hr hnm hout hw hS ls hl9
  have hx := B0.1
  have hb := B0.2.1
  have hl9 : lv_has ls 2 [(0, .int q), (1, .int (nI j))] := hl9
  refine lv_iload_n hx hb dX5_valueIn_0 rfl (lv_at hl9 0 rfl) ?_
  refine lv_iload_n hx hb dX5_valueIn_1 rfl (lv_at hl9 1 rfl) ?_
  refine hp_S (As := [.int (nI j)]) (rest := [.int q]) B0 hw hS (c_W5_place hl G f j hj) mS_X5_place qM_X5_92 rfl rfl hl9.1 (Nat.le_of_ble_eq_true rfl) ⟨⟨Nat.le_of_ble_eq_true rfl, Nat.le_of_ble_eq_true rfl⟩, Nat.le_of_ble_eq_true rfl, Nat.le_of_ble_eq_true rfl⟩ dX5_valueIn_2 (fun E ce q9 f1 H locs hPX hw hS hce hcv hcl => ?_) (fun v f1 H locs hP hw hS => ?_)
  · exact hPX.elim
  · obtain ⟨⟨r2, ev9, h3⟩, ef9⟩ := hP
    rw [ef9] at hw
    subst ev9
    refine W.eq (g2 := F0 m 5 ls [.int r2, .int q]) rfl ?_
    refine lv_idiv hx hb dX5_valueIn_5 (h3) ?_
    refine lv_bipush (v := 11) hx hb dX5_valueIn_6 (by decide) ?_
    refine lv_irem hx hb dX5_valueIn_8 (by decide) ?_
    refine lv_iconst (v := 1) hx hb dX5_valueIn_9 (by decide) ?_
    refine lv_isub hx hb dX5_valueIn_10 ?_
    exact hp_iret (v := (((q / r2) - (q / r2) / 11 * 11) - 1)) B0 hw hS hr ⟨Nat.le_of_ble_eq_true rfl, Nat.le_of_ble_eq_true rfl⟩ dX5_valueIn_11 (⟨⟨_, rfl⟩, rfl⟩)

set_option maxHeartbeats 4000000 in
set_option maxRecDepth 100000 in
theorem c_W5_lowest {l : Launch} (hl : l.stackTraces = false) (G : hG) (f : hM) (z : Int32) (hq1 : sA z) (hq0 : ¬ z = 0) : CT l yX5_lowest (.code yX5_lowest cX5_lowest 2 (some .int)) 0 0 0 0 G [.int z] f (fun v f1 => (∃ r : Int32, v = some (.int r)) ∧ f1 = f) (fun E f1 => False) := by
  refine hp_start hl (own := RX5) (by decide) rfl (Nat.le_of_ble_eq_true rfl) ?_
  intro p e s m args below meth c B0 hr hnm hout hw hS ls hl9
  have hx := B0.1
  have hb := B0.2.1
  have hl9 : lv_has ls 2 [(0, .int z)] := hl9
  obtain ⟨n9, hn9, en9⟩ := nI_of2 (x := z) (M := 1023) (n := 1023) rfl (by have h1 := hq1.1; simp only [jlt, jle, tq0, tq1, tq2, tq3, tq4, tq5, tq6, tq9, tq50, tq60, tq1023, tqm1]; omega) (by have h1 := hq1.2; simp only [jlt, jle, tq0, tq1, tq2, tq3, tq4, tq5, tq6, tq9, tq50, tq60, tq1023, tqm1]; omega)
  subst en9
  obtain ⟨v9, hv9, hb9⟩ := low_ex n9 (by omega) (fun h9 => hq0 (by rw [h9]; rfl))
  refine lv_iconst (v := 0) hx hb dX5_lowest_0 (by decide) ?_
  refine lv_istore_n (lv' := [(1, .int 0), (0, .int (nI n9))]) hx hb dX5_lowest_1 rfl hl9 (by decide) rfl (fun ls hl9 => ?_)
  refine hp_for (nL := 2) (pc := 2) (fun j f9 lv9 => f9 = f ∧ (∀ i, i < j → (nI n9 >>> (nI i &&& 31)) &&& 1 = 0) ∧ lv9 = [(1, .int (nI j)), (0, .int (nI n9))]) 10 (fun j f9 lv9 H locs ls hj hI hw hS hl9 ih => ?_) (fun f9 lv9 H locs ls hI hw hS hl9 => ?_) 10 0 (by decide) f _ _ _ ls ⟨rfl, (fun i hi => absurd hi (Nat.not_lt_zero _)), rfl⟩ hw hS (lv_sub hl9 [0, 1] rfl)
  · obtain ⟨ef9, hz9, el9⟩ := hI
    rw [ef9] at hw
    rw [el9] at hl9
    refine lv_iload_n hx hb dX5_lowest_2 rfl (lv_at hl9 1 rfl) ?_
    refine lv_iload_n hx hb dX5_lowest_3 rfl (lv_at hl9 0 rfl) ?_
    refine lv_ishr hx hb dX5_lowest_4 ?_
    refine lv_iconst (v := 1) hx hb dX5_lowest_5 (by decide) ?_
    refine lv_iand hx hb dX5_lowest_6 ?_
    refine lv_if_ne (tgt := 16) hx hb dX5_lowest_7 (by decide) (fun c1 => ?_) (fun c1 => ?_)
    · refine lv_iload_n hx hb dX5_lowest_16 rfl (lv_at hl9 0 rfl) ?_
      exact hp_iret (v := (nI j)) B0 hw hS hr ⟨Nat.le_of_ble_eq_true rfl, Nat.le_of_ble_eq_true rfl⟩ dX5_lowest_17 (⟨⟨_, rfl⟩, rfl⟩)
    · refine lv_iinc (v := (nI (j + 1))) (lv' := [(1, .int (nI (j + 1))), (0, .int (nI n9))]) hx hb dX5_lowest_10 hl9 (k := 0) rfl (nI_1 j) (by decide) rfl (fun ls hl9 => ?_)
      refine lv_goto (tgt := 2) hx hb dX5_lowest_13 (by decide) ?_
      exact ih _ _ H locs ls ⟨rfl, (fun i hi => (Nat.lt_or_eq_of_le (Nat.le_of_lt_succ hi)).elim (fun h9 => hz9 i h9) (fun h9 => by rw [h9]; exact c1)), rfl⟩ hw hS (lv_sub hl9 [0, 1] rfl)
  · exact absurd (hI.2.1 v9 hv9) hb9

set_option maxHeartbeats 4000000 in
set_option maxRecDepth 100000 in
theorem c_W5_sends {l : Launch} (hl : l.stackTraces = false) (G : hG) (f : hM) (mo dW dA dQ dM dS dL dR dT dZ dI dH dN dK dJ dU dO dF dP dE dX dY dG : Nat) (vth vpk vpc vnx vgv : Int32) (k_mo : f mo = some (.inr (5, [.int vth, .ref dW, .ref dA, .ref dQ, .ref dM, .ref dS, .ref dL, .ref dR, .ref dT, .ref dZ, .ref dI, .ref dH, .ref dN, .ref dK, .ref dJ, .ref dU, .ref dO, .int vpk, .int vpc, .ref dF, .ref dP, .ref dE, .ref dX, .ref dY, .int vnx, .int vgv, .ref dG]))) (hND : ND5 dW dA dQ dM dS dL dR dT dZ dI dH dN dK dJ dU dO dF dP dE dX dY dG) (gM gA : Nat → Int32) (k_dM : f dM = some (.inl (cI G, 2, .inl gM))) (k_dA : f dA = some (.inl (cI G, 12, .inl gA))) (hSA : ∀ j, j < 12 → sA (gA j)) (B : Nat) (hLM : LM G f dQ dS dL dR dT dZ dI dH dN dK dJ dU dO B) (hBB : B + 0 < 100000) (ee k i o : Int32) (he : sE ee) : CT l yX5_sends (.code yX5_sends cX5_sends 6 none) 0 0 0 0 G [.ref mo, .int ee, .int k, .int i, .int o] f (fun v f1 => v = none ∧ LM G f1 dQ dS dL dR dT dZ dI dH dN dK dJ dU dO (B + 1) ∧ hEq [dQ, dS, dL, dR, dT, dZ, dI, dH, dN, dK, dJ, dU, dO] f f1) (fun E f1 => False) := by
  refine hp_start hl (own := RX5) (by decide) rfl (Nat.le_of_ble_eq_true rfl) ?_
  intro p e s m args below meth c B0 hr hnm hout hw hS ls hl9
  have hx := B0.1
  have hb := B0.2.1
  have hl9 : lv_has ls 6 [(0, .ref mo), (1, .int ee), (2, .int k), (3, .int i), (4, .int o)] := hl9
  obtain ⟨nd_dW_dA, nd_dW_dQ, nd_dA_dQ, nd_dM_dS, nd_dM_dL, nd_dM_dR, nd_dM_dT, nd_dM_dZ, nd_dM_dI, nd_dM_dH, nd_dM_dN, nd_dS_dL, nd_dS_dR, nd_dS_dT, nd_dS_dZ, nd_dS_dI, nd_dS_dH, nd_dS_dN, nd_dL_dR, nd_dL_dT, nd_dL_dZ, nd_dL_dI, nd_dL_dH, nd_dL_dN, nd_dR_dT, nd_dR_dZ, nd_dR_dI, nd_dR_dH, nd_dR_dN, nd_dT_dZ, nd_dT_dI, nd_dT_dH, nd_dT_dN, nd_dZ_dI, nd_dZ_dH, nd_dZ_dN, nd_dI_dH, nd_dI_dN, nd_dH_dN, nd_dK_dJ, nd_dK_dU, nd_dK_dO, nd_dJ_dU, nd_dJ_dO, nd_dU_dO, nd_dP_dE, nd_dX_dY⟩ := id hND
  obtain ⟨gQ, gS, gL, gR, gT, gZ, gI, gH, gN, gK, gJ, gU, gO, k_dQ, k_dS, k_dL, k_dR, k_dT, k_dZ, k_dI, k_dH, k_dN, k_dK, k_dJ, k_dU, k_dO, hHd9, hMn9⟩ := id hLM
  rcases he with rfl | rfl
  · refine lv_sipush (v := 1024) hx hb dX5_sends_0 (by decide) ?_
    obtain ⟨h0, hh0, lh0⟩ := hHd9 0 (by decide)
    obtain ⟨k0, kk0, lk0⟩ := hMn9 0 (by decide)
    refine lv_iload_n hx hb dX5_sends_3 rfl (lv_at hl9 1 rfl) ?_
    refine lv_imul hx hb dX5_sends_4 ?_
    refine hp_c (v := 0) (by decide) ?_
    refine lv_aload_n hx hb dX5_sends_5 rfl (lv_at hl9 0 rfl) ?_
    refine hp_get B0 hw 5 rfl in_X5 k_mo 11 (by decide) qF_X5_41 rfl dX5_sends_6 ?_
    refine lv_iload_n hx hb dX5_sends_9 rfl (lv_at hl9 1 rfl) ?_
    refine hp_iald B0 hw k_dH (by unfold vp_in; decide) dX5_sends_10 ?_
    refine hp_c (v := (nI h0)) (hh0) ?_
    refine lv_aload_n hx hb dX5_sends_11 rfl (lv_at hl9 0 rfl) ?_
    refine hp_get B0 hw 5 rfl in_X5 k_mo 12 (by decide) qF_X5_44 rfl dX5_sends_12 ?_
    refine lv_iload_n hx hb dX5_sends_15 rfl (lv_at hl9 1 rfl) ?_
    refine hp_iald B0 hw k_dN (by unfold vp_in; decide) dX5_sends_16 ?_
    refine hp_c (v := (nI k0)) (kk0) ?_
    refine lv_iadd hx hb dX5_sends_17 ?_
    refine hp_c (v := (nI (h0 + k0))) (nI_add h0 k0) ?_
    refine lv_sipush (v := 1024) hx hb dX5_sends_18 (by decide) ?_
    refine lv_irem hx hb dX5_sends_21 (by decide) ?_
    refine hp_c (v := (nI ((h0 + k0) % 1024))) (pk_rem (a := h0 + k0) (d := 1024) (by omega) (by decide) (by decide)) ?_
    refine lv_iadd hx hb dX5_sends_22 ?_
    refine hp_c (v := (nI ((h0 + k0) % 1024))) (Int32.zero_add _) ?_
    refine lv_istore (lv' := [(5, .int (nI ((h0 + k0) % 1024))), (0, .ref mo), (1, .int 0), (2, .int k), (3, .int i), (4, .int o)]) hx hb dX5_sends_23 hl9 (by decide) rfl (fun ls hl9 => ?_)
    refine lv_aload_n hx hb dX5_sends_25 rfl (lv_at hl9 1 rfl) ?_
    refine hp_get B0 hw 5 rfl in_X5 k_mo 13 (by decide) qF_X5_47 rfl dX5_sends_26 ?_
    refine lv_iload hx hb dX5_sends_29 (lv_at hl9 0 rfl) ?_
    refine lv_iload_n hx hb dX5_sends_31 rfl (lv_at hl9 3 rfl) ?_
    refine hp_iast B0 hw hS k_dK (vp_in_nI (show ((h0 + k0) % 1024) < 2048 by omega) (by decide)) dX5_sends_32 (fun H locs f1 ef1 hw hS => ?_)
    have h2 : f1 dK = some (.inl (cI G, 2048, .inl (upd gK ((nI ((h0 + k0) % 1024)) : Int32).toNatClampNeg k))) := by rw [ef1, va_up_self]
    refine lv_aload_n hx hb dX5_sends_33 rfl (lv_at hl9 1 rfl) ?_
    have n4 : mo ≠ dK := hne k_mo k_dK (Nat.ne_of_beq_eq_false rfl)
    have h3 : f1 mo = some (.inr (5, [.int vth, .ref dW, .ref dA, .ref dQ, .ref dM, .ref dS, .ref dL, .ref dR, .ref dT, .ref dZ, .ref dI, .ref dH, .ref dN, .ref dK, .ref dJ, .ref dU, .ref dO, .int vpk, .int vpc, .ref dF, .ref dP, .ref dE, .ref dX, .ref dY, .int vnx, .int vgv, .ref dG])) := by rw [ef1, va_up_ne _ _ n4]; exact k_mo
    refine hp_get B0 hw 5 rfl in_X5 h3 14 (by decide) qF_X5_50 rfl dX5_sends_34 ?_
    refine lv_iload hx hb dX5_sends_37 (lv_at hl9 0 rfl) ?_
    refine lv_iload_n hx hb dX5_sends_39 rfl (lv_at hl9 4 rfl) ?_
    have h5 : f1 dJ = some (.inl (cI G, 2048, .inl gJ)) := by rw [ef1, va_up_ne _ _ (Ne.symm nd_dK_dJ)]; exact k_dJ
    refine hp_iast B0 hw hS h5 (vp_in_nI (show ((h0 + k0) % 1024) < 2048 by omega) (by decide)) dX5_sends_40 (fun H locs f6 ef6 hw hS => ?_)
    have h7 : f6 dJ = some (.inl (cI G, 2048, .inl (upd gJ ((nI ((h0 + k0) % 1024)) : Int32).toNatClampNeg i))) := by rw [ef6, va_up_self]
    refine lv_aload_n hx hb dX5_sends_41 rfl (lv_at hl9 1 rfl) ?_
    have n9 : mo ≠ dJ := hne k_mo k_dJ (Nat.ne_of_beq_eq_false rfl)
    have h8 : f6 mo = some (.inr (5, [.int vth, .ref dW, .ref dA, .ref dQ, .ref dM, .ref dS, .ref dL, .ref dR, .ref dT, .ref dZ, .ref dI, .ref dH, .ref dN, .ref dK, .ref dJ, .ref dU, .ref dO, .int vpk, .int vpc, .ref dF, .ref dP, .ref dE, .ref dX, .ref dY, .int vnx, .int vgv, .ref dG])) := by rw [ef6, va_up_ne _ _ n9]; exact h3
    refine hp_get B0 hw 5 rfl in_X5 h8 15 (by decide) qF_X5_53 rfl dX5_sends_42 ?_
    refine lv_iload hx hb dX5_sends_45 (lv_at hl9 0 rfl) ?_
    refine lv_aload_n hx hb dX5_sends_47 rfl (lv_at hl9 1 rfl) ?_
    refine hp_get B0 hw 5 rfl in_X5 h8 4 (by decide) qF_X5_19 rfl dX5_sends_48 ?_
    refine lv_iload_n hx hb dX5_sends_51 rfl (lv_at hl9 2 rfl) ?_
    have n11 : dM ≠ dK := hneL k_dM k_dK (Nat.ne_of_beq_eq_false rfl)
    have h10 : f1 dM = some (.inl (cI G, 2, .inl gM)) := by rw [ef1, va_up_ne _ _ n11]; exact k_dM
    have n13 : dM ≠ dJ := hneL k_dM k_dJ (Nat.ne_of_beq_eq_false rfl)
    have h12 : f6 dM = some (.inl (cI G, 2, .inl gM)) := by rw [ef6, va_up_ne _ _ n13]; exact h10
    refine hp_iald B0 hw h12 (by unfold vp_in; decide) dX5_sends_52 ?_
    have h14 : f1 dU = some (.inl (cI G, 2048, .inl gU)) := by rw [ef1, va_up_ne _ _ (Ne.symm nd_dK_dU)]; exact k_dU
    have h15 : f6 dU = some (.inl (cI G, 2048, .inl gU)) := by rw [ef6, va_up_ne _ _ (Ne.symm nd_dJ_dU)]; exact h14
    refine hp_iast B0 hw hS h15 (vp_in_nI (show ((h0 + k0) % 1024) < 2048 by omega) (by decide)) dX5_sends_53 (fun H locs f16 ef16 hw hS => ?_)
    have h17 : f16 dU = some (.inl (cI G, 2048, .inl (upd gU ((nI ((h0 + k0) % 1024)) : Int32).toNatClampNeg (gM (0 : Int32).toNatClampNeg)))) := by rw [ef16, va_up_self]
    refine lv_aload_n hx hb dX5_sends_54 rfl (lv_at hl9 1 rfl) ?_
    have n19 : mo ≠ dU := hne k_mo k_dU (Nat.ne_of_beq_eq_false rfl)
    have h18 : f16 mo = some (.inr (5, [.int vth, .ref dW, .ref dA, .ref dQ, .ref dM, .ref dS, .ref dL, .ref dR, .ref dT, .ref dZ, .ref dI, .ref dH, .ref dN, .ref dK, .ref dJ, .ref dU, .ref dO, .int vpk, .int vpc, .ref dF, .ref dP, .ref dE, .ref dX, .ref dY, .int vnx, .int vgv, .ref dG])) := by rw [ef16, va_up_ne _ _ n19]; exact h8
    refine hp_get B0 hw 5 rfl in_X5 h18 16 (by decide) qF_X5_56 rfl dX5_sends_55 ?_
    refine lv_iload hx hb dX5_sends_58 (lv_at hl9 0 rfl) ?_
    refine lv_iload hx hb dX5_sends_60 (lv_at hl9 5 rfl) ?_
    have h20 : f1 dO = some (.inl (cI G, 2048, .inl gO)) := by rw [ef1, va_up_ne _ _ (Ne.symm nd_dK_dO)]; exact k_dO
    have h21 : f6 dO = some (.inl (cI G, 2048, .inl gO)) := by rw [ef6, va_up_ne _ _ (Ne.symm nd_dJ_dO)]; exact h20
    have h22 : f16 dO = some (.inl (cI G, 2048, .inl gO)) := by rw [ef16, va_up_ne _ _ (Ne.symm nd_dU_dO)]; exact h21
    refine hp_iast B0 hw hS h22 (vp_in_nI (show ((h0 + k0) % 1024) < 2048 by omega) (by decide)) dX5_sends_62 (fun H locs f23 ef23 hw hS => ?_)
    have h24 : f23 dO = some (.inl (cI G, 2048, .inl (upd gO ((nI ((h0 + k0) % 1024)) : Int32).toNatClampNeg o))) := by rw [ef23, va_up_self]
    refine lv_aload_n hx hb dX5_sends_63 rfl (lv_at hl9 1 rfl) ?_
    have n26 : mo ≠ dO := hne k_mo k_dO (Nat.ne_of_beq_eq_false rfl)
    have h25 : f23 mo = some (.inr (5, [.int vth, .ref dW, .ref dA, .ref dQ, .ref dM, .ref dS, .ref dL, .ref dR, .ref dT, .ref dZ, .ref dI, .ref dH, .ref dN, .ref dK, .ref dJ, .ref dU, .ref dO, .int vpk, .int vpc, .ref dF, .ref dP, .ref dE, .ref dX, .ref dY, .int vnx, .int vgv, .ref dG])) := by rw [ef23, va_up_ne _ _ n26]; exact h18
    refine hp_get B0 hw 5 rfl in_X5 h25 12 (by decide) qF_X5_44 rfl dX5_sends_64 ?_
    refine lv_iload_n hx hb dX5_sends_67 rfl (lv_at hl9 2 rfl) ?_
    refine lv_dup2_11 hx hb dX5_sends_68 rfl rfl ?_
    have n28 : dN ≠ dK := hneL k_dN k_dK (Nat.ne_of_beq_eq_false rfl)
    have h27 : f1 dN = some (.inl (cI G, 2, .inl gN)) := by rw [ef1, va_up_ne _ _ n28]; exact k_dN
    have n30 : dN ≠ dJ := hneL k_dN k_dJ (Nat.ne_of_beq_eq_false rfl)
    have h29 : f6 dN = some (.inl (cI G, 2, .inl gN)) := by rw [ef6, va_up_ne _ _ n30]; exact h27
    have n32 : dN ≠ dU := hneL k_dN k_dU (Nat.ne_of_beq_eq_false rfl)
    have h31 : f16 dN = some (.inl (cI G, 2, .inl gN)) := by rw [ef16, va_up_ne _ _ n32]; exact h29
    have n34 : dN ≠ dO := hneL k_dN k_dO (Nat.ne_of_beq_eq_false rfl)
    have h33 : f23 dN = some (.inl (cI G, 2, .inl gN)) := by rw [ef23, va_up_ne _ _ n34]; exact h31
    refine hp_iald B0 hw h33 (by unfold vp_in; decide) dX5_sends_69 ?_
    refine hp_c (v := (nI k0)) (kk0) ?_
    refine lv_iconst (v := 1) hx hb dX5_sends_70 (by decide) ?_
    refine lv_iadd hx hb dX5_sends_71 ?_
    refine hp_c (v := (nI (k0 + 1))) (nI_1 k0) ?_
    refine hp_iast B0 hw hS h33 (by unfold vp_in; decide) dX5_sends_72 (fun H locs f35 ef35 hw hS => ?_)
    have h36 : f35 dN = some (.inl (cI G, 2, .inl (upd gN (0 : Int32).toNatClampNeg (nI (k0 + 1))))) := by rw [ef35, va_up_self]
    have n38 : dQ ≠ dK := hneL k_dQ k_dK (Nat.ne_of_beq_eq_false rfl)
    have h37 : f1 dQ = some (.inl (cI G, 12, .inl gQ)) := by rw [ef1, va_up_ne _ _ n38]; exact k_dQ
    have n40 : dQ ≠ dJ := hneL k_dQ k_dJ (Nat.ne_of_beq_eq_false rfl)
    have h39 : f6 dQ = some (.inl (cI G, 12, .inl gQ)) := by rw [ef6, va_up_ne _ _ n40]; exact h37
    have n42 : dQ ≠ dU := hneL k_dQ k_dU (Nat.ne_of_beq_eq_false rfl)
    have h41 : f16 dQ = some (.inl (cI G, 12, .inl gQ)) := by rw [ef16, va_up_ne _ _ n42]; exact h39
    have n44 : dQ ≠ dO := hneL k_dQ k_dO (Nat.ne_of_beq_eq_false rfl)
    have h43 : f23 dQ = some (.inl (cI G, 12, .inl gQ)) := by rw [ef23, va_up_ne _ _ n44]; exact h41
    have n46 : dQ ≠ dN := hneL k_dQ k_dN (Nat.ne_of_beq_eq_false rfl)
    have h45 : f35 dQ = some (.inl (cI G, 12, .inl gQ)) := by rw [ef35, va_up_ne _ _ n46]; exact h43
    have n48 : dS ≠ dK := hneL k_dS k_dK (Nat.ne_of_beq_eq_false rfl)
    have h47 : f1 dS = some (.inl (cI G, 2, .inl gS)) := by rw [ef1, va_up_ne _ _ n48]; exact k_dS
    have n50 : dS ≠ dJ := hneL k_dS k_dJ (Nat.ne_of_beq_eq_false rfl)
    have h49 : f6 dS = some (.inl (cI G, 2, .inl gS)) := by rw [ef6, va_up_ne _ _ n50]; exact h47
    have n52 : dS ≠ dU := hneL k_dS k_dU (Nat.ne_of_beq_eq_false rfl)
    have h51 : f16 dS = some (.inl (cI G, 2, .inl gS)) := by rw [ef16, va_up_ne _ _ n52]; exact h49
    have n54 : dS ≠ dO := hneL k_dS k_dO (Nat.ne_of_beq_eq_false rfl)
    have h53 : f23 dS = some (.inl (cI G, 2, .inl gS)) := by rw [ef23, va_up_ne _ _ n54]; exact h51
    have h55 : f35 dS = some (.inl (cI G, 2, .inl gS)) := by rw [ef35, va_up_ne _ _ nd_dS_dN]; exact h53
    have n57 : dL ≠ dK := hneL k_dL k_dK (Nat.ne_of_beq_eq_false rfl)
    have h56 : f1 dL = some (.inl (cI G, 2, .inl gL)) := by rw [ef1, va_up_ne _ _ n57]; exact k_dL
    have n59 : dL ≠ dJ := hneL k_dL k_dJ (Nat.ne_of_beq_eq_false rfl)
    have h58 : f6 dL = some (.inl (cI G, 2, .inl gL)) := by rw [ef6, va_up_ne _ _ n59]; exact h56
    have n61 : dL ≠ dU := hneL k_dL k_dU (Nat.ne_of_beq_eq_false rfl)
    have h60 : f16 dL = some (.inl (cI G, 2, .inl gL)) := by rw [ef16, va_up_ne _ _ n61]; exact h58
    have n63 : dL ≠ dO := hneL k_dL k_dO (Nat.ne_of_beq_eq_false rfl)
    have h62 : f23 dL = some (.inl (cI G, 2, .inl gL)) := by rw [ef23, va_up_ne _ _ n63]; exact h60
    have h64 : f35 dL = some (.inl (cI G, 2, .inl gL)) := by rw [ef35, va_up_ne _ _ nd_dL_dN]; exact h62
    have n66 : dR ≠ dK := hneL k_dR k_dK (Nat.ne_of_beq_eq_false rfl)
    have h65 : f1 dR = some (.inl (cI G, 2, .inl gR)) := by rw [ef1, va_up_ne _ _ n66]; exact k_dR
    have n68 : dR ≠ dJ := hneL k_dR k_dJ (Nat.ne_of_beq_eq_false rfl)
    have h67 : f6 dR = some (.inl (cI G, 2, .inl gR)) := by rw [ef6, va_up_ne _ _ n68]; exact h65
    have n70 : dR ≠ dU := hneL k_dR k_dU (Nat.ne_of_beq_eq_false rfl)
    have h69 : f16 dR = some (.inl (cI G, 2, .inl gR)) := by rw [ef16, va_up_ne _ _ n70]; exact h67
    have n72 : dR ≠ dO := hneL k_dR k_dO (Nat.ne_of_beq_eq_false rfl)
    have h71 : f23 dR = some (.inl (cI G, 2, .inl gR)) := by rw [ef23, va_up_ne _ _ n72]; exact h69
    have h73 : f35 dR = some (.inl (cI G, 2, .inl gR)) := by rw [ef35, va_up_ne _ _ nd_dR_dN]; exact h71
    have n75 : dT ≠ dK := hneL k_dT k_dK (Nat.ne_of_beq_eq_false rfl)
    have h74 : f1 dT = some (.inl (cI G, 2, .inl gT)) := by rw [ef1, va_up_ne _ _ n75]; exact k_dT
    have n77 : dT ≠ dJ := hneL k_dT k_dJ (Nat.ne_of_beq_eq_false rfl)
    have h76 : f6 dT = some (.inl (cI G, 2, .inl gT)) := by rw [ef6, va_up_ne _ _ n77]; exact h74
    have n79 : dT ≠ dU := hneL k_dT k_dU (Nat.ne_of_beq_eq_false rfl)
    have h78 : f16 dT = some (.inl (cI G, 2, .inl gT)) := by rw [ef16, va_up_ne _ _ n79]; exact h76
    have n81 : dT ≠ dO := hneL k_dT k_dO (Nat.ne_of_beq_eq_false rfl)
    have h80 : f23 dT = some (.inl (cI G, 2, .inl gT)) := by rw [ef23, va_up_ne _ _ n81]; exact h78
    have h82 : f35 dT = some (.inl (cI G, 2, .inl gT)) := by rw [ef35, va_up_ne _ _ nd_dT_dN]; exact h80
    have n84 : dZ ≠ dK := hneL k_dZ k_dK (Nat.ne_of_beq_eq_false rfl)
    have h83 : f1 dZ = some (.inl (cZ G, 2, .inl gZ)) := by rw [ef1, va_up_ne _ _ n84]; exact k_dZ
    have n86 : dZ ≠ dJ := hneL k_dZ k_dJ (Nat.ne_of_beq_eq_false rfl)
    have h85 : f6 dZ = some (.inl (cZ G, 2, .inl gZ)) := by rw [ef6, va_up_ne _ _ n86]; exact h83
    have n88 : dZ ≠ dU := hneL k_dZ k_dU (Nat.ne_of_beq_eq_false rfl)
    have h87 : f16 dZ = some (.inl (cZ G, 2, .inl gZ)) := by rw [ef16, va_up_ne _ _ n88]; exact h85
    have n90 : dZ ≠ dO := hneL k_dZ k_dO (Nat.ne_of_beq_eq_false rfl)
    have h89 : f23 dZ = some (.inl (cZ G, 2, .inl gZ)) := by rw [ef23, va_up_ne _ _ n90]; exact h87
    have h91 : f35 dZ = some (.inl (cZ G, 2, .inl gZ)) := by rw [ef35, va_up_ne _ _ nd_dZ_dN]; exact h89
    have n93 : dI ≠ dK := hneL k_dI k_dK (Nat.ne_of_beq_eq_false rfl)
    have h92 : f1 dI = some (.inl (cI G, 2, .inl gI)) := by rw [ef1, va_up_ne _ _ n93]; exact k_dI
    have n95 : dI ≠ dJ := hneL k_dI k_dJ (Nat.ne_of_beq_eq_false rfl)
    have h94 : f6 dI = some (.inl (cI G, 2, .inl gI)) := by rw [ef6, va_up_ne _ _ n95]; exact h92
    have n97 : dI ≠ dU := hneL k_dI k_dU (Nat.ne_of_beq_eq_false rfl)
    have h96 : f16 dI = some (.inl (cI G, 2, .inl gI)) := by rw [ef16, va_up_ne _ _ n97]; exact h94
    have n99 : dI ≠ dO := hneL k_dI k_dO (Nat.ne_of_beq_eq_false rfl)
    have h98 : f23 dI = some (.inl (cI G, 2, .inl gI)) := by rw [ef23, va_up_ne _ _ n99]; exact h96
    have h100 : f35 dI = some (.inl (cI G, 2, .inl gI)) := by rw [ef35, va_up_ne _ _ nd_dI_dN]; exact h98
    have n102 : dH ≠ dK := hneL k_dH k_dK (Nat.ne_of_beq_eq_false rfl)
    have h101 : f1 dH = some (.inl (cI G, 2, .inl gH)) := by rw [ef1, va_up_ne _ _ n102]; exact k_dH
    have n104 : dH ≠ dJ := hneL k_dH k_dJ (Nat.ne_of_beq_eq_false rfl)
    have h103 : f6 dH = some (.inl (cI G, 2, .inl gH)) := by rw [ef6, va_up_ne _ _ n104]; exact h101
    have n106 : dH ≠ dU := hneL k_dH k_dU (Nat.ne_of_beq_eq_false rfl)
    have h105 : f16 dH = some (.inl (cI G, 2, .inl gH)) := by rw [ef16, va_up_ne _ _ n106]; exact h103
    have n108 : dH ≠ dO := hneL k_dH k_dO (Nat.ne_of_beq_eq_false rfl)
    have h107 : f23 dH = some (.inl (cI G, 2, .inl gH)) := by rw [ef23, va_up_ne _ _ n108]; exact h105
    have h109 : f35 dH = some (.inl (cI G, 2, .inl gH)) := by rw [ef35, va_up_ne _ _ nd_dH_dN]; exact h107
    have h110 : f6 dK = some (.inl (cI G, 2048, .inl (upd gK ((nI ((h0 + k0) % 1024)) : Int32).toNatClampNeg k))) := by rw [ef6, va_up_ne _ _ nd_dK_dJ]; exact h2
    have h111 : f16 dK = some (.inl (cI G, 2048, .inl (upd gK ((nI ((h0 + k0) % 1024)) : Int32).toNatClampNeg k))) := by rw [ef16, va_up_ne _ _ nd_dK_dU]; exact h110
    have h112 : f23 dK = some (.inl (cI G, 2048, .inl (upd gK ((nI ((h0 + k0) % 1024)) : Int32).toNatClampNeg k))) := by rw [ef23, va_up_ne _ _ nd_dK_dO]; exact h111
    have h113 : f35 dK = some (.inl (cI G, 2048, .inl (upd gK ((nI ((h0 + k0) % 1024)) : Int32).toNatClampNeg k))) := by rw [ef35, va_up_ne _ _ (Ne.symm n28)]; exact h112
    have h114 : f16 dJ = some (.inl (cI G, 2048, .inl (upd gJ ((nI ((h0 + k0) % 1024)) : Int32).toNatClampNeg i))) := by rw [ef16, va_up_ne _ _ nd_dJ_dU]; exact h7
    have h115 : f23 dJ = some (.inl (cI G, 2048, .inl (upd gJ ((nI ((h0 + k0) % 1024)) : Int32).toNatClampNeg i))) := by rw [ef23, va_up_ne _ _ nd_dJ_dO]; exact h114
    have h116 : f35 dJ = some (.inl (cI G, 2048, .inl (upd gJ ((nI ((h0 + k0) % 1024)) : Int32).toNatClampNeg i))) := by rw [ef35, va_up_ne _ _ (Ne.symm n30)]; exact h115
    have h117 : f23 dU = some (.inl (cI G, 2048, .inl (upd gU ((nI ((h0 + k0) % 1024)) : Int32).toNatClampNeg (gM (0 : Int32).toNatClampNeg)))) := by rw [ef23, va_up_ne _ _ nd_dU_dO]; exact h17
    have h118 : f35 dU = some (.inl (cI G, 2048, .inl (upd gU ((nI ((h0 + k0) % 1024)) : Int32).toNatClampNeg (gM (0 : Int32).toNatClampNeg)))) := by rw [ef35, va_up_ne _ _ (Ne.symm n32)]; exact h117
    have h119 : f35 dO = some (.inl (cI G, 2048, .inl (upd gO ((nI ((h0 + k0) % 1024)) : Int32).toNatClampNeg o))) := by rw [ef35, va_up_ne _ _ (Ne.symm n34)]; exact h24
    exact hp_vret B0 hw hS hr ⟨Nat.le_of_ble_eq_true rfl, Nat.le_of_ble_eq_true rfl⟩ dX5_sends_73 (⟨rfl, ⟨_, _, _, _, _, _, _, _, _, _, _, _, _, h45, h55, h64, h73, h82, h91, h100, h109, h36, h113, h116, h118, h119, hHd9, (hMn.mono (hMn.up (B1 := B + 1) hMn9 (by omega) (by omega)) (by omega))⟩, ((show hEq [dQ, dS, dL, dR, dT, dZ, dI, dH, dN, dK, dJ, dU, dO] f f1 from (by rw [ef1]; exact hEq.up (List.mem_cons_of_mem _ (List.mem_cons_of_mem _ (List.mem_cons_of_mem _ (List.mem_cons_of_mem _ (List.mem_cons_of_mem _ (List.mem_cons_of_mem _ (List.mem_cons_of_mem _ (List.mem_cons_of_mem _ (List.mem_cons_of_mem _ List.mem_cons_self))))))))))).tr ((show hEq [dQ, dS, dL, dR, dT, dZ, dI, dH, dN, dK, dJ, dU, dO] f1 f6 from (by rw [ef6]; exact hEq.up (List.mem_cons_of_mem _ (List.mem_cons_of_mem _ (List.mem_cons_of_mem _ (List.mem_cons_of_mem _ (List.mem_cons_of_mem _ (List.mem_cons_of_mem _ (List.mem_cons_of_mem _ (List.mem_cons_of_mem _ (List.mem_cons_of_mem _ (List.mem_cons_of_mem _ List.mem_cons_self)))))))))))).tr ((show hEq [dQ, dS, dL, dR, dT, dZ, dI, dH, dN, dK, dJ, dU, dO] f6 f16 from (by rw [ef16]; exact hEq.up (List.mem_cons_of_mem _ (List.mem_cons_of_mem _ (List.mem_cons_of_mem _ (List.mem_cons_of_mem _ (List.mem_cons_of_mem _ (List.mem_cons_of_mem _ (List.mem_cons_of_mem _ (List.mem_cons_of_mem _ (List.mem_cons_of_mem _ (List.mem_cons_of_mem _ (List.mem_cons_of_mem _ List.mem_cons_self))))))))))))).tr ((show hEq [dQ, dS, dL, dR, dT, dZ, dI, dH, dN, dK, dJ, dU, dO] f16 f23 from (by rw [ef23]; exact hEq.up (List.mem_cons_of_mem _ (List.mem_cons_of_mem _ (List.mem_cons_of_mem _ (List.mem_cons_of_mem _ (List.mem_cons_of_mem _ (List.mem_cons_of_mem _ (List.mem_cons_of_mem _ (List.mem_cons_of_mem _ (List.mem_cons_of_mem _ (List.mem_cons_of_mem _ (List.mem_cons_of_mem _ (List.mem_cons_of_mem _ List.mem_cons_self)))))))))))))).tr (show hEq [dQ, dS, dL, dR, dT, dZ, dI, dH, dN, dK, dJ, dU, dO] f23 f35 from (by rw [ef35]; exact hEq.up (List.mem_cons_of_mem _ (List.mem_cons_of_mem _ (List.mem_cons_of_mem _ (List.mem_cons_of_mem _ (List.mem_cons_of_mem _ (List.mem_cons_of_mem _ (List.mem_cons_of_mem _ (List.mem_cons_of_mem _ List.mem_cons_self))))))))))))))⟩)
  · refine lv_sipush (v := 1024) hx hb dX5_sends_0 (by decide) ?_
    obtain ⟨h0, hh0, lh0⟩ := hHd9 1 (by decide)
    obtain ⟨k0, kk0, lk0⟩ := hMn9 1 (by decide)
    refine lv_iload_n hx hb dX5_sends_3 rfl (lv_at hl9 1 rfl) ?_
    refine lv_imul hx hb dX5_sends_4 ?_
    refine hp_c (v := 1024) (by decide) ?_
    refine lv_aload_n hx hb dX5_sends_5 rfl (lv_at hl9 0 rfl) ?_
    refine hp_get B0 hw 5 rfl in_X5 k_mo 11 (by decide) qF_X5_41 rfl dX5_sends_6 ?_
    refine lv_iload_n hx hb dX5_sends_9 rfl (lv_at hl9 1 rfl) ?_
    refine hp_iald B0 hw k_dH (by unfold vp_in; decide) dX5_sends_10 ?_
    refine hp_c (v := (nI h0)) (hh0) ?_
    refine lv_aload_n hx hb dX5_sends_11 rfl (lv_at hl9 0 rfl) ?_
    refine hp_get B0 hw 5 rfl in_X5 k_mo 12 (by decide) qF_X5_44 rfl dX5_sends_12 ?_
    refine lv_iload_n hx hb dX5_sends_15 rfl (lv_at hl9 1 rfl) ?_
    refine hp_iald B0 hw k_dN (by unfold vp_in; decide) dX5_sends_16 ?_
    refine hp_c (v := (nI k0)) (kk0) ?_
    refine lv_iadd hx hb dX5_sends_17 ?_
    refine hp_c (v := (nI (h0 + k0))) (nI_add h0 k0) ?_
    refine lv_sipush (v := 1024) hx hb dX5_sends_18 (by decide) ?_
    refine lv_irem hx hb dX5_sends_21 (by decide) ?_
    refine hp_c (v := (nI ((h0 + k0) % 1024))) (pk_rem (a := h0 + k0) (d := 1024) (by omega) (by decide) (by decide)) ?_
    refine lv_iadd hx hb dX5_sends_22 ?_
    refine hp_c (v := (nI (1024 + (h0 + k0) % 1024))) (nI_add 1024 _) ?_
    refine lv_istore (lv' := [(5, .int (nI (1024 + (h0 + k0) % 1024))), (0, .ref mo), (1, .int 1), (2, .int k), (3, .int i), (4, .int o)]) hx hb dX5_sends_23 hl9 (by decide) rfl (fun ls hl9 => ?_)
    refine lv_aload_n hx hb dX5_sends_25 rfl (lv_at hl9 1 rfl) ?_
    refine hp_get B0 hw 5 rfl in_X5 k_mo 13 (by decide) qF_X5_47 rfl dX5_sends_26 ?_
    refine lv_iload hx hb dX5_sends_29 (lv_at hl9 0 rfl) ?_
    refine lv_iload_n hx hb dX5_sends_31 rfl (lv_at hl9 3 rfl) ?_
    refine hp_iast B0 hw hS k_dK (vp_in_nI (show (1024 + (h0 + k0) % 1024) < 2048 by omega) (by decide)) dX5_sends_32 (fun H locs f120 ef120 hw hS => ?_)
    have h121 : f120 dK = some (.inl (cI G, 2048, .inl (upd gK ((nI (1024 + (h0 + k0) % 1024)) : Int32).toNatClampNeg k))) := by rw [ef120, va_up_self]
    refine lv_aload_n hx hb dX5_sends_33 rfl (lv_at hl9 1 rfl) ?_
    have n123 : mo ≠ dK := hne k_mo k_dK (Nat.ne_of_beq_eq_false rfl)
    have h122 : f120 mo = some (.inr (5, [.int vth, .ref dW, .ref dA, .ref dQ, .ref dM, .ref dS, .ref dL, .ref dR, .ref dT, .ref dZ, .ref dI, .ref dH, .ref dN, .ref dK, .ref dJ, .ref dU, .ref dO, .int vpk, .int vpc, .ref dF, .ref dP, .ref dE, .ref dX, .ref dY, .int vnx, .int vgv, .ref dG])) := by rw [ef120, va_up_ne _ _ n123]; exact k_mo
    refine hp_get B0 hw 5 rfl in_X5 h122 14 (by decide) qF_X5_50 rfl dX5_sends_34 ?_
    refine lv_iload hx hb dX5_sends_37 (lv_at hl9 0 rfl) ?_
    refine lv_iload_n hx hb dX5_sends_39 rfl (lv_at hl9 4 rfl) ?_
    have h124 : f120 dJ = some (.inl (cI G, 2048, .inl gJ)) := by rw [ef120, va_up_ne _ _ (Ne.symm nd_dK_dJ)]; exact k_dJ
    refine hp_iast B0 hw hS h124 (vp_in_nI (show (1024 + (h0 + k0) % 1024) < 2048 by omega) (by decide)) dX5_sends_40 (fun H locs f125 ef125 hw hS => ?_)
    have h126 : f125 dJ = some (.inl (cI G, 2048, .inl (upd gJ ((nI (1024 + (h0 + k0) % 1024)) : Int32).toNatClampNeg i))) := by rw [ef125, va_up_self]
    refine lv_aload_n hx hb dX5_sends_41 rfl (lv_at hl9 1 rfl) ?_
    have n128 : mo ≠ dJ := hne k_mo k_dJ (Nat.ne_of_beq_eq_false rfl)
    have h127 : f125 mo = some (.inr (5, [.int vth, .ref dW, .ref dA, .ref dQ, .ref dM, .ref dS, .ref dL, .ref dR, .ref dT, .ref dZ, .ref dI, .ref dH, .ref dN, .ref dK, .ref dJ, .ref dU, .ref dO, .int vpk, .int vpc, .ref dF, .ref dP, .ref dE, .ref dX, .ref dY, .int vnx, .int vgv, .ref dG])) := by rw [ef125, va_up_ne _ _ n128]; exact h122
    refine hp_get B0 hw 5 rfl in_X5 h127 15 (by decide) qF_X5_53 rfl dX5_sends_42 ?_
    refine lv_iload hx hb dX5_sends_45 (lv_at hl9 0 rfl) ?_
    refine lv_aload_n hx hb dX5_sends_47 rfl (lv_at hl9 1 rfl) ?_
    refine hp_get B0 hw 5 rfl in_X5 h127 4 (by decide) qF_X5_19 rfl dX5_sends_48 ?_
    refine lv_iload_n hx hb dX5_sends_51 rfl (lv_at hl9 2 rfl) ?_
    have n130 : dM ≠ dK := hneL k_dM k_dK (Nat.ne_of_beq_eq_false rfl)
    have h129 : f120 dM = some (.inl (cI G, 2, .inl gM)) := by rw [ef120, va_up_ne _ _ n130]; exact k_dM
    have n132 : dM ≠ dJ := hneL k_dM k_dJ (Nat.ne_of_beq_eq_false rfl)
    have h131 : f125 dM = some (.inl (cI G, 2, .inl gM)) := by rw [ef125, va_up_ne _ _ n132]; exact h129
    refine hp_iald B0 hw h131 (by unfold vp_in; decide) dX5_sends_52 ?_
    have h133 : f120 dU = some (.inl (cI G, 2048, .inl gU)) := by rw [ef120, va_up_ne _ _ (Ne.symm nd_dK_dU)]; exact k_dU
    have h134 : f125 dU = some (.inl (cI G, 2048, .inl gU)) := by rw [ef125, va_up_ne _ _ (Ne.symm nd_dJ_dU)]; exact h133
    refine hp_iast B0 hw hS h134 (vp_in_nI (show (1024 + (h0 + k0) % 1024) < 2048 by omega) (by decide)) dX5_sends_53 (fun H locs f135 ef135 hw hS => ?_)
    have h136 : f135 dU = some (.inl (cI G, 2048, .inl (upd gU ((nI (1024 + (h0 + k0) % 1024)) : Int32).toNatClampNeg (gM (1 : Int32).toNatClampNeg)))) := by rw [ef135, va_up_self]
    refine lv_aload_n hx hb dX5_sends_54 rfl (lv_at hl9 1 rfl) ?_
    have n138 : mo ≠ dU := hne k_mo k_dU (Nat.ne_of_beq_eq_false rfl)
    have h137 : f135 mo = some (.inr (5, [.int vth, .ref dW, .ref dA, .ref dQ, .ref dM, .ref dS, .ref dL, .ref dR, .ref dT, .ref dZ, .ref dI, .ref dH, .ref dN, .ref dK, .ref dJ, .ref dU, .ref dO, .int vpk, .int vpc, .ref dF, .ref dP, .ref dE, .ref dX, .ref dY, .int vnx, .int vgv, .ref dG])) := by rw [ef135, va_up_ne _ _ n138]; exact h127
    refine hp_get B0 hw 5 rfl in_X5 h137 16 (by decide) qF_X5_56 rfl dX5_sends_55 ?_
    refine lv_iload hx hb dX5_sends_58 (lv_at hl9 0 rfl) ?_
    refine lv_iload hx hb dX5_sends_60 (lv_at hl9 5 rfl) ?_
    have h139 : f120 dO = some (.inl (cI G, 2048, .inl gO)) := by rw [ef120, va_up_ne _ _ (Ne.symm nd_dK_dO)]; exact k_dO
    have h140 : f125 dO = some (.inl (cI G, 2048, .inl gO)) := by rw [ef125, va_up_ne _ _ (Ne.symm nd_dJ_dO)]; exact h139
    have h141 : f135 dO = some (.inl (cI G, 2048, .inl gO)) := by rw [ef135, va_up_ne _ _ (Ne.symm nd_dU_dO)]; exact h140
    refine hp_iast B0 hw hS h141 (vp_in_nI (show (1024 + (h0 + k0) % 1024) < 2048 by omega) (by decide)) dX5_sends_62 (fun H locs f142 ef142 hw hS => ?_)
    have h143 : f142 dO = some (.inl (cI G, 2048, .inl (upd gO ((nI (1024 + (h0 + k0) % 1024)) : Int32).toNatClampNeg o))) := by rw [ef142, va_up_self]
    refine lv_aload_n hx hb dX5_sends_63 rfl (lv_at hl9 1 rfl) ?_
    have n145 : mo ≠ dO := hne k_mo k_dO (Nat.ne_of_beq_eq_false rfl)
    have h144 : f142 mo = some (.inr (5, [.int vth, .ref dW, .ref dA, .ref dQ, .ref dM, .ref dS, .ref dL, .ref dR, .ref dT, .ref dZ, .ref dI, .ref dH, .ref dN, .ref dK, .ref dJ, .ref dU, .ref dO, .int vpk, .int vpc, .ref dF, .ref dP, .ref dE, .ref dX, .ref dY, .int vnx, .int vgv, .ref dG])) := by rw [ef142, va_up_ne _ _ n145]; exact h137
    refine hp_get B0 hw 5 rfl in_X5 h144 12 (by decide) qF_X5_44 rfl dX5_sends_64 ?_
    refine lv_iload_n hx hb dX5_sends_67 rfl (lv_at hl9 2 rfl) ?_
    refine lv_dup2_11 hx hb dX5_sends_68 rfl rfl ?_
    have n147 : dN ≠ dK := hneL k_dN k_dK (Nat.ne_of_beq_eq_false rfl)
    have h146 : f120 dN = some (.inl (cI G, 2, .inl gN)) := by rw [ef120, va_up_ne _ _ n147]; exact k_dN
    have n149 : dN ≠ dJ := hneL k_dN k_dJ (Nat.ne_of_beq_eq_false rfl)
    have h148 : f125 dN = some (.inl (cI G, 2, .inl gN)) := by rw [ef125, va_up_ne _ _ n149]; exact h146
    have n151 : dN ≠ dU := hneL k_dN k_dU (Nat.ne_of_beq_eq_false rfl)
    have h150 : f135 dN = some (.inl (cI G, 2, .inl gN)) := by rw [ef135, va_up_ne _ _ n151]; exact h148
    have n153 : dN ≠ dO := hneL k_dN k_dO (Nat.ne_of_beq_eq_false rfl)
    have h152 : f142 dN = some (.inl (cI G, 2, .inl gN)) := by rw [ef142, va_up_ne _ _ n153]; exact h150
    refine hp_iald B0 hw h152 (by unfold vp_in; decide) dX5_sends_69 ?_
    refine hp_c (v := (nI k0)) (kk0) ?_
    refine lv_iconst (v := 1) hx hb dX5_sends_70 (by decide) ?_
    refine lv_iadd hx hb dX5_sends_71 ?_
    refine hp_c (v := (nI (k0 + 1))) (nI_1 k0) ?_
    refine hp_iast B0 hw hS h152 (by unfold vp_in; decide) dX5_sends_72 (fun H locs f154 ef154 hw hS => ?_)
    have h155 : f154 dN = some (.inl (cI G, 2, .inl (upd gN (1 : Int32).toNatClampNeg (nI (k0 + 1))))) := by rw [ef154, va_up_self]
    have n157 : dQ ≠ dK := hneL k_dQ k_dK (Nat.ne_of_beq_eq_false rfl)
    have h156 : f120 dQ = some (.inl (cI G, 12, .inl gQ)) := by rw [ef120, va_up_ne _ _ n157]; exact k_dQ
    have n159 : dQ ≠ dJ := hneL k_dQ k_dJ (Nat.ne_of_beq_eq_false rfl)
    have h158 : f125 dQ = some (.inl (cI G, 12, .inl gQ)) := by rw [ef125, va_up_ne _ _ n159]; exact h156
    have n161 : dQ ≠ dU := hneL k_dQ k_dU (Nat.ne_of_beq_eq_false rfl)
    have h160 : f135 dQ = some (.inl (cI G, 12, .inl gQ)) := by rw [ef135, va_up_ne _ _ n161]; exact h158
    have n163 : dQ ≠ dO := hneL k_dQ k_dO (Nat.ne_of_beq_eq_false rfl)
    have h162 : f142 dQ = some (.inl (cI G, 12, .inl gQ)) := by rw [ef142, va_up_ne _ _ n163]; exact h160
    have n165 : dQ ≠ dN := hneL k_dQ k_dN (Nat.ne_of_beq_eq_false rfl)
    have h164 : f154 dQ = some (.inl (cI G, 12, .inl gQ)) := by rw [ef154, va_up_ne _ _ n165]; exact h162
    have n167 : dS ≠ dK := hneL k_dS k_dK (Nat.ne_of_beq_eq_false rfl)
    have h166 : f120 dS = some (.inl (cI G, 2, .inl gS)) := by rw [ef120, va_up_ne _ _ n167]; exact k_dS
    have n169 : dS ≠ dJ := hneL k_dS k_dJ (Nat.ne_of_beq_eq_false rfl)
    have h168 : f125 dS = some (.inl (cI G, 2, .inl gS)) := by rw [ef125, va_up_ne _ _ n169]; exact h166
    have n171 : dS ≠ dU := hneL k_dS k_dU (Nat.ne_of_beq_eq_false rfl)
    have h170 : f135 dS = some (.inl (cI G, 2, .inl gS)) := by rw [ef135, va_up_ne _ _ n171]; exact h168
    have n173 : dS ≠ dO := hneL k_dS k_dO (Nat.ne_of_beq_eq_false rfl)
    have h172 : f142 dS = some (.inl (cI G, 2, .inl gS)) := by rw [ef142, va_up_ne _ _ n173]; exact h170
    have h174 : f154 dS = some (.inl (cI G, 2, .inl gS)) := by rw [ef154, va_up_ne _ _ nd_dS_dN]; exact h172
    have n176 : dL ≠ dK := hneL k_dL k_dK (Nat.ne_of_beq_eq_false rfl)
    have h175 : f120 dL = some (.inl (cI G, 2, .inl gL)) := by rw [ef120, va_up_ne _ _ n176]; exact k_dL
    have n178 : dL ≠ dJ := hneL k_dL k_dJ (Nat.ne_of_beq_eq_false rfl)
    have h177 : f125 dL = some (.inl (cI G, 2, .inl gL)) := by rw [ef125, va_up_ne _ _ n178]; exact h175
    have n180 : dL ≠ dU := hneL k_dL k_dU (Nat.ne_of_beq_eq_false rfl)
    have h179 : f135 dL = some (.inl (cI G, 2, .inl gL)) := by rw [ef135, va_up_ne _ _ n180]; exact h177
    have n182 : dL ≠ dO := hneL k_dL k_dO (Nat.ne_of_beq_eq_false rfl)
    have h181 : f142 dL = some (.inl (cI G, 2, .inl gL)) := by rw [ef142, va_up_ne _ _ n182]; exact h179
    have h183 : f154 dL = some (.inl (cI G, 2, .inl gL)) := by rw [ef154, va_up_ne _ _ nd_dL_dN]; exact h181
    have n185 : dR ≠ dK := hneL k_dR k_dK (Nat.ne_of_beq_eq_false rfl)
    have h184 : f120 dR = some (.inl (cI G, 2, .inl gR)) := by rw [ef120, va_up_ne _ _ n185]; exact k_dR
    have n187 : dR ≠ dJ := hneL k_dR k_dJ (Nat.ne_of_beq_eq_false rfl)
    have h186 : f125 dR = some (.inl (cI G, 2, .inl gR)) := by rw [ef125, va_up_ne _ _ n187]; exact h184
    have n189 : dR ≠ dU := hneL k_dR k_dU (Nat.ne_of_beq_eq_false rfl)
    have h188 : f135 dR = some (.inl (cI G, 2, .inl gR)) := by rw [ef135, va_up_ne _ _ n189]; exact h186
    have n191 : dR ≠ dO := hneL k_dR k_dO (Nat.ne_of_beq_eq_false rfl)
    have h190 : f142 dR = some (.inl (cI G, 2, .inl gR)) := by rw [ef142, va_up_ne _ _ n191]; exact h188
    have h192 : f154 dR = some (.inl (cI G, 2, .inl gR)) := by rw [ef154, va_up_ne _ _ nd_dR_dN]; exact h190
    have n194 : dT ≠ dK := hneL k_dT k_dK (Nat.ne_of_beq_eq_false rfl)
    have h193 : f120 dT = some (.inl (cI G, 2, .inl gT)) := by rw [ef120, va_up_ne _ _ n194]; exact k_dT
    have n196 : dT ≠ dJ := hneL k_dT k_dJ (Nat.ne_of_beq_eq_false rfl)
    have h195 : f125 dT = some (.inl (cI G, 2, .inl gT)) := by rw [ef125, va_up_ne _ _ n196]; exact h193
    have n198 : dT ≠ dU := hneL k_dT k_dU (Nat.ne_of_beq_eq_false rfl)
    have h197 : f135 dT = some (.inl (cI G, 2, .inl gT)) := by rw [ef135, va_up_ne _ _ n198]; exact h195
    have n200 : dT ≠ dO := hneL k_dT k_dO (Nat.ne_of_beq_eq_false rfl)
    have h199 : f142 dT = some (.inl (cI G, 2, .inl gT)) := by rw [ef142, va_up_ne _ _ n200]; exact h197
    have h201 : f154 dT = some (.inl (cI G, 2, .inl gT)) := by rw [ef154, va_up_ne _ _ nd_dT_dN]; exact h199
    have n203 : dZ ≠ dK := hneL k_dZ k_dK (Nat.ne_of_beq_eq_false rfl)
    have h202 : f120 dZ = some (.inl (cZ G, 2, .inl gZ)) := by rw [ef120, va_up_ne _ _ n203]; exact k_dZ
    have n205 : dZ ≠ dJ := hneL k_dZ k_dJ (Nat.ne_of_beq_eq_false rfl)
    have h204 : f125 dZ = some (.inl (cZ G, 2, .inl gZ)) := by rw [ef125, va_up_ne _ _ n205]; exact h202
    have n207 : dZ ≠ dU := hneL k_dZ k_dU (Nat.ne_of_beq_eq_false rfl)
    have h206 : f135 dZ = some (.inl (cZ G, 2, .inl gZ)) := by rw [ef135, va_up_ne _ _ n207]; exact h204
    have n209 : dZ ≠ dO := hneL k_dZ k_dO (Nat.ne_of_beq_eq_false rfl)
    have h208 : f142 dZ = some (.inl (cZ G, 2, .inl gZ)) := by rw [ef142, va_up_ne _ _ n209]; exact h206
    have h210 : f154 dZ = some (.inl (cZ G, 2, .inl gZ)) := by rw [ef154, va_up_ne _ _ nd_dZ_dN]; exact h208
    have n212 : dI ≠ dK := hneL k_dI k_dK (Nat.ne_of_beq_eq_false rfl)
    have h211 : f120 dI = some (.inl (cI G, 2, .inl gI)) := by rw [ef120, va_up_ne _ _ n212]; exact k_dI
    have n214 : dI ≠ dJ := hneL k_dI k_dJ (Nat.ne_of_beq_eq_false rfl)
    have h213 : f125 dI = some (.inl (cI G, 2, .inl gI)) := by rw [ef125, va_up_ne _ _ n214]; exact h211
    have n216 : dI ≠ dU := hneL k_dI k_dU (Nat.ne_of_beq_eq_false rfl)
    have h215 : f135 dI = some (.inl (cI G, 2, .inl gI)) := by rw [ef135, va_up_ne _ _ n216]; exact h213
    have n218 : dI ≠ dO := hneL k_dI k_dO (Nat.ne_of_beq_eq_false rfl)
    have h217 : f142 dI = some (.inl (cI G, 2, .inl gI)) := by rw [ef142, va_up_ne _ _ n218]; exact h215
    have h219 : f154 dI = some (.inl (cI G, 2, .inl gI)) := by rw [ef154, va_up_ne _ _ nd_dI_dN]; exact h217
    have n221 : dH ≠ dK := hneL k_dH k_dK (Nat.ne_of_beq_eq_false rfl)
    have h220 : f120 dH = some (.inl (cI G, 2, .inl gH)) := by rw [ef120, va_up_ne _ _ n221]; exact k_dH
    have n223 : dH ≠ dJ := hneL k_dH k_dJ (Nat.ne_of_beq_eq_false rfl)
    have h222 : f125 dH = some (.inl (cI G, 2, .inl gH)) := by rw [ef125, va_up_ne _ _ n223]; exact h220
    have n225 : dH ≠ dU := hneL k_dH k_dU (Nat.ne_of_beq_eq_false rfl)
    have h224 : f135 dH = some (.inl (cI G, 2, .inl gH)) := by rw [ef135, va_up_ne _ _ n225]; exact h222
    have n227 : dH ≠ dO := hneL k_dH k_dO (Nat.ne_of_beq_eq_false rfl)
    have h226 : f142 dH = some (.inl (cI G, 2, .inl gH)) := by rw [ef142, va_up_ne _ _ n227]; exact h224
    have h228 : f154 dH = some (.inl (cI G, 2, .inl gH)) := by rw [ef154, va_up_ne _ _ nd_dH_dN]; exact h226
    have h229 : f125 dK = some (.inl (cI G, 2048, .inl (upd gK ((nI (1024 + (h0 + k0) % 1024)) : Int32).toNatClampNeg k))) := by rw [ef125, va_up_ne _ _ nd_dK_dJ]; exact h121
    have h230 : f135 dK = some (.inl (cI G, 2048, .inl (upd gK ((nI (1024 + (h0 + k0) % 1024)) : Int32).toNatClampNeg k))) := by rw [ef135, va_up_ne _ _ nd_dK_dU]; exact h229
    have h231 : f142 dK = some (.inl (cI G, 2048, .inl (upd gK ((nI (1024 + (h0 + k0) % 1024)) : Int32).toNatClampNeg k))) := by rw [ef142, va_up_ne _ _ nd_dK_dO]; exact h230
    have h232 : f154 dK = some (.inl (cI G, 2048, .inl (upd gK ((nI (1024 + (h0 + k0) % 1024)) : Int32).toNatClampNeg k))) := by rw [ef154, va_up_ne _ _ (Ne.symm n147)]; exact h231
    have h233 : f135 dJ = some (.inl (cI G, 2048, .inl (upd gJ ((nI (1024 + (h0 + k0) % 1024)) : Int32).toNatClampNeg i))) := by rw [ef135, va_up_ne _ _ nd_dJ_dU]; exact h126
    have h234 : f142 dJ = some (.inl (cI G, 2048, .inl (upd gJ ((nI (1024 + (h0 + k0) % 1024)) : Int32).toNatClampNeg i))) := by rw [ef142, va_up_ne _ _ nd_dJ_dO]; exact h233
    have h235 : f154 dJ = some (.inl (cI G, 2048, .inl (upd gJ ((nI (1024 + (h0 + k0) % 1024)) : Int32).toNatClampNeg i))) := by rw [ef154, va_up_ne _ _ (Ne.symm n149)]; exact h234
    have h236 : f142 dU = some (.inl (cI G, 2048, .inl (upd gU ((nI (1024 + (h0 + k0) % 1024)) : Int32).toNatClampNeg (gM (1 : Int32).toNatClampNeg)))) := by rw [ef142, va_up_ne _ _ nd_dU_dO]; exact h136
    have h237 : f154 dU = some (.inl (cI G, 2048, .inl (upd gU ((nI (1024 + (h0 + k0) % 1024)) : Int32).toNatClampNeg (gM (1 : Int32).toNatClampNeg)))) := by rw [ef154, va_up_ne _ _ (Ne.symm n151)]; exact h236
    have h238 : f154 dO = some (.inl (cI G, 2048, .inl (upd gO ((nI (1024 + (h0 + k0) % 1024)) : Int32).toNatClampNeg o))) := by rw [ef154, va_up_ne _ _ (Ne.symm n153)]; exact h143
    exact hp_vret B0 hw hS hr ⟨Nat.le_of_ble_eq_true rfl, Nat.le_of_ble_eq_true rfl⟩ dX5_sends_73 (⟨rfl, ⟨_, _, _, _, _, _, _, _, _, _, _, _, _, h164, h174, h183, h192, h201, h210, h219, h228, h155, h232, h235, h237, h238, hHd9, (hMn.mono (hMn.up (B1 := B + 1) hMn9 (by omega) (by omega)) (by omega))⟩, ((show hEq [dQ, dS, dL, dR, dT, dZ, dI, dH, dN, dK, dJ, dU, dO] f f120 from (by rw [ef120]; exact hEq.up (List.mem_cons_of_mem _ (List.mem_cons_of_mem _ (List.mem_cons_of_mem _ (List.mem_cons_of_mem _ (List.mem_cons_of_mem _ (List.mem_cons_of_mem _ (List.mem_cons_of_mem _ (List.mem_cons_of_mem _ (List.mem_cons_of_mem _ List.mem_cons_self))))))))))).tr ((show hEq [dQ, dS, dL, dR, dT, dZ, dI, dH, dN, dK, dJ, dU, dO] f120 f125 from (by rw [ef125]; exact hEq.up (List.mem_cons_of_mem _ (List.mem_cons_of_mem _ (List.mem_cons_of_mem _ (List.mem_cons_of_mem _ (List.mem_cons_of_mem _ (List.mem_cons_of_mem _ (List.mem_cons_of_mem _ (List.mem_cons_of_mem _ (List.mem_cons_of_mem _ (List.mem_cons_of_mem _ List.mem_cons_self)))))))))))).tr ((show hEq [dQ, dS, dL, dR, dT, dZ, dI, dH, dN, dK, dJ, dU, dO] f125 f135 from (by rw [ef135]; exact hEq.up (List.mem_cons_of_mem _ (List.mem_cons_of_mem _ (List.mem_cons_of_mem _ (List.mem_cons_of_mem _ (List.mem_cons_of_mem _ (List.mem_cons_of_mem _ (List.mem_cons_of_mem _ (List.mem_cons_of_mem _ (List.mem_cons_of_mem _ (List.mem_cons_of_mem _ (List.mem_cons_of_mem _ List.mem_cons_self))))))))))))).tr ((show hEq [dQ, dS, dL, dR, dT, dZ, dI, dH, dN, dK, dJ, dU, dO] f135 f142 from (by rw [ef142]; exact hEq.up (List.mem_cons_of_mem _ (List.mem_cons_of_mem _ (List.mem_cons_of_mem _ (List.mem_cons_of_mem _ (List.mem_cons_of_mem _ (List.mem_cons_of_mem _ (List.mem_cons_of_mem _ (List.mem_cons_of_mem _ (List.mem_cons_of_mem _ (List.mem_cons_of_mem _ (List.mem_cons_of_mem _ (List.mem_cons_of_mem _ List.mem_cons_self)))))))))))))).tr (show hEq [dQ, dS, dL, dR, dT, dZ, dI, dH, dN, dK, dJ, dU, dO] f142 f154 from (by rw [ef154]; exact hEq.up (List.mem_cons_of_mem _ (List.mem_cons_of_mem _ (List.mem_cons_of_mem _ (List.mem_cons_of_mem _ (List.mem_cons_of_mem _ (List.mem_cons_of_mem _ (List.mem_cons_of_mem _ (List.mem_cons_of_mem _ List.mem_cons_self))))))))))))))⟩)

set_option maxHeartbeats 4000000 in
set_option maxRecDepth 100000 in
theorem c_W5_begs {l : Launch} (hl : l.stackTraces = false) (G : hG) (f : hM) (mo dW dA dQ dM dS dL dR dT dZ dI dH dN dK dJ dU dO dF dP dE dX dY dG : Nat) (vth vpk vpc vnx vgv : Int32) (k_mo : f mo = some (.inr (5, [.int vth, .ref dW, .ref dA, .ref dQ, .ref dM, .ref dS, .ref dL, .ref dR, .ref dT, .ref dZ, .ref dI, .ref dH, .ref dN, .ref dK, .ref dJ, .ref dU, .ref dO, .int vpk, .int vpc, .ref dF, .ref dP, .ref dE, .ref dX, .ref dY, .int vnx, .int vgv, .ref dG]))) (hND : ND5 dW dA dQ dM dS dL dR dT dZ dI dH dN dK dJ dU dO dF dP dE dX dY dG) (gM gA : Nat → Int32) (k_dM : f dM = some (.inl (cI G, 2, .inl gM))) (k_dA : f dA = some (.inl (cI G, 12, .inl gA))) (hSA : ∀ j, j < 12 → sA (gA j)) (B : Nat) (hLM : LM G f dQ dS dL dR dT dZ dI dH dN dK dJ dU dO B) (hBB : B + 0 < 100000) (ee : Int32) (he : sE ee) : CT l yX5_begs (.code yX5_begs cX5_begs 4 (some .boolean)) 1 25 0 0 G [.ref mo, .int ee] f (fun v f1 => (v = some (.int 0) ∨ v = some (.int 1)) ∧ LM G f1 dQ dS dL dR dT dZ dI dH dN dK dJ dU dO (B + 1) ∧ hEq [dQ, dS, dL, dR, dT, dZ, dI, dH, dN, dK, dJ, dU, dO] f f1) (fun E f1 => False) := by
  refine hp_start hl (own := RX5) (by decide) rfl (Nat.le_of_ble_eq_true rfl) ?_
  intro p e s m args below meth c B0 hr hnm hout hw hS ls hl9
  have hx := B0.1
  have hb := B0.2.1
  have hl9 : lv_has ls 4 [(0, .ref mo), (1, .int ee)] := hl9
  obtain ⟨nd_dW_dA, nd_dW_dQ, nd_dA_dQ, nd_dM_dS, nd_dM_dL, nd_dM_dR, nd_dM_dT, nd_dM_dZ, nd_dM_dI, nd_dM_dH, nd_dM_dN, nd_dS_dL, nd_dS_dR, nd_dS_dT, nd_dS_dZ, nd_dS_dI, nd_dS_dH, nd_dS_dN, nd_dL_dR, nd_dL_dT, nd_dL_dZ, nd_dL_dI, nd_dL_dH, nd_dL_dN, nd_dR_dT, nd_dR_dZ, nd_dR_dI, nd_dR_dH, nd_dR_dN, nd_dT_dZ, nd_dT_dI, nd_dT_dH, nd_dT_dN, nd_dZ_dI, nd_dZ_dH, nd_dZ_dN, nd_dI_dH, nd_dI_dN, nd_dH_dN, nd_dK_dJ, nd_dK_dU, nd_dK_dO, nd_dJ_dU, nd_dJ_dO, nd_dU_dO, nd_dP_dE, nd_dX_dY⟩ := id hND
  obtain ⟨gQ, gS, gL, gR, gT, gZ, gI, gH, gN, gK, gJ, gU, gO, k_dQ, k_dS, k_dL, k_dR, k_dT, k_dZ, k_dI, k_dH, k_dN, k_dK, k_dJ, k_dU, k_dO, hHd9, hMn9⟩ := id hLM
  rcases he with rfl | rfl
  · refine lv_aload_n hx hb dX5_begs_0 rfl (lv_at hl9 0 rfl) ?_
    refine hp_get B0 hw 5 rfl in_X5 k_mo 7 (by decide) qF_X5_28 rfl dX5_begs_1 ?_
    refine lv_iload_n hx hb dX5_begs_4 rfl (lv_at hl9 1 rfl) ?_
    refine hp_iald B0 hw k_dR (by unfold vp_in; decide) dX5_begs_5 ?_
    refine lv_bipush (v := 10) hx hb dX5_begs_6 (by decide) ?_
    refine lv_icmp_ne (tgt := 20) hx hb dX5_begs_8 (by decide) (fun c1 => ?_) (fun c1 => ?_)
    · refine lv_aload_n hx hb dX5_begs_20 rfl (lv_at hl9 0 rfl) ?_
      refine hp_get B0 hw 5 rfl in_X5 k_mo 6 (by decide) qF_X5_25 rfl dX5_begs_21 ?_
      refine lv_iload_n hx hb dX5_begs_24 rfl (lv_at hl9 1 rfl) ?_
      refine lv_dup2_11 hx hb dX5_begs_25 rfl rfl ?_
      refine hp_iald B0 hw k_dL (by unfold vp_in; decide) dX5_begs_26 ?_
      refine lv_iconst (v := 1) hx hb dX5_begs_27 (by decide) ?_
      refine lv_iadd hx hb dX5_begs_28 ?_
      refine hp_iast B0 hw hS k_dL (by unfold vp_in; decide) dX5_begs_29 (fun H locs f2 ef2 hw hS => ?_)
      have h3 : f2 dL = some (.inl (cI G, 2, .inl (upd gL (0 : Int32).toNatClampNeg ((gL (0 : Int32).toNatClampNeg) + 1)))) := by rw [ef2, va_up_self]
      refine lv_aload_n hx hb dX5_begs_30 rfl (lv_at hl9 0 rfl) ?_
      have n5 : mo ≠ dL := hne k_mo k_dL (Nat.ne_of_beq_eq_false rfl)
      have h4 : f2 mo = some (.inr (5, [.int vth, .ref dW, .ref dA, .ref dQ, .ref dM, .ref dS, .ref dL, .ref dR, .ref dT, .ref dZ, .ref dI, .ref dH, .ref dN, .ref dK, .ref dJ, .ref dU, .ref dO, .int vpk, .int vpc, .ref dF, .ref dP, .ref dE, .ref dX, .ref dY, .int vnx, .int vgv, .ref dG])) := by rw [ef2, va_up_ne _ _ n5]; exact k_mo
      refine hp_get B0 hw 5 rfl in_X5 h4 7 (by decide) qF_X5_28 rfl dX5_begs_31 ?_
      refine lv_iload_n hx hb dX5_begs_34 rfl (lv_at hl9 1 rfl) ?_
      refine lv_dup2_11 hx hb dX5_begs_35 rfl rfl ?_
      have h6 : f2 dR = some (.inl (cI G, 2, .inl gR)) := by rw [ef2, va_up_ne _ _ (Ne.symm nd_dL_dR)]; exact k_dR
      refine hp_iald B0 hw h6 (by unfold vp_in; decide) dX5_begs_36 ?_
      refine lv_iconst (v := 1) hx hb dX5_begs_37 (by decide) ?_
      refine lv_iadd hx hb dX5_begs_38 ?_
      refine hp_iast B0 hw hS h6 (by unfold vp_in; decide) dX5_begs_39 (fun H locs f7 ef7 hw hS => ?_)
      have h8 : f7 dR = some (.inl (cI G, 2, .inl (upd gR (0 : Int32).toNatClampNeg ((gR (0 : Int32).toNatClampNeg) + 1)))) := by rw [ef7, va_up_self]
      refine lv_aload_n hx hb dX5_begs_40 rfl (lv_at hl9 0 rfl) ?_
      have n10 : mo ≠ dR := hne k_mo k_dR (Nat.ne_of_beq_eq_false rfl)
      have h9 : f7 mo = some (.inr (5, [.int vth, .ref dW, .ref dA, .ref dQ, .ref dM, .ref dS, .ref dL, .ref dR, .ref dT, .ref dZ, .ref dI, .ref dH, .ref dN, .ref dK, .ref dJ, .ref dU, .ref dO, .int vpk, .int vpc, .ref dF, .ref dP, .ref dE, .ref dX, .ref dY, .int vnx, .int vgv, .ref dG])) := by rw [ef7, va_up_ne _ _ n10]; exact h4
      refine hp_get B0 hw 5 rfl in_X5 h9 8 (by decide) qF_X5_31 rfl dX5_begs_41 ?_
      refine lv_iload_n hx hb dX5_begs_44 rfl (lv_at hl9 1 rfl) ?_
      refine lv_iconst (v := 3) hx hb dX5_begs_45 (by decide) ?_
      have h11 : f2 dT = some (.inl (cI G, 2, .inl gT)) := by rw [ef2, va_up_ne _ _ (Ne.symm nd_dL_dT)]; exact k_dT
      have h12 : f7 dT = some (.inl (cI G, 2, .inl gT)) := by rw [ef7, va_up_ne _ _ (Ne.symm nd_dR_dT)]; exact h11
      refine hp_iast B0 hw hS h12 (by unfold vp_in; decide) dX5_begs_46 (fun H locs f13 ef13 hw hS => ?_)
      have h14 : f13 dT = some (.inl (cI G, 2, .inl (upd gT (0 : Int32).toNatClampNeg 3))) := by rw [ef13, va_up_self]
      refine lv_iconst (v := 0) hx hb dX5_begs_47 (by decide) ?_
      refine lv_istore_n (lv' := [(2, .int 0), (0, .ref mo), (1, .int 0)]) hx hb dX5_begs_48 rfl hl9 (by decide) rfl (fun ls hl9 => ?_)
      refine lv_iconst (v := 0) hx hb dX5_begs_49 (by decide) ?_
      refine lv_istore_n (lv' := [(3, .int 0), (2, .int 0), (0, .ref mo), (1, .int 0)]) hx hb dX5_begs_50 rfl hl9 (by decide) rfl (fun ls hl9 => ?_)
      refine hp_for (nL := 4) (pc := 51) (fun j f9 lv9 => f9 = f13 ∧ ∃ k9 : Int32, lv9 = [(3, .int (nI j)), (2, .int k9), (0, .ref mo), (1, .int 0)]) 6 (fun j f9 lv9 H locs ls hj hI hw hS hl9 ih => ?_) (fun f9 lv9 H locs ls hI hw hS hl9 => ?_) 6 0 (by decide) f13 _ _ _ ls ⟨rfl, _, rfl⟩ hw hS (lv_sub hl9 [0, 1, 2, 3] rfl)
      · obtain ⟨ef9, k9, el9⟩ := hI
        rw [ef9] at hw
        rw [el9] at hl9
        refine lv_iload_n hx hb dX5_begs_51 rfl (lv_at hl9 0 rfl) ?_
        refine lv_bipush (v := 6) hx hb dX5_begs_52 (by decide) ?_
        refine lv_icmp_ge (tgt := 84) hx hb dX5_begs_54 (by decide) (fun c9 => absurd c9 (by rw [show (6 : Int32) = nI 6 from rfl]; exact nI_ge hj (by omega))) (fun _ => ?_)
        refine lv_iload_n hx hb dX5_begs_57 rfl (lv_at hl9 1 rfl) ?_
        refine lv_iload_n hx hb dX5_begs_58 rfl (lv_at hl9 0 rfl) ?_
        refine hp_S (As := [.int (nI j)]) (rest := [.int k9]) B0 hw hS (c_W5_place hl G f13 j hj) mS_X5_place qM_X5_92 rfl rfl hl9.1 (Nat.le_of_ble_eq_true rfl) ⟨⟨Nat.le_of_ble_eq_true rfl, Nat.le_of_ble_eq_true rfl⟩, Nat.le_of_ble_eq_true rfl, Nat.le_of_ble_eq_true rfl⟩ dX5_begs_59 (fun E ce q9 f15 H locs hPX hw hS hce hcv hcl => ?_) (fun v f15 H locs hP hw hS => ?_)
        · exact hPX.elim
        · obtain ⟨⟨r16, ev9, h17⟩, ef9⟩ := hP
          rw [ef9] at hw
          subst ev9
          refine W.eq (g2 := F0 m 62 ls [.int r16, .int k9]) rfl ?_
          refine lv_aload_n hx hb dX5_begs_62 rfl (lv_at hl9 2 rfl) ?_
          have n19 : mo ≠ dT := hne k_mo k_dT (Nat.ne_of_beq_eq_false rfl)
          have h18 : f13 mo = some (.inr (5, [.int vth, .ref dW, .ref dA, .ref dQ, .ref dM, .ref dS, .ref dL, .ref dR, .ref dT, .ref dZ, .ref dI, .ref dH, .ref dN, .ref dK, .ref dJ, .ref dU, .ref dO, .int vpk, .int vpc, .ref dF, .ref dP, .ref dE, .ref dX, .ref dY, .int vnx, .int vgv, .ref dG])) := by rw [ef13, va_up_ne _ _ n19]; exact h9
          refine hp_get B0 hw 5 rfl in_X5 h18 3 (by decide) qF_X5_16 rfl dX5_begs_63 ?_
          refine lv_bipush (v := 6) hx hb dX5_begs_66 (by decide) ?_
          refine lv_iload_n hx hb dX5_begs_68 rfl (lv_at hl9 3 rfl) ?_
          refine lv_imul hx hb dX5_begs_69 ?_
          refine hp_c (v := 0) (by decide) ?_
          refine lv_iload_n hx hb dX5_begs_70 rfl (lv_at hl9 0 rfl) ?_
          refine lv_iadd hx hb dX5_begs_71 ?_
          refine hp_c (v := (nI j)) (Int32.zero_add _) ?_
          have n21 : dQ ≠ dL := hneL k_dQ k_dL (Nat.ne_of_beq_eq_false rfl)
          have h20 : f2 dQ = some (.inl (cI G, 12, .inl gQ)) := by rw [ef2, va_up_ne _ _ n21]; exact k_dQ
          have n23 : dQ ≠ dR := hneL k_dQ k_dR (Nat.ne_of_beq_eq_false rfl)
          have h22 : f7 dQ = some (.inl (cI G, 12, .inl gQ)) := by rw [ef7, va_up_ne _ _ n23]; exact h20
          have n25 : dQ ≠ dT := hneL k_dQ k_dT (Nat.ne_of_beq_eq_false rfl)
          have h24 : f13 dQ = some (.inl (cI G, 12, .inl gQ)) := by rw [ef13, va_up_ne _ _ n25]; exact h22
          refine hp_iald B0 hw h24 (vp_in_nI (show j < 12 by omega) (by decide)) dX5_begs_72 ?_
          refine lv_iconst (v := 1) hx hb dX5_begs_73 (by decide) ?_
          refine lv_iadd hx hb dX5_begs_74 ?_
          refine lv_imul hx hb dX5_begs_75 ?_
          refine lv_iadd hx hb dX5_begs_76 ?_
          refine lv_istore_n (lv' := [(2, .int (k9 + (r16 * ((gQ ((nI j) : Int32).toNatClampNeg) + 1)))), (3, .int (nI j)), (0, .ref mo), (1, .int 0)]) hx hb dX5_begs_77 rfl hl9 (by decide) rfl (fun ls hl9 => ?_)
          refine lv_iinc (v := (nI (j + 1))) (lv' := [(3, .int (nI (j + 1))), (2, .int (k9 + (r16 * ((gQ ((nI j) : Int32).toNatClampNeg) + 1)))), (0, .ref mo), (1, .int 0)]) hx hb dX5_begs_78 hl9 (k := 1) rfl (nI_1 j) (by decide) rfl (fun ls hl9 => ?_)
          refine lv_goto (tgt := 51) hx hb dX5_begs_81 (by decide) ?_
          exact ih _ _ H locs ls ⟨rfl, _, rfl⟩ hw hS (lv_sub hl9 [0, 1, 2, 3] rfl)
      · obtain ⟨ef9, k9, el9⟩ := hI
        rw [ef9] at hw
        rw [el9] at hl9
        refine lv_iload_n hx hb dX5_begs_51 rfl (lv_at hl9 0 rfl) ?_
        refine lv_bipush (v := 6) hx hb dX5_begs_52 (by decide) ?_
        refine lv_icmp_ge (tgt := 84) hx hb dX5_begs_54 (by decide) (fun _ => ?_) (fun c9 => absurd (by decide) c9)
        refine lv_aload_n hx hb dX5_begs_84 rfl (lv_at hl9 2 rfl) ?_
        refine lv_iload_n hx hb dX5_begs_85 rfl (lv_at hl9 3 rfl) ?_
        refine lv_iconst (v := 0) hx hb dX5_begs_86 (by decide) ?_
        refine lv_aload_n hx hb dX5_begs_87 rfl (lv_at hl9 2 rfl) ?_
        have n27 : mo ≠ dT := hne k_mo k_dT (Nat.ne_of_beq_eq_false rfl)
        have h26 : f13 mo = some (.inr (5, [.int vth, .ref dW, .ref dA, .ref dQ, .ref dM, .ref dS, .ref dL, .ref dR, .ref dT, .ref dZ, .ref dI, .ref dH, .ref dN, .ref dK, .ref dJ, .ref dU, .ref dO, .int vpk, .int vpc, .ref dF, .ref dP, .ref dE, .ref dX, .ref dY, .int vnx, .int vgv, .ref dG])) := by rw [ef13, va_up_ne _ _ n27]; exact h9
        refine hp_get B0 hw 5 rfl in_X5 h26 6 (by decide) qF_X5_25 rfl dX5_begs_88 ?_
        refine lv_iload_n hx hb dX5_begs_91 rfl (lv_at hl9 3 rfl) ?_
        have h28 : f7 dL = some (.inl (cI G, 2, .inl (upd gL (0 : Int32).toNatClampNeg ((gL (0 : Int32).toNatClampNeg) + 1)))) := by rw [ef7, va_up_ne _ _ nd_dL_dR]; exact h3
        have h29 : f13 dL = some (.inl (cI G, 2, .inl (upd gL (0 : Int32).toNatClampNeg ((gL (0 : Int32).toNatClampNeg) + 1)))) := by rw [ef13, va_up_ne _ _ nd_dL_dT]; exact h28
        refine hp_iald B0 hw h29 (by unfold vp_in; decide) dX5_begs_92 ?_
        refine lv_iload_n hx hb dX5_begs_93 rfl (lv_at hl9 1 rfl) ?_
        have h30 : f2 dM = some (.inl (cI G, 2, .inl gM)) := by rw [ef2, va_up_ne _ _ nd_dM_dL]; exact k_dM
        have h31 : f7 dM = some (.inl (cI G, 2, .inl gM)) := by rw [ef7, va_up_ne _ _ nd_dM_dR]; exact h30
        have h32 : f13 dM = some (.inl (cI G, 2, .inl gM)) := by rw [ef13, va_up_ne _ _ nd_dM_dT]; exact h31
        have n34 : dA ≠ dL := hneL k_dA k_dL (Nat.ne_of_beq_eq_false rfl)
        have h33 : f2 dA = some (.inl (cI G, 12, .inl gA)) := by rw [ef2, va_up_ne _ _ n34]; exact k_dA
        have n36 : dA ≠ dR := hneL k_dA k_dR (Nat.ne_of_beq_eq_false rfl)
        have h35 : f7 dA = some (.inl (cI G, 12, .inl gA)) := by rw [ef7, va_up_ne _ _ n36]; exact h33
        have n38 : dA ≠ dT := hneL k_dA k_dT (Nat.ne_of_beq_eq_false rfl)
        have h37 : f13 dA = some (.inl (cI G, 12, .inl gA)) := by rw [ef13, va_up_ne _ _ n38]; exact h35
        have n40 : dQ ≠ dL := hneL k_dQ k_dL (Nat.ne_of_beq_eq_false rfl)
        have h39 : f2 dQ = some (.inl (cI G, 12, .inl gQ)) := by rw [ef2, va_up_ne _ _ n40]; exact k_dQ
        have n42 : dQ ≠ dR := hneL k_dQ k_dR (Nat.ne_of_beq_eq_false rfl)
        have h41 : f7 dQ = some (.inl (cI G, 12, .inl gQ)) := by rw [ef7, va_up_ne _ _ n42]; exact h39
        have n44 : dQ ≠ dT := hneL k_dQ k_dT (Nat.ne_of_beq_eq_false rfl)
        have h43 : f13 dQ = some (.inl (cI G, 12, .inl gQ)) := by rw [ef13, va_up_ne _ _ n44]; exact h41
        have h45 : f2 dS = some (.inl (cI G, 2, .inl gS)) := by rw [ef2, va_up_ne _ _ nd_dS_dL]; exact k_dS
        have h46 : f7 dS = some (.inl (cI G, 2, .inl gS)) := by rw [ef7, va_up_ne _ _ nd_dS_dR]; exact h45
        have h47 : f13 dS = some (.inl (cI G, 2, .inl gS)) := by rw [ef13, va_up_ne _ _ nd_dS_dT]; exact h46
        have h48 : f13 dR = some (.inl (cI G, 2, .inl (upd gR (0 : Int32).toNatClampNeg ((gR (0 : Int32).toNatClampNeg) + 1)))) := by rw [ef13, va_up_ne _ _ nd_dR_dT]; exact h8
        have h49 : f2 dZ = some (.inl (cZ G, 2, .inl gZ)) := by rw [ef2, va_up_ne _ _ (Ne.symm nd_dL_dZ)]; exact k_dZ
        have h50 : f7 dZ = some (.inl (cZ G, 2, .inl gZ)) := by rw [ef7, va_up_ne _ _ (Ne.symm nd_dR_dZ)]; exact h49
        have h51 : f13 dZ = some (.inl (cZ G, 2, .inl gZ)) := by rw [ef13, va_up_ne _ _ (Ne.symm nd_dT_dZ)]; exact h50
        have h52 : f2 dI = some (.inl (cI G, 2, .inl gI)) := by rw [ef2, va_up_ne _ _ (Ne.symm nd_dL_dI)]; exact k_dI
        have h53 : f7 dI = some (.inl (cI G, 2, .inl gI)) := by rw [ef7, va_up_ne _ _ (Ne.symm nd_dR_dI)]; exact h52
        have h54 : f13 dI = some (.inl (cI G, 2, .inl gI)) := by rw [ef13, va_up_ne _ _ (Ne.symm nd_dT_dI)]; exact h53
        have h55 : f2 dH = some (.inl (cI G, 2, .inl gH)) := by rw [ef2, va_up_ne _ _ (Ne.symm nd_dL_dH)]; exact k_dH
        have h56 : f7 dH = some (.inl (cI G, 2, .inl gH)) := by rw [ef7, va_up_ne _ _ (Ne.symm nd_dR_dH)]; exact h55
        have h57 : f13 dH = some (.inl (cI G, 2, .inl gH)) := by rw [ef13, va_up_ne _ _ (Ne.symm nd_dT_dH)]; exact h56
        have h58 : f2 dN = some (.inl (cI G, 2, .inl gN)) := by rw [ef2, va_up_ne _ _ (Ne.symm nd_dL_dN)]; exact k_dN
        have h59 : f7 dN = some (.inl (cI G, 2, .inl gN)) := by rw [ef7, va_up_ne _ _ (Ne.symm nd_dR_dN)]; exact h58
        have h60 : f13 dN = some (.inl (cI G, 2, .inl gN)) := by rw [ef13, va_up_ne _ _ (Ne.symm nd_dT_dN)]; exact h59
        have n62 : dK ≠ dL := hneL k_dK k_dL (Nat.ne_of_beq_eq_false rfl)
        have h61 : f2 dK = some (.inl (cI G, 2048, .inl gK)) := by rw [ef2, va_up_ne _ _ n62]; exact k_dK
        have n64 : dK ≠ dR := hneL k_dK k_dR (Nat.ne_of_beq_eq_false rfl)
        have h63 : f7 dK = some (.inl (cI G, 2048, .inl gK)) := by rw [ef7, va_up_ne _ _ n64]; exact h61
        have n66 : dK ≠ dT := hneL k_dK k_dT (Nat.ne_of_beq_eq_false rfl)
        have h65 : f13 dK = some (.inl (cI G, 2048, .inl gK)) := by rw [ef13, va_up_ne _ _ n66]; exact h63
        have n68 : dJ ≠ dL := hneL k_dJ k_dL (Nat.ne_of_beq_eq_false rfl)
        have h67 : f2 dJ = some (.inl (cI G, 2048, .inl gJ)) := by rw [ef2, va_up_ne _ _ n68]; exact k_dJ
        have n70 : dJ ≠ dR := hneL k_dJ k_dR (Nat.ne_of_beq_eq_false rfl)
        have h69 : f7 dJ = some (.inl (cI G, 2048, .inl gJ)) := by rw [ef7, va_up_ne _ _ n70]; exact h67
        have n72 : dJ ≠ dT := hneL k_dJ k_dT (Nat.ne_of_beq_eq_false rfl)
        have h71 : f13 dJ = some (.inl (cI G, 2048, .inl gJ)) := by rw [ef13, va_up_ne _ _ n72]; exact h69
        have n74 : dU ≠ dL := hneL k_dU k_dL (Nat.ne_of_beq_eq_false rfl)
        have h73 : f2 dU = some (.inl (cI G, 2048, .inl gU)) := by rw [ef2, va_up_ne _ _ n74]; exact k_dU
        have n76 : dU ≠ dR := hneL k_dU k_dR (Nat.ne_of_beq_eq_false rfl)
        have h75 : f7 dU = some (.inl (cI G, 2048, .inl gU)) := by rw [ef7, va_up_ne _ _ n76]; exact h73
        have n78 : dU ≠ dT := hneL k_dU k_dT (Nat.ne_of_beq_eq_false rfl)
        have h77 : f13 dU = some (.inl (cI G, 2048, .inl gU)) := by rw [ef13, va_up_ne _ _ n78]; exact h75
        have n80 : dO ≠ dL := hneL k_dO k_dL (Nat.ne_of_beq_eq_false rfl)
        have h79 : f2 dO = some (.inl (cI G, 2048, .inl gO)) := by rw [ef2, va_up_ne _ _ n80]; exact k_dO
        have n82 : dO ≠ dR := hneL k_dO k_dR (Nat.ne_of_beq_eq_false rfl)
        have h81 : f7 dO = some (.inl (cI G, 2048, .inl gO)) := by rw [ef7, va_up_ne _ _ n82]; exact h79
        have n84 : dO ≠ dT := hneL k_dO k_dT (Nat.ne_of_beq_eq_false rfl)
        have h83 : f13 dO = some (.inl (cI G, 2048, .inl gO)) := by rw [ef13, va_up_ne _ _ n84]; exact h81
        refine hp_V (ci := 5) (As := [.int 0, .int 0, .int ((upd gL (0 : Int32).toNatClampNeg ((gL (0 : Int32).toNatClampNeg) + 1)) (0 : Int32).toNatClampNeg), .int k9]) (rest := []) B0 hw hS (c_W5_sends hl G f13 mo dW dA dQ dM dS dL dR dT dZ dI dH dN dK dJ dU dO dF dP dE dX dY dG vth vpk vpc vnx vgv h26 hND gM gA h32 h37 hSA B ⟨_, _, _, _, _, _, _, _, _, _, _, _, _, h43, h47, h29, h48, h14, h51, h54, h57, h60, h65, h71, h77, h83, hHd9, (hMn.mono hMn9 (by omega))⟩ (by omega) 0 0 ((upd gL (0 : Int32).toNatClampNeg ((gL (0 : Int32).toNatClampNeg) + 1)) (0 : Int32).toNatClampNeg) k9 (Or.inl rfl)) mV_X5_sends qM_X5_96 rfl h26 rfl rfl hl9.1 (Nat.le_of_ble_eq_true rfl) ⟨⟨Nat.le_of_ble_eq_true rfl, Nat.le_of_ble_eq_true rfl⟩, Nat.le_of_ble_eq_true rfl, Nat.le_of_ble_eq_true rfl⟩ dX5_begs_94 (fun E ce q9 f85 H locs hPX hw hS hce hcv hcl => ?_) (fun v f85 H locs hP hw hS => ?_)
        · exact hPX.elim
        · obtain ⟨ev9, h87, k88⟩ := hP
          have h87L := h87
          obtain ⟨gQ_n86, gS_n86, gL_n86, gR_n86, gT_n86, gZ_n86, gI_n86, gH_n86, gN_n86, gK_n86, gJ_n86, gU_n86, gO_n86, k_dQ_n86, k_dS_n86, k_dL_n86, k_dR_n86, k_dT_n86, k_dZ_n86, k_dI_n86, k_dH_n86, k_dN_n86, k_dK_n86, k_dJ_n86, k_dU_n86, k_dO_n86, hHd9_n86, hMn9_n86⟩ := id h87
          subst ev9
          refine W.eq (g2 := F0 m 97 ls []) rfl ?_
          refine lv_iconst (v := 1) hx hb dX5_begs_97 (by decide) ?_
          exact hp_zret (v := 1) B0 hw hS hr ⟨Nat.le_of_ble_eq_true rfl, Nat.le_of_ble_eq_true rfl⟩ (rfl) dX5_begs_98 (⟨Or.inr rfl, ⟨_, _, _, _, _, _, _, _, _, _, _, _, _, k_dQ_n86, k_dS_n86, k_dL_n86, k_dR_n86, k_dT_n86, k_dZ_n86, k_dI_n86, k_dH_n86, k_dN_n86, k_dK_n86, k_dJ_n86, k_dU_n86, k_dO_n86, hHd9_n86, (hMn.mono hMn9_n86 (by omega))⟩, ((show hEq [dQ, dS, dL, dR, dT, dZ, dI, dH, dN, dK, dJ, dU, dO] f f2 from (by rw [ef2]; exact hEq.up (List.mem_cons_of_mem _ (List.mem_cons_of_mem _ List.mem_cons_self)))).tr ((show hEq [dQ, dS, dL, dR, dT, dZ, dI, dH, dN, dK, dJ, dU, dO] f2 f7 from (by rw [ef7]; exact hEq.up (List.mem_cons_of_mem _ (List.mem_cons_of_mem _ (List.mem_cons_of_mem _ List.mem_cons_self))))).tr ((show hEq [dQ, dS, dL, dR, dT, dZ, dI, dH, dN, dK, dJ, dU, dO] f7 f13 from (by rw [ef13]; exact hEq.up (List.mem_cons_of_mem _ (List.mem_cons_of_mem _ (List.mem_cons_of_mem _ (List.mem_cons_of_mem _ List.mem_cons_self)))))).tr (show hEq [dQ, dS, dL, dR, dT, dZ, dI, dH, dN, dK, dJ, dU, dO] f13 f85 from (hEq.mono k88 (fun _ h9 => h9))))))⟩)
    · refine lv_aload_n hx hb dX5_begs_11 rfl (lv_at hl9 0 rfl) ?_
      refine hp_get B0 hw 5 rfl in_X5 k_mo 5 (by decide) qF_X5_22 rfl dX5_begs_12 ?_
      refine lv_iload_n hx hb dX5_begs_15 rfl (lv_at hl9 1 rfl) ?_
      refine lv_iconst (v := 0) hx hb dX5_begs_16 (by decide) ?_
      refine hp_iast B0 hw hS k_dS (by unfold vp_in; decide) dX5_begs_17 (fun H locs f89 ef89 hw hS => ?_)
      have h90 : f89 dS = some (.inl (cI G, 2, .inl (upd gS (0 : Int32).toNatClampNeg 0))) := by rw [ef89, va_up_self]
      refine lv_iconst (v := 0) hx hb dX5_begs_18 (by decide) ?_
      have n92 : dQ ≠ dS := hneL k_dQ k_dS (Nat.ne_of_beq_eq_false rfl)
      have h91 : f89 dQ = some (.inl (cI G, 12, .inl gQ)) := by rw [ef89, va_up_ne _ _ n92]; exact k_dQ
      have h93 : f89 dL = some (.inl (cI G, 2, .inl gL)) := by rw [ef89, va_up_ne _ _ (Ne.symm nd_dS_dL)]; exact k_dL
      have h94 : f89 dR = some (.inl (cI G, 2, .inl gR)) := by rw [ef89, va_up_ne _ _ (Ne.symm nd_dS_dR)]; exact k_dR
      have h95 : f89 dT = some (.inl (cI G, 2, .inl gT)) := by rw [ef89, va_up_ne _ _ (Ne.symm nd_dS_dT)]; exact k_dT
      have h96 : f89 dZ = some (.inl (cZ G, 2, .inl gZ)) := by rw [ef89, va_up_ne _ _ (Ne.symm nd_dS_dZ)]; exact k_dZ
      have h97 : f89 dI = some (.inl (cI G, 2, .inl gI)) := by rw [ef89, va_up_ne _ _ (Ne.symm nd_dS_dI)]; exact k_dI
      have h98 : f89 dH = some (.inl (cI G, 2, .inl gH)) := by rw [ef89, va_up_ne _ _ (Ne.symm nd_dS_dH)]; exact k_dH
      have h99 : f89 dN = some (.inl (cI G, 2, .inl gN)) := by rw [ef89, va_up_ne _ _ (Ne.symm nd_dS_dN)]; exact k_dN
      have n101 : dK ≠ dS := hneL k_dK k_dS (Nat.ne_of_beq_eq_false rfl)
      have h100 : f89 dK = some (.inl (cI G, 2048, .inl gK)) := by rw [ef89, va_up_ne _ _ n101]; exact k_dK
      have n103 : dJ ≠ dS := hneL k_dJ k_dS (Nat.ne_of_beq_eq_false rfl)
      have h102 : f89 dJ = some (.inl (cI G, 2048, .inl gJ)) := by rw [ef89, va_up_ne _ _ n103]; exact k_dJ
      have n105 : dU ≠ dS := hneL k_dU k_dS (Nat.ne_of_beq_eq_false rfl)
      have h104 : f89 dU = some (.inl (cI G, 2048, .inl gU)) := by rw [ef89, va_up_ne _ _ n105]; exact k_dU
      have n107 : dO ≠ dS := hneL k_dO k_dS (Nat.ne_of_beq_eq_false rfl)
      have h106 : f89 dO = some (.inl (cI G, 2048, .inl gO)) := by rw [ef89, va_up_ne _ _ n107]; exact k_dO
      exact hp_zret (v := 0) B0 hw hS hr ⟨Nat.le_of_ble_eq_true rfl, Nat.le_of_ble_eq_true rfl⟩ (rfl) dX5_begs_19 (⟨Or.inl rfl, ⟨_, _, _, _, _, _, _, _, _, _, _, _, _, h91, h90, h93, h94, h95, h96, h97, h98, h99, h100, h102, h104, h106, hHd9, (hMn.mono hMn9 (by omega))⟩, (show hEq [dQ, dS, dL, dR, dT, dZ, dI, dH, dN, dK, dJ, dU, dO] f f89 from (by rw [ef89]; exact hEq.up (List.mem_cons_of_mem _ List.mem_cons_self)))⟩)
  · refine lv_aload_n hx hb dX5_begs_0 rfl (lv_at hl9 0 rfl) ?_
    refine hp_get B0 hw 5 rfl in_X5 k_mo 7 (by decide) qF_X5_28 rfl dX5_begs_1 ?_
    refine lv_iload_n hx hb dX5_begs_4 rfl (lv_at hl9 1 rfl) ?_
    refine hp_iald B0 hw k_dR (by unfold vp_in; decide) dX5_begs_5 ?_
    refine lv_bipush (v := 10) hx hb dX5_begs_6 (by decide) ?_
    refine lv_icmp_ne (tgt := 20) hx hb dX5_begs_8 (by decide) (fun c108 => ?_) (fun c108 => ?_)
    · refine lv_aload_n hx hb dX5_begs_20 rfl (lv_at hl9 0 rfl) ?_
      refine hp_get B0 hw 5 rfl in_X5 k_mo 6 (by decide) qF_X5_25 rfl dX5_begs_21 ?_
      refine lv_iload_n hx hb dX5_begs_24 rfl (lv_at hl9 1 rfl) ?_
      refine lv_dup2_11 hx hb dX5_begs_25 rfl rfl ?_
      refine hp_iald B0 hw k_dL (by unfold vp_in; decide) dX5_begs_26 ?_
      refine lv_iconst (v := 1) hx hb dX5_begs_27 (by decide) ?_
      refine lv_iadd hx hb dX5_begs_28 ?_
      refine hp_iast B0 hw hS k_dL (by unfold vp_in; decide) dX5_begs_29 (fun H locs f109 ef109 hw hS => ?_)
      have h110 : f109 dL = some (.inl (cI G, 2, .inl (upd gL (1 : Int32).toNatClampNeg ((gL (1 : Int32).toNatClampNeg) + 1)))) := by rw [ef109, va_up_self]
      refine lv_aload_n hx hb dX5_begs_30 rfl (lv_at hl9 0 rfl) ?_
      have n112 : mo ≠ dL := hne k_mo k_dL (Nat.ne_of_beq_eq_false rfl)
      have h111 : f109 mo = some (.inr (5, [.int vth, .ref dW, .ref dA, .ref dQ, .ref dM, .ref dS, .ref dL, .ref dR, .ref dT, .ref dZ, .ref dI, .ref dH, .ref dN, .ref dK, .ref dJ, .ref dU, .ref dO, .int vpk, .int vpc, .ref dF, .ref dP, .ref dE, .ref dX, .ref dY, .int vnx, .int vgv, .ref dG])) := by rw [ef109, va_up_ne _ _ n112]; exact k_mo
      refine hp_get B0 hw 5 rfl in_X5 h111 7 (by decide) qF_X5_28 rfl dX5_begs_31 ?_
      refine lv_iload_n hx hb dX5_begs_34 rfl (lv_at hl9 1 rfl) ?_
      refine lv_dup2_11 hx hb dX5_begs_35 rfl rfl ?_
      have h113 : f109 dR = some (.inl (cI G, 2, .inl gR)) := by rw [ef109, va_up_ne _ _ (Ne.symm nd_dL_dR)]; exact k_dR
      refine hp_iald B0 hw h113 (by unfold vp_in; decide) dX5_begs_36 ?_
      refine lv_iconst (v := 1) hx hb dX5_begs_37 (by decide) ?_
      refine lv_iadd hx hb dX5_begs_38 ?_
      refine hp_iast B0 hw hS h113 (by unfold vp_in; decide) dX5_begs_39 (fun H locs f114 ef114 hw hS => ?_)
      have h115 : f114 dR = some (.inl (cI G, 2, .inl (upd gR (1 : Int32).toNatClampNeg ((gR (1 : Int32).toNatClampNeg) + 1)))) := by rw [ef114, va_up_self]
      refine lv_aload_n hx hb dX5_begs_40 rfl (lv_at hl9 0 rfl) ?_
      have n117 : mo ≠ dR := hne k_mo k_dR (Nat.ne_of_beq_eq_false rfl)
      have h116 : f114 mo = some (.inr (5, [.int vth, .ref dW, .ref dA, .ref dQ, .ref dM, .ref dS, .ref dL, .ref dR, .ref dT, .ref dZ, .ref dI, .ref dH, .ref dN, .ref dK, .ref dJ, .ref dU, .ref dO, .int vpk, .int vpc, .ref dF, .ref dP, .ref dE, .ref dX, .ref dY, .int vnx, .int vgv, .ref dG])) := by rw [ef114, va_up_ne _ _ n117]; exact h111
      refine hp_get B0 hw 5 rfl in_X5 h116 8 (by decide) qF_X5_31 rfl dX5_begs_41 ?_
      refine lv_iload_n hx hb dX5_begs_44 rfl (lv_at hl9 1 rfl) ?_
      refine lv_iconst (v := 3) hx hb dX5_begs_45 (by decide) ?_
      have h118 : f109 dT = some (.inl (cI G, 2, .inl gT)) := by rw [ef109, va_up_ne _ _ (Ne.symm nd_dL_dT)]; exact k_dT
      have h119 : f114 dT = some (.inl (cI G, 2, .inl gT)) := by rw [ef114, va_up_ne _ _ (Ne.symm nd_dR_dT)]; exact h118
      refine hp_iast B0 hw hS h119 (by unfold vp_in; decide) dX5_begs_46 (fun H locs f120 ef120 hw hS => ?_)
      have h121 : f120 dT = some (.inl (cI G, 2, .inl (upd gT (1 : Int32).toNatClampNeg 3))) := by rw [ef120, va_up_self]
      refine lv_iconst (v := 0) hx hb dX5_begs_47 (by decide) ?_
      refine lv_istore_n (lv' := [(2, .int 0), (0, .ref mo), (1, .int 1)]) hx hb dX5_begs_48 rfl hl9 (by decide) rfl (fun ls hl9 => ?_)
      refine lv_iconst (v := 0) hx hb dX5_begs_49 (by decide) ?_
      refine lv_istore_n (lv' := [(3, .int 0), (2, .int 0), (0, .ref mo), (1, .int 1)]) hx hb dX5_begs_50 rfl hl9 (by decide) rfl (fun ls hl9 => ?_)
      refine hp_for (nL := 4) (pc := 51) (fun j f9 lv9 => f9 = f120 ∧ ∃ k9 : Int32, lv9 = [(3, .int (nI j)), (2, .int k9), (0, .ref mo), (1, .int 1)]) 6 (fun j f9 lv9 H locs ls hj hI hw hS hl9 ih => ?_) (fun f9 lv9 H locs ls hI hw hS hl9 => ?_) 6 0 (by decide) f120 _ _ _ ls ⟨rfl, _, rfl⟩ hw hS (lv_sub hl9 [0, 1, 2, 3] rfl)
      · obtain ⟨ef9, k9, el9⟩ := hI
        rw [ef9] at hw
        rw [el9] at hl9
        refine lv_iload_n hx hb dX5_begs_51 rfl (lv_at hl9 0 rfl) ?_
        refine lv_bipush (v := 6) hx hb dX5_begs_52 (by decide) ?_
        refine lv_icmp_ge (tgt := 84) hx hb dX5_begs_54 (by decide) (fun c9 => absurd c9 (by rw [show (6 : Int32) = nI 6 from rfl]; exact nI_ge hj (by omega))) (fun _ => ?_)
        refine lv_iload_n hx hb dX5_begs_57 rfl (lv_at hl9 1 rfl) ?_
        refine lv_iload_n hx hb dX5_begs_58 rfl (lv_at hl9 0 rfl) ?_
        refine hp_S (As := [.int (nI j)]) (rest := [.int k9]) B0 hw hS (c_W5_place hl G f120 j hj) mS_X5_place qM_X5_92 rfl rfl hl9.1 (Nat.le_of_ble_eq_true rfl) ⟨⟨Nat.le_of_ble_eq_true rfl, Nat.le_of_ble_eq_true rfl⟩, Nat.le_of_ble_eq_true rfl, Nat.le_of_ble_eq_true rfl⟩ dX5_begs_59 (fun E ce q9 f122 H locs hPX hw hS hce hcv hcl => ?_) (fun v f122 H locs hP hw hS => ?_)
        · exact hPX.elim
        · obtain ⟨⟨r123, ev9, h124⟩, ef9⟩ := hP
          rw [ef9] at hw
          subst ev9
          refine W.eq (g2 := F0 m 62 ls [.int r123, .int k9]) rfl ?_
          refine lv_aload_n hx hb dX5_begs_62 rfl (lv_at hl9 2 rfl) ?_
          have n126 : mo ≠ dT := hne k_mo k_dT (Nat.ne_of_beq_eq_false rfl)
          have h125 : f120 mo = some (.inr (5, [.int vth, .ref dW, .ref dA, .ref dQ, .ref dM, .ref dS, .ref dL, .ref dR, .ref dT, .ref dZ, .ref dI, .ref dH, .ref dN, .ref dK, .ref dJ, .ref dU, .ref dO, .int vpk, .int vpc, .ref dF, .ref dP, .ref dE, .ref dX, .ref dY, .int vnx, .int vgv, .ref dG])) := by rw [ef120, va_up_ne _ _ n126]; exact h116
          refine hp_get B0 hw 5 rfl in_X5 h125 3 (by decide) qF_X5_16 rfl dX5_begs_63 ?_
          refine lv_bipush (v := 6) hx hb dX5_begs_66 (by decide) ?_
          refine lv_iload_n hx hb dX5_begs_68 rfl (lv_at hl9 3 rfl) ?_
          refine lv_imul hx hb dX5_begs_69 ?_
          refine hp_c (v := 6) (by decide) ?_
          refine lv_iload_n hx hb dX5_begs_70 rfl (lv_at hl9 0 rfl) ?_
          refine lv_iadd hx hb dX5_begs_71 ?_
          refine hp_c (v := (nI (6 + j))) (nI_add 6 j) ?_
          have n128 : dQ ≠ dL := hneL k_dQ k_dL (Nat.ne_of_beq_eq_false rfl)
          have h127 : f109 dQ = some (.inl (cI G, 12, .inl gQ)) := by rw [ef109, va_up_ne _ _ n128]; exact k_dQ
          have n130 : dQ ≠ dR := hneL k_dQ k_dR (Nat.ne_of_beq_eq_false rfl)
          have h129 : f114 dQ = some (.inl (cI G, 12, .inl gQ)) := by rw [ef114, va_up_ne _ _ n130]; exact h127
          have n132 : dQ ≠ dT := hneL k_dQ k_dT (Nat.ne_of_beq_eq_false rfl)
          have h131 : f120 dQ = some (.inl (cI G, 12, .inl gQ)) := by rw [ef120, va_up_ne _ _ n132]; exact h129
          refine hp_iald B0 hw h131 (vp_in_nI (show (6 + j) < 12 by omega) (by decide)) dX5_begs_72 ?_
          refine lv_iconst (v := 1) hx hb dX5_begs_73 (by decide) ?_
          refine lv_iadd hx hb dX5_begs_74 ?_
          refine lv_imul hx hb dX5_begs_75 ?_
          refine lv_iadd hx hb dX5_begs_76 ?_
          refine lv_istore_n (lv' := [(2, .int (k9 + (r123 * ((gQ ((nI (6 + j)) : Int32).toNatClampNeg) + 1)))), (3, .int (nI j)), (0, .ref mo), (1, .int 1)]) hx hb dX5_begs_77 rfl hl9 (by decide) rfl (fun ls hl9 => ?_)
          refine lv_iinc (v := (nI (j + 1))) (lv' := [(3, .int (nI (j + 1))), (2, .int (k9 + (r123 * ((gQ ((nI (6 + j)) : Int32).toNatClampNeg) + 1)))), (0, .ref mo), (1, .int 1)]) hx hb dX5_begs_78 hl9 (k := 1) rfl (nI_1 j) (by decide) rfl (fun ls hl9 => ?_)
          refine lv_goto (tgt := 51) hx hb dX5_begs_81 (by decide) ?_
          exact ih _ _ H locs ls ⟨rfl, _, rfl⟩ hw hS (lv_sub hl9 [0, 1, 2, 3] rfl)
      · obtain ⟨ef9, k9, el9⟩ := hI
        rw [ef9] at hw
        rw [el9] at hl9
        refine lv_iload_n hx hb dX5_begs_51 rfl (lv_at hl9 0 rfl) ?_
        refine lv_bipush (v := 6) hx hb dX5_begs_52 (by decide) ?_
        refine lv_icmp_ge (tgt := 84) hx hb dX5_begs_54 (by decide) (fun _ => ?_) (fun c9 => absurd (by decide) c9)
        refine lv_aload_n hx hb dX5_begs_84 rfl (lv_at hl9 2 rfl) ?_
        refine lv_iload_n hx hb dX5_begs_85 rfl (lv_at hl9 3 rfl) ?_
        refine lv_iconst (v := 0) hx hb dX5_begs_86 (by decide) ?_
        refine lv_aload_n hx hb dX5_begs_87 rfl (lv_at hl9 2 rfl) ?_
        have n134 : mo ≠ dT := hne k_mo k_dT (Nat.ne_of_beq_eq_false rfl)
        have h133 : f120 mo = some (.inr (5, [.int vth, .ref dW, .ref dA, .ref dQ, .ref dM, .ref dS, .ref dL, .ref dR, .ref dT, .ref dZ, .ref dI, .ref dH, .ref dN, .ref dK, .ref dJ, .ref dU, .ref dO, .int vpk, .int vpc, .ref dF, .ref dP, .ref dE, .ref dX, .ref dY, .int vnx, .int vgv, .ref dG])) := by rw [ef120, va_up_ne _ _ n134]; exact h116
        refine hp_get B0 hw 5 rfl in_X5 h133 6 (by decide) qF_X5_25 rfl dX5_begs_88 ?_
        refine lv_iload_n hx hb dX5_begs_91 rfl (lv_at hl9 3 rfl) ?_
        have h135 : f114 dL = some (.inl (cI G, 2, .inl (upd gL (1 : Int32).toNatClampNeg ((gL (1 : Int32).toNatClampNeg) + 1)))) := by rw [ef114, va_up_ne _ _ nd_dL_dR]; exact h110
        have h136 : f120 dL = some (.inl (cI G, 2, .inl (upd gL (1 : Int32).toNatClampNeg ((gL (1 : Int32).toNatClampNeg) + 1)))) := by rw [ef120, va_up_ne _ _ nd_dL_dT]; exact h135
        refine hp_iald B0 hw h136 (by unfold vp_in; decide) dX5_begs_92 ?_
        refine lv_iload_n hx hb dX5_begs_93 rfl (lv_at hl9 1 rfl) ?_
        have h137 : f109 dM = some (.inl (cI G, 2, .inl gM)) := by rw [ef109, va_up_ne _ _ nd_dM_dL]; exact k_dM
        have h138 : f114 dM = some (.inl (cI G, 2, .inl gM)) := by rw [ef114, va_up_ne _ _ nd_dM_dR]; exact h137
        have h139 : f120 dM = some (.inl (cI G, 2, .inl gM)) := by rw [ef120, va_up_ne _ _ nd_dM_dT]; exact h138
        have n141 : dA ≠ dL := hneL k_dA k_dL (Nat.ne_of_beq_eq_false rfl)
        have h140 : f109 dA = some (.inl (cI G, 12, .inl gA)) := by rw [ef109, va_up_ne _ _ n141]; exact k_dA
        have n143 : dA ≠ dR := hneL k_dA k_dR (Nat.ne_of_beq_eq_false rfl)
        have h142 : f114 dA = some (.inl (cI G, 12, .inl gA)) := by rw [ef114, va_up_ne _ _ n143]; exact h140
        have n145 : dA ≠ dT := hneL k_dA k_dT (Nat.ne_of_beq_eq_false rfl)
        have h144 : f120 dA = some (.inl (cI G, 12, .inl gA)) := by rw [ef120, va_up_ne _ _ n145]; exact h142
        have n147 : dQ ≠ dL := hneL k_dQ k_dL (Nat.ne_of_beq_eq_false rfl)
        have h146 : f109 dQ = some (.inl (cI G, 12, .inl gQ)) := by rw [ef109, va_up_ne _ _ n147]; exact k_dQ
        have n149 : dQ ≠ dR := hneL k_dQ k_dR (Nat.ne_of_beq_eq_false rfl)
        have h148 : f114 dQ = some (.inl (cI G, 12, .inl gQ)) := by rw [ef114, va_up_ne _ _ n149]; exact h146
        have n151 : dQ ≠ dT := hneL k_dQ k_dT (Nat.ne_of_beq_eq_false rfl)
        have h150 : f120 dQ = some (.inl (cI G, 12, .inl gQ)) := by rw [ef120, va_up_ne _ _ n151]; exact h148
        have h152 : f109 dS = some (.inl (cI G, 2, .inl gS)) := by rw [ef109, va_up_ne _ _ nd_dS_dL]; exact k_dS
        have h153 : f114 dS = some (.inl (cI G, 2, .inl gS)) := by rw [ef114, va_up_ne _ _ nd_dS_dR]; exact h152
        have h154 : f120 dS = some (.inl (cI G, 2, .inl gS)) := by rw [ef120, va_up_ne _ _ nd_dS_dT]; exact h153
        have h155 : f120 dR = some (.inl (cI G, 2, .inl (upd gR (1 : Int32).toNatClampNeg ((gR (1 : Int32).toNatClampNeg) + 1)))) := by rw [ef120, va_up_ne _ _ nd_dR_dT]; exact h115
        have h156 : f109 dZ = some (.inl (cZ G, 2, .inl gZ)) := by rw [ef109, va_up_ne _ _ (Ne.symm nd_dL_dZ)]; exact k_dZ
        have h157 : f114 dZ = some (.inl (cZ G, 2, .inl gZ)) := by rw [ef114, va_up_ne _ _ (Ne.symm nd_dR_dZ)]; exact h156
        have h158 : f120 dZ = some (.inl (cZ G, 2, .inl gZ)) := by rw [ef120, va_up_ne _ _ (Ne.symm nd_dT_dZ)]; exact h157
        have h159 : f109 dI = some (.inl (cI G, 2, .inl gI)) := by rw [ef109, va_up_ne _ _ (Ne.symm nd_dL_dI)]; exact k_dI
        have h160 : f114 dI = some (.inl (cI G, 2, .inl gI)) := by rw [ef114, va_up_ne _ _ (Ne.symm nd_dR_dI)]; exact h159
        have h161 : f120 dI = some (.inl (cI G, 2, .inl gI)) := by rw [ef120, va_up_ne _ _ (Ne.symm nd_dT_dI)]; exact h160
        have h162 : f109 dH = some (.inl (cI G, 2, .inl gH)) := by rw [ef109, va_up_ne _ _ (Ne.symm nd_dL_dH)]; exact k_dH
        have h163 : f114 dH = some (.inl (cI G, 2, .inl gH)) := by rw [ef114, va_up_ne _ _ (Ne.symm nd_dR_dH)]; exact h162
        have h164 : f120 dH = some (.inl (cI G, 2, .inl gH)) := by rw [ef120, va_up_ne _ _ (Ne.symm nd_dT_dH)]; exact h163
        have h165 : f109 dN = some (.inl (cI G, 2, .inl gN)) := by rw [ef109, va_up_ne _ _ (Ne.symm nd_dL_dN)]; exact k_dN
        have h166 : f114 dN = some (.inl (cI G, 2, .inl gN)) := by rw [ef114, va_up_ne _ _ (Ne.symm nd_dR_dN)]; exact h165
        have h167 : f120 dN = some (.inl (cI G, 2, .inl gN)) := by rw [ef120, va_up_ne _ _ (Ne.symm nd_dT_dN)]; exact h166
        have n169 : dK ≠ dL := hneL k_dK k_dL (Nat.ne_of_beq_eq_false rfl)
        have h168 : f109 dK = some (.inl (cI G, 2048, .inl gK)) := by rw [ef109, va_up_ne _ _ n169]; exact k_dK
        have n171 : dK ≠ dR := hneL k_dK k_dR (Nat.ne_of_beq_eq_false rfl)
        have h170 : f114 dK = some (.inl (cI G, 2048, .inl gK)) := by rw [ef114, va_up_ne _ _ n171]; exact h168
        have n173 : dK ≠ dT := hneL k_dK k_dT (Nat.ne_of_beq_eq_false rfl)
        have h172 : f120 dK = some (.inl (cI G, 2048, .inl gK)) := by rw [ef120, va_up_ne _ _ n173]; exact h170
        have n175 : dJ ≠ dL := hneL k_dJ k_dL (Nat.ne_of_beq_eq_false rfl)
        have h174 : f109 dJ = some (.inl (cI G, 2048, .inl gJ)) := by rw [ef109, va_up_ne _ _ n175]; exact k_dJ
        have n177 : dJ ≠ dR := hneL k_dJ k_dR (Nat.ne_of_beq_eq_false rfl)
        have h176 : f114 dJ = some (.inl (cI G, 2048, .inl gJ)) := by rw [ef114, va_up_ne _ _ n177]; exact h174
        have n179 : dJ ≠ dT := hneL k_dJ k_dT (Nat.ne_of_beq_eq_false rfl)
        have h178 : f120 dJ = some (.inl (cI G, 2048, .inl gJ)) := by rw [ef120, va_up_ne _ _ n179]; exact h176
        have n181 : dU ≠ dL := hneL k_dU k_dL (Nat.ne_of_beq_eq_false rfl)
        have h180 : f109 dU = some (.inl (cI G, 2048, .inl gU)) := by rw [ef109, va_up_ne _ _ n181]; exact k_dU
        have n183 : dU ≠ dR := hneL k_dU k_dR (Nat.ne_of_beq_eq_false rfl)
        have h182 : f114 dU = some (.inl (cI G, 2048, .inl gU)) := by rw [ef114, va_up_ne _ _ n183]; exact h180
        have n185 : dU ≠ dT := hneL k_dU k_dT (Nat.ne_of_beq_eq_false rfl)
        have h184 : f120 dU = some (.inl (cI G, 2048, .inl gU)) := by rw [ef120, va_up_ne _ _ n185]; exact h182
        have n187 : dO ≠ dL := hneL k_dO k_dL (Nat.ne_of_beq_eq_false rfl)
        have h186 : f109 dO = some (.inl (cI G, 2048, .inl gO)) := by rw [ef109, va_up_ne _ _ n187]; exact k_dO
        have n189 : dO ≠ dR := hneL k_dO k_dR (Nat.ne_of_beq_eq_false rfl)
        have h188 : f114 dO = some (.inl (cI G, 2048, .inl gO)) := by rw [ef114, va_up_ne _ _ n189]; exact h186
        have n191 : dO ≠ dT := hneL k_dO k_dT (Nat.ne_of_beq_eq_false rfl)
        have h190 : f120 dO = some (.inl (cI G, 2048, .inl gO)) := by rw [ef120, va_up_ne _ _ n191]; exact h188
        refine hp_V (ci := 5) (As := [.int 1, .int 0, .int ((upd gL (1 : Int32).toNatClampNeg ((gL (1 : Int32).toNatClampNeg) + 1)) (1 : Int32).toNatClampNeg), .int k9]) (rest := []) B0 hw hS (c_W5_sends hl G f120 mo dW dA dQ dM dS dL dR dT dZ dI dH dN dK dJ dU dO dF dP dE dX dY dG vth vpk vpc vnx vgv h133 hND gM gA h139 h144 hSA B ⟨_, _, _, _, _, _, _, _, _, _, _, _, _, h150, h154, h136, h155, h121, h158, h161, h164, h167, h172, h178, h184, h190, hHd9, (hMn.mono hMn9 (by omega))⟩ (by omega) 1 0 ((upd gL (1 : Int32).toNatClampNeg ((gL (1 : Int32).toNatClampNeg) + 1)) (1 : Int32).toNatClampNeg) k9 (Or.inr rfl)) mV_X5_sends qM_X5_96 rfl h133 rfl rfl hl9.1 (Nat.le_of_ble_eq_true rfl) ⟨⟨Nat.le_of_ble_eq_true rfl, Nat.le_of_ble_eq_true rfl⟩, Nat.le_of_ble_eq_true rfl, Nat.le_of_ble_eq_true rfl⟩ dX5_begs_94 (fun E ce q9 f192 H locs hPX hw hS hce hcv hcl => ?_) (fun v f192 H locs hP hw hS => ?_)
        · exact hPX.elim
        · obtain ⟨ev9, h194, k195⟩ := hP
          have h194L := h194
          obtain ⟨gQ_n193, gS_n193, gL_n193, gR_n193, gT_n193, gZ_n193, gI_n193, gH_n193, gN_n193, gK_n193, gJ_n193, gU_n193, gO_n193, k_dQ_n193, k_dS_n193, k_dL_n193, k_dR_n193, k_dT_n193, k_dZ_n193, k_dI_n193, k_dH_n193, k_dN_n193, k_dK_n193, k_dJ_n193, k_dU_n193, k_dO_n193, hHd9_n193, hMn9_n193⟩ := id h194
          subst ev9
          refine W.eq (g2 := F0 m 97 ls []) rfl ?_
          refine lv_iconst (v := 1) hx hb dX5_begs_97 (by decide) ?_
          exact hp_zret (v := 1) B0 hw hS hr ⟨Nat.le_of_ble_eq_true rfl, Nat.le_of_ble_eq_true rfl⟩ (rfl) dX5_begs_98 (⟨Or.inr rfl, ⟨_, _, _, _, _, _, _, _, _, _, _, _, _, k_dQ_n193, k_dS_n193, k_dL_n193, k_dR_n193, k_dT_n193, k_dZ_n193, k_dI_n193, k_dH_n193, k_dN_n193, k_dK_n193, k_dJ_n193, k_dU_n193, k_dO_n193, hHd9_n193, (hMn.mono hMn9_n193 (by omega))⟩, ((show hEq [dQ, dS, dL, dR, dT, dZ, dI, dH, dN, dK, dJ, dU, dO] f f109 from (by rw [ef109]; exact hEq.up (List.mem_cons_of_mem _ (List.mem_cons_of_mem _ List.mem_cons_self)))).tr ((show hEq [dQ, dS, dL, dR, dT, dZ, dI, dH, dN, dK, dJ, dU, dO] f109 f114 from (by rw [ef114]; exact hEq.up (List.mem_cons_of_mem _ (List.mem_cons_of_mem _ (List.mem_cons_of_mem _ List.mem_cons_self))))).tr ((show hEq [dQ, dS, dL, dR, dT, dZ, dI, dH, dN, dK, dJ, dU, dO] f114 f120 from (by rw [ef120]; exact hEq.up (List.mem_cons_of_mem _ (List.mem_cons_of_mem _ (List.mem_cons_of_mem _ (List.mem_cons_of_mem _ List.mem_cons_self)))))).tr (show hEq [dQ, dS, dL, dR, dT, dZ, dI, dH, dN, dK, dJ, dU, dO] f120 f192 from (hEq.mono k195 (fun _ h9 => h9))))))⟩)
    · refine lv_aload_n hx hb dX5_begs_11 rfl (lv_at hl9 0 rfl) ?_
      refine hp_get B0 hw 5 rfl in_X5 k_mo 5 (by decide) qF_X5_22 rfl dX5_begs_12 ?_
      refine lv_iload_n hx hb dX5_begs_15 rfl (lv_at hl9 1 rfl) ?_
      refine lv_iconst (v := 0) hx hb dX5_begs_16 (by decide) ?_
      refine hp_iast B0 hw hS k_dS (by unfold vp_in; decide) dX5_begs_17 (fun H locs f196 ef196 hw hS => ?_)
      have h197 : f196 dS = some (.inl (cI G, 2, .inl (upd gS (1 : Int32).toNatClampNeg 0))) := by rw [ef196, va_up_self]
      refine lv_iconst (v := 0) hx hb dX5_begs_18 (by decide) ?_
      have n199 : dQ ≠ dS := hneL k_dQ k_dS (Nat.ne_of_beq_eq_false rfl)
      have h198 : f196 dQ = some (.inl (cI G, 12, .inl gQ)) := by rw [ef196, va_up_ne _ _ n199]; exact k_dQ
      have h200 : f196 dL = some (.inl (cI G, 2, .inl gL)) := by rw [ef196, va_up_ne _ _ (Ne.symm nd_dS_dL)]; exact k_dL
      have h201 : f196 dR = some (.inl (cI G, 2, .inl gR)) := by rw [ef196, va_up_ne _ _ (Ne.symm nd_dS_dR)]; exact k_dR
      have h202 : f196 dT = some (.inl (cI G, 2, .inl gT)) := by rw [ef196, va_up_ne _ _ (Ne.symm nd_dS_dT)]; exact k_dT
      have h203 : f196 dZ = some (.inl (cZ G, 2, .inl gZ)) := by rw [ef196, va_up_ne _ _ (Ne.symm nd_dS_dZ)]; exact k_dZ
      have h204 : f196 dI = some (.inl (cI G, 2, .inl gI)) := by rw [ef196, va_up_ne _ _ (Ne.symm nd_dS_dI)]; exact k_dI
      have h205 : f196 dH = some (.inl (cI G, 2, .inl gH)) := by rw [ef196, va_up_ne _ _ (Ne.symm nd_dS_dH)]; exact k_dH
      have h206 : f196 dN = some (.inl (cI G, 2, .inl gN)) := by rw [ef196, va_up_ne _ _ (Ne.symm nd_dS_dN)]; exact k_dN
      have n208 : dK ≠ dS := hneL k_dK k_dS (Nat.ne_of_beq_eq_false rfl)
      have h207 : f196 dK = some (.inl (cI G, 2048, .inl gK)) := by rw [ef196, va_up_ne _ _ n208]; exact k_dK
      have n210 : dJ ≠ dS := hneL k_dJ k_dS (Nat.ne_of_beq_eq_false rfl)
      have h209 : f196 dJ = some (.inl (cI G, 2048, .inl gJ)) := by rw [ef196, va_up_ne _ _ n210]; exact k_dJ
      have n212 : dU ≠ dS := hneL k_dU k_dS (Nat.ne_of_beq_eq_false rfl)
      have h211 : f196 dU = some (.inl (cI G, 2048, .inl gU)) := by rw [ef196, va_up_ne _ _ n212]; exact k_dU
      have n214 : dO ≠ dS := hneL k_dO k_dS (Nat.ne_of_beq_eq_false rfl)
      have h213 : f196 dO = some (.inl (cI G, 2048, .inl gO)) := by rw [ef196, va_up_ne _ _ n214]; exact k_dO
      exact hp_zret (v := 0) B0 hw hS hr ⟨Nat.le_of_ble_eq_true rfl, Nat.le_of_ble_eq_true rfl⟩ (rfl) dX5_begs_19 (⟨Or.inl rfl, ⟨_, _, _, _, _, _, _, _, _, _, _, _, _, h198, h197, h200, h201, h202, h203, h204, h205, h206, h207, h209, h211, h213, hHd9, (hMn.mono hMn9 (by omega))⟩, (show hEq [dQ, dS, dL, dR, dT, dZ, dI, dH, dN, dK, dJ, dU, dO] f f196 from (by rw [ef196]; exact hEq.up (List.mem_cons_of_mem _ List.mem_cons_self)))⟩)

set_option maxHeartbeats 4000000 in
set_option maxRecDepth 100000 in
theorem c_W5_answers {l : Launch} (hl : l.stackTraces = false) (G : hG) (f : hM) (mo dW dA dQ dM dS dL dR dT dZ dI dH dN dK dJ dU dO dF dP dE dX dY dG : Nat) (vth vpk vpc vnx vgv : Int32) (k_mo : f mo = some (.inr (5, [.int vth, .ref dW, .ref dA, .ref dQ, .ref dM, .ref dS, .ref dL, .ref dR, .ref dT, .ref dZ, .ref dI, .ref dH, .ref dN, .ref dK, .ref dJ, .ref dU, .ref dO, .int vpk, .int vpc, .ref dF, .ref dP, .ref dE, .ref dX, .ref dY, .int vnx, .int vgv, .ref dG]))) (hND : ND5 dW dA dQ dM dS dL dR dT dZ dI dH dN dK dJ dU dO dF dP dE dX dY dG) (gM gA : Nat → Int32) (k_dM : f dM = some (.inl (cI G, 2, .inl gM))) (k_dA : f dA = some (.inl (cI G, 12, .inl gA))) (hSA : ∀ j, j < 12 → sA (gA j)) (B : Nat) (hLM : LM G f dQ dS dL dR dT dZ dI dH dN dK dJ dU dO B) (hBB : B + 0 < 100000) (ee i o : Int32) (he : sE ee) : CT l yX5_answers (.code yX5_answers cX5_answers 9 none) 2 43 0 0 G [.ref mo, .int ee, .int i, .int o] f (fun v f1 => v = none ∧ LM G f1 dQ dS dL dR dT dZ dI dH dN dK dJ dU dO (B + 1) ∧ hEq [dQ, dS, dL, dR, dT, dZ, dI, dH, dN, dK, dJ, dU, dO] f f1) (fun E f1 => False) := by
  refine hp_start hl (own := RX5) (by decide) rfl (Nat.le_of_ble_eq_true rfl) ?_
  intro p e s m args below meth c B0 hr hnm hout hw hS ls hl9
  have hx := B0.1
  have hb := B0.2.1
  have hl9 : lv_has ls 9 [(0, .ref mo), (1, .int ee), (2, .int i), (3, .int o)] := hl9
  obtain ⟨nd_dW_dA, nd_dW_dQ, nd_dA_dQ, nd_dM_dS, nd_dM_dL, nd_dM_dR, nd_dM_dT, nd_dM_dZ, nd_dM_dI, nd_dM_dH, nd_dM_dN, nd_dS_dL, nd_dS_dR, nd_dS_dT, nd_dS_dZ, nd_dS_dI, nd_dS_dH, nd_dS_dN, nd_dL_dR, nd_dL_dT, nd_dL_dZ, nd_dL_dI, nd_dL_dH, nd_dL_dN, nd_dR_dT, nd_dR_dZ, nd_dR_dI, nd_dR_dH, nd_dR_dN, nd_dT_dZ, nd_dT_dI, nd_dT_dH, nd_dT_dN, nd_dZ_dI, nd_dZ_dH, nd_dZ_dN, nd_dI_dH, nd_dI_dN, nd_dH_dN, nd_dK_dJ, nd_dK_dU, nd_dK_dO, nd_dJ_dU, nd_dJ_dO, nd_dU_dO, nd_dP_dE, nd_dX_dY⟩ := id hND
  obtain ⟨gQ, gS, gL, gR, gT, gZ, gI, gH, gN, gK, gJ, gU, gO, k_dQ, k_dS, k_dL, k_dR, k_dT, k_dZ, k_dI, k_dH, k_dN, k_dK, k_dJ, k_dU, k_dO, hHd9, hMn9⟩ := id hLM
  rcases he with rfl | rfl
  · refine lv_iconst (v := 0) hx hb dX5_answers_0 (by decide) ?_
    refine lv_istore (lv' := [(4, .int 0), (0, .ref mo), (1, .int 0), (2, .int i), (3, .int o)]) hx hb dX5_answers_1 hl9 (by decide) rfl (fun ls hl9 => ?_)
    refine lv_iconst (v := 0) hx hb dX5_answers_3 (by decide) ?_
    refine lv_istore (lv' := [(5, .int 0), (4, .int 0), (0, .ref mo), (1, .int 0), (2, .int i), (3, .int o)]) hx hb dX5_answers_4 hl9 (by decide) rfl (fun ls hl9 => ?_)
    refine lv_iconst (v := 0) hx hb dX5_answers_6 (by decide) ?_
    refine lv_istore (lv' := [(6, .int 0), (5, .int 0), (4, .int 0), (0, .ref mo), (1, .int 0), (2, .int i), (3, .int o)]) hx hb dX5_answers_7 hl9 (by decide) rfl (fun ls hl9 => ?_)
    refine hp_for (nL := 9) (pc := 9) (fun j f9 lv9 => f9 = f ∧ ∃ k9 : Int32, ∃ k8 : Int32, lv9 = [(6, .int (nI j)), (0, .ref mo), (1, .int 0), (2, .int i), (3, .int o), (4, .int k9), (5, .int k8)]) 6 (fun j f9 lv9 H locs ls hj hI hw hS hl9 ih => ?_) (fun f9 lv9 H locs ls hI hw hS hl9 => ?_) 6 0 (by decide) f _ _ _ ls ⟨rfl, _, _, rfl⟩ hw hS (lv_sub hl9 [0, 3, 4, 5, 6, 2, 1] rfl)
    · obtain ⟨ef9, k9, k8, el9⟩ := hI
      rw [ef9] at hw
      rw [el9] at hl9
      refine lv_iload hx hb dX5_answers_9 (lv_at hl9 0 rfl) ?_
      refine lv_bipush (v := 6) hx hb dX5_answers_11 (by decide) ?_
      refine lv_icmp_ge (tgt := 117) hx hb dX5_answers_13 (by decide) (fun c9 => absurd c9 (by rw [show (6 : Int32) = nI 6 from rfl]; exact nI_ge hj (by omega))) (fun _ => ?_)
      refine lv_iload_n hx hb dX5_answers_16 rfl (lv_at hl9 4 rfl) ?_
      refine lv_iload hx hb dX5_answers_17 (lv_at hl9 0 rfl) ?_
      refine hp_S (As := [.int o, .int (nI j)]) (rest := []) B0 hw hS (c_W5_valueIn hl G f o j hj) mS_X5_valueIn qM_X5_100 rfl rfl hl9.1 (Nat.le_of_ble_eq_true rfl) ⟨⟨Nat.le_of_ble_eq_true rfl, Nat.le_of_ble_eq_true rfl⟩, Nat.le_of_ble_eq_true rfl, Nat.le_of_ble_eq_true rfl⟩ dX5_answers_19 (fun E ce q9 f1 H locs hPX hw hS hce hcv hcl => ?_) (fun v f1 H locs hP hw hS => ?_)
      · exact hPX.elim
      · obtain ⟨⟨r2, ev9⟩, ef9⟩ := hP
        rw [ef9] at hw
        subst ev9
        refine W.eq (g2 := F0 m 22 ls [.int r2]) rfl ?_
        refine lv_istore (lv' := [(7, .int r2), (6, .int (nI j)), (0, .ref mo), (1, .int 0), (2, .int i), (3, .int o), (4, .int k9), (5, .int k8)]) hx hb dX5_answers_22 hl9 (by decide) rfl (fun ls hl9 => ?_)
        refine lv_aload_n hx hb dX5_answers_24 rfl (lv_at hl9 2 rfl) ?_
        refine hp_get B0 hw 5 rfl in_X5 k_mo 2 (by decide) qF_X5_13 rfl dX5_answers_25 ?_
        refine lv_bipush (v := 6) hx hb dX5_answers_28 (by decide) ?_
        refine lv_iload_n hx hb dX5_answers_30 rfl (lv_at hl9 3 rfl) ?_
        refine lv_imul hx hb dX5_answers_31 ?_
        refine hp_c (v := 0) (by decide) ?_
        refine lv_iload hx hb dX5_answers_32 (lv_at hl9 1 rfl) ?_
        refine lv_iadd hx hb dX5_answers_34 ?_
        refine hp_c (v := (nI j)) (Int32.zero_add _) ?_
        refine hp_iald B0 hw k_dA (vp_in_nI (show j < 12 by omega) (by decide)) dX5_answers_35 ?_
        refine hp_c (v := (gA j)) (congrArg gA (nI_clamp (by omega))) ?_
        refine lv_istore (lv' := [(8, .int (gA j)), (7, .int r2), (6, .int (nI j)), (0, .ref mo), (1, .int 0), (2, .int i), (3, .int o), (4, .int k9), (5, .int k8)]) hx hb dX5_answers_36 hl9 (by decide) rfl (fun ls hl9 => ?_)
        refine lv_iload hx hb dX5_answers_38 (lv_at hl9 7 rfl) ?_
        refine lv_iload hx hb dX5_answers_40 (lv_at hl9 1 rfl) ?_
        refine lv_iconst (v := (-1)) hx hb dX5_answers_42 (by decide) ?_
        refine lv_icmp_eq (tgt := 64) hx hb dX5_answers_43 (by decide) (fun c3 => ?_) (fun c3 => ?_)
        · refine lv_iconst (v := 0) hx hb dX5_answers_64 (by decide) ?_
          refine lv_iadd hx hb dX5_answers_65 ?_
          refine lv_istore (lv' := [(4, .int (k9 + 0)), (8, .int (gA j)), (7, .int r2), (6, .int (nI j)), (0, .ref mo), (1, .int 0), (2, .int i), (3, .int o), (5, .int k8)]) hx hb dX5_answers_66 hl9 (by decide) rfl (fun ls hl9 => ?_)
          refine lv_iload hx hb dX5_answers_68 (lv_at hl9 8 rfl) ?_
          refine lv_iload hx hb dX5_answers_70 (lv_at hl9 2 rfl) ?_
          refine lv_iconst (v := (-1)) hx hb dX5_answers_72 (by decide) ?_
          refine lv_icmp_eq (tgt := 107) hx hb dX5_answers_73 (by decide) (fun _ => ?_) (fun c9 => absurd c3 c9)
          refine lv_iconst (v := 0) hx hb dX5_answers_107 (by decide) ?_
          refine lv_iadd hx hb dX5_answers_108 ?_
          refine lv_istore (lv' := [(5, .int (k8 + 0)), (4, .int (k9 + 0)), (8, .int (gA j)), (7, .int r2), (6, .int (nI j)), (0, .ref mo), (1, .int 0), (2, .int i), (3, .int o)]) hx hb dX5_answers_109 hl9 (by decide) rfl (fun ls hl9 => ?_)
          refine lv_iinc (v := (nI (j + 1))) (lv' := [(6, .int (nI (j + 1))), (5, .int (k8 + 0)), (4, .int (k9 + 0)), (8, .int (gA j)), (7, .int r2), (0, .ref mo), (1, .int 0), (2, .int i), (3, .int o)]) hx hb dX5_answers_111 hl9 (k := 4) rfl (nI_1 j) (by decide) rfl (fun ls hl9 => ?_)
          refine lv_goto (tgt := 9) hx hb dX5_answers_114 (by decide) ?_
          exact ih _ _ H locs ls ⟨rfl, _, _, rfl⟩ hw hS (lv_sub hl9 [0, 5, 6, 7, 8, 2, 1] rfl)
        · refine lv_iload hx hb dX5_answers_46 (lv_at hl9 0 rfl) ?_
          refine lv_if_ne (tgt := 64) hx hb dX5_answers_48 (by decide) (fun c4 => ?_) (fun c4 => ?_)
          · refine lv_iconst (v := 0) hx hb dX5_answers_64 (by decide) ?_
            refine lv_iadd hx hb dX5_answers_65 ?_
            refine lv_istore (lv' := [(4, .int (k9 + 0)), (8, .int (gA j)), (7, .int r2), (6, .int (nI j)), (0, .ref mo), (1, .int 0), (2, .int i), (3, .int o), (5, .int k8)]) hx hb dX5_answers_66 hl9 (by decide) rfl (fun ls hl9 => ?_)
            refine lv_iload hx hb dX5_answers_68 (lv_at hl9 8 rfl) ?_
            refine lv_iload hx hb dX5_answers_70 (lv_at hl9 2 rfl) ?_
            refine lv_iconst (v := (-1)) hx hb dX5_answers_72 (by decide) ?_
            refine lv_icmp_eq (tgt := 107) hx hb dX5_answers_73 (by decide) (fun c9 => absurd c9 c3) (fun _ => ?_)
            refine lv_iload hx hb dX5_answers_76 (lv_at hl9 1 rfl) ?_
            refine lv_if_eq (tgt := 107) hx hb dX5_answers_78 (by decide) (fun c9 => absurd c9 c4) (fun _ => ?_)
            refine lv_iload hx hb dX5_answers_81 (lv_at hl9 1 rfl) ?_
            refine lv_iload hx hb dX5_answers_83 (lv_at hl9 2 rfl) ?_
            refine lv_ishr hx hb dX5_answers_85 ?_
            refine lv_iconst (v := 1) hx hb dX5_answers_86 (by decide) ?_
            refine lv_iand hx hb dX5_answers_87 ?_
            refine lv_if_ne (tgt := 107) hx hb dX5_answers_88 (by decide) (fun c5 => ?_) (fun c5 => ?_)
            · refine lv_iconst (v := 0) hx hb dX5_answers_107 (by decide) ?_
              refine lv_iadd hx hb dX5_answers_108 ?_
              refine lv_istore (lv' := [(5, .int (k8 + 0)), (4, .int (k9 + 0)), (8, .int (gA j)), (7, .int r2), (6, .int (nI j)), (0, .ref mo), (1, .int 0), (2, .int i), (3, .int o)]) hx hb dX5_answers_109 hl9 (by decide) rfl (fun ls hl9 => ?_)
              refine lv_iinc (v := (nI (j + 1))) (lv' := [(6, .int (nI (j + 1))), (5, .int (k8 + 0)), (4, .int (k9 + 0)), (8, .int (gA j)), (7, .int r2), (0, .ref mo), (1, .int 0), (2, .int i), (3, .int o)]) hx hb dX5_answers_111 hl9 (k := 4) rfl (nI_1 j) (by decide) rfl (fun ls hl9 => ?_)
              refine lv_goto (tgt := 9) hx hb dX5_answers_114 (by decide) ?_
              exact ih _ _ H locs ls ⟨rfl, _, _, rfl⟩ hw hS (lv_sub hl9 [0, 5, 6, 7, 8, 2, 1] rfl)
            · refine lv_iload hx hb dX5_answers_91 (lv_at hl9 3 rfl) ?_
              refine hp_S (As := [.int (nI j)]) (rest := [.int k8]) B0 hw hS (c_W5_place hl G f j hj) mS_X5_place qM_X5_92 rfl rfl hl9.1 (Nat.le_of_ble_eq_true rfl) ⟨⟨Nat.le_of_ble_eq_true rfl, Nat.le_of_ble_eq_true rfl⟩, Nat.le_of_ble_eq_true rfl, Nat.le_of_ble_eq_true rfl⟩ dX5_answers_93 (fun E ce q9 f6 H locs hPX hw hS hce hcv hcl => ?_) (fun v f6 H locs hP hw hS => ?_)
              · exact hPX.elim
              · obtain ⟨⟨r7, ev9, h8⟩, ef9⟩ := hP
                rw [ef9] at hw
                subst ev9
                refine W.eq (g2 := F0 m 96 ls [.int r7, .int k8]) rfl ?_
                refine lv_iload hx hb dX5_answers_96 (lv_at hl9 1 rfl) ?_
                refine hp_S (As := [.int (gA j)]) (rest := [.int r7, .int k8]) B0 hw hS (c_W5_lowest hl G f (gA j) (hSA j (by omega)) c4) mS_X5_lowest qM_X5_104 rfl rfl hl9.1 (Nat.le_of_ble_eq_true rfl) ⟨⟨Nat.le_of_ble_eq_true rfl, Nat.le_of_ble_eq_true rfl⟩, Nat.le_of_ble_eq_true rfl, Nat.le_of_ble_eq_true rfl⟩ dX5_answers_98 (fun E ce q9 f9 H locs hPX hw hS hce hcv hcl => ?_) (fun v f9 H locs hP hw hS => ?_)
                · exact hPX.elim
                · obtain ⟨⟨r10, ev9⟩, ef9⟩ := hP
                  rw [ef9] at hw
                  subst ev9
                  refine W.eq (g2 := F0 m 101 ls [.int r10, .int r7, .int k8]) rfl ?_
                  refine lv_iconst (v := 1) hx hb dX5_answers_101 (by decide) ?_
                  refine lv_iadd hx hb dX5_answers_102 ?_
                  refine lv_imul hx hb dX5_answers_103 ?_
                  refine lv_goto (tgt := 108) hx hb dX5_answers_104 (by decide) ?_
                  refine lv_iadd hx hb dX5_answers_108 ?_
                  refine lv_istore (lv' := [(5, .int (k8 + (r7 * (r10 + 1)))), (4, .int (k9 + 0)), (8, .int (gA j)), (7, .int r2), (6, .int (nI j)), (0, .ref mo), (1, .int 0), (2, .int i), (3, .int o)]) hx hb dX5_answers_109 hl9 (by decide) rfl (fun ls hl9 => ?_)
                  refine lv_iinc (v := (nI (j + 1))) (lv' := [(6, .int (nI (j + 1))), (5, .int (k8 + (r7 * (r10 + 1)))), (4, .int (k9 + 0)), (8, .int (gA j)), (7, .int r2), (0, .ref mo), (1, .int 0), (2, .int i), (3, .int o)]) hx hb dX5_answers_111 hl9 (k := 4) rfl (nI_1 j) (by decide) rfl (fun ls hl9 => ?_)
                  refine lv_goto (tgt := 9) hx hb dX5_answers_114 (by decide) ?_
                  exact ih _ _ H locs ls ⟨rfl, _, _, rfl⟩ hw hS (lv_sub hl9 [0, 5, 6, 7, 8, 2, 1] rfl)
          · refine lv_iload hx hb dX5_answers_51 (lv_at hl9 2 rfl) ?_
            refine hp_S (As := [.int (nI j)]) (rest := [.int k9]) B0 hw hS (c_W5_place hl G f j hj) mS_X5_place qM_X5_92 rfl rfl hl9.1 (Nat.le_of_ble_eq_true rfl) ⟨⟨Nat.le_of_ble_eq_true rfl, Nat.le_of_ble_eq_true rfl⟩, Nat.le_of_ble_eq_true rfl, Nat.le_of_ble_eq_true rfl⟩ dX5_answers_53 (fun E ce q9 f11 H locs hPX hw hS hce hcv hcl => ?_) (fun v f11 H locs hP hw hS => ?_)
            · exact hPX.elim
            · obtain ⟨⟨r12, ev9, h13⟩, ef9⟩ := hP
              rw [ef9] at hw
              subst ev9
              refine W.eq (g2 := F0 m 56 ls [.int r12, .int k9]) rfl ?_
              refine lv_iload hx hb dX5_answers_56 (lv_at hl9 1 rfl) ?_
              refine lv_iconst (v := 1) hx hb dX5_answers_58 (by decide) ?_
              refine lv_iadd hx hb dX5_answers_59 ?_
              refine lv_imul hx hb dX5_answers_60 ?_
              refine lv_goto (tgt := 65) hx hb dX5_answers_61 (by decide) ?_
              refine lv_iadd hx hb dX5_answers_65 ?_
              refine lv_istore (lv' := [(4, .int (k9 + (r12 * (r2 + 1)))), (8, .int (gA j)), (7, .int r2), (6, .int (nI j)), (0, .ref mo), (1, .int 0), (2, .int i), (3, .int o), (5, .int k8)]) hx hb dX5_answers_66 hl9 (by decide) rfl (fun ls hl9 => ?_)
              refine lv_iload hx hb dX5_answers_68 (lv_at hl9 8 rfl) ?_
              refine lv_iload hx hb dX5_answers_70 (lv_at hl9 2 rfl) ?_
              refine lv_iconst (v := (-1)) hx hb dX5_answers_72 (by decide) ?_
              refine lv_icmp_eq (tgt := 107) hx hb dX5_answers_73 (by decide) (fun c9 => absurd c9 c3) (fun _ => ?_)
              refine lv_iload hx hb dX5_answers_76 (lv_at hl9 1 rfl) ?_
              refine lv_if_eq (tgt := 107) hx hb dX5_answers_78 (by decide) (fun _ => ?_) (fun c9 => absurd c4 c9)
              refine lv_iconst (v := 0) hx hb dX5_answers_107 (by decide) ?_
              refine lv_iadd hx hb dX5_answers_108 ?_
              refine lv_istore (lv' := [(5, .int (k8 + 0)), (4, .int (k9 + (r12 * (r2 + 1)))), (8, .int (gA j)), (7, .int r2), (6, .int (nI j)), (0, .ref mo), (1, .int 0), (2, .int i), (3, .int o)]) hx hb dX5_answers_109 hl9 (by decide) rfl (fun ls hl9 => ?_)
              refine lv_iinc (v := (nI (j + 1))) (lv' := [(6, .int (nI (j + 1))), (5, .int (k8 + 0)), (4, .int (k9 + (r12 * (r2 + 1)))), (8, .int (gA j)), (7, .int r2), (0, .ref mo), (1, .int 0), (2, .int i), (3, .int o)]) hx hb dX5_answers_111 hl9 (k := 4) rfl (nI_1 j) (by decide) rfl (fun ls hl9 => ?_)
              refine lv_goto (tgt := 9) hx hb dX5_answers_114 (by decide) ?_
              exact ih _ _ H locs ls ⟨rfl, _, _, rfl⟩ hw hS (lv_sub hl9 [0, 5, 6, 7, 8, 2, 1] rfl)
    · obtain ⟨ef9, k9, k8, el9⟩ := hI
      rw [ef9] at hw
      rw [el9] at hl9
      refine lv_iload hx hb dX5_answers_9 (lv_at hl9 0 rfl) ?_
      refine lv_bipush (v := 6) hx hb dX5_answers_11 (by decide) ?_
      refine lv_icmp_ge (tgt := 117) hx hb dX5_answers_13 (by decide) (fun _ => ?_) (fun c9 => absurd (by decide) c9)
      refine lv_iload hx hb dX5_answers_117 (lv_at hl9 5 rfl) ?_
      refine lv_if_le (tgt := 134) hx hb dX5_answers_119 (by decide) (fun c14 => ?_) (fun c14 => ?_)
      · refine lv_iload hx hb dX5_answers_134 (lv_at hl9 6 rfl) ?_
        refine lv_if_le (tgt := 151) hx hb dX5_answers_136 (by decide) (fun c15 => ?_) (fun c15 => ?_)
        · refine lv_aload_n hx hb dX5_answers_151 rfl (lv_at hl9 1 rfl) ?_
          refine lv_iload_n hx hb dX5_answers_152 rfl (lv_at hl9 2 rfl) ?_
          refine lv_iconst (v := 1) hx hb dX5_answers_153 (by decide) ?_
          refine lv_iload_n hx hb dX5_answers_154 rfl (lv_at hl9 3 rfl) ?_
          refine lv_iconst (v := 0) hx hb dX5_answers_155 (by decide) ?_
          refine hp_V (ci := 5) (As := [.int 0, .int 1, .int i, .int 0]) (rest := []) B0 hw hS (c_W5_sends hl G f mo dW dA dQ dM dS dL dR dT dZ dI dH dN dK dJ dU dO dF dP dE dX dY dG vth vpk vpc vnx vgv k_mo hND gM gA k_dM k_dA hSA B ⟨_, _, _, _, _, _, _, _, _, _, _, _, _, k_dQ, k_dS, k_dL, k_dR, k_dT, k_dZ, k_dI, k_dH, k_dN, k_dK, k_dJ, k_dU, k_dO, hHd9, (hMn.mono hMn9 (by omega))⟩ (by omega) 0 1 i 0 (Or.inl rfl)) mV_X5_sends qM_X5_96 rfl k_mo rfl rfl hl9.1 (Nat.le_of_ble_eq_true rfl) ⟨⟨Nat.le_of_ble_eq_true rfl, Nat.le_of_ble_eq_true rfl⟩, Nat.le_of_ble_eq_true rfl, Nat.le_of_ble_eq_true rfl⟩ dX5_answers_156 (fun E ce q9 f16 H locs hPX hw hS hce hcv hcl => ?_) (fun v f16 H locs hP hw hS => ?_)
          · exact hPX.elim
          · obtain ⟨ev9, h18, k19⟩ := hP
            have h18L := h18
            obtain ⟨gQ_n17, gS_n17, gL_n17, gR_n17, gT_n17, gZ_n17, gI_n17, gH_n17, gN_n17, gK_n17, gJ_n17, gU_n17, gO_n17, k_dQ_n17, k_dS_n17, k_dL_n17, k_dR_n17, k_dT_n17, k_dZ_n17, k_dI_n17, k_dH_n17, k_dN_n17, k_dK_n17, k_dJ_n17, k_dU_n17, k_dO_n17, hHd9_n17, hMn9_n17⟩ := id h18
            subst ev9
            refine W.eq (g2 := F0 m 159 ls []) rfl ?_
            refine lv_aload_n hx hb dX5_answers_159 rfl (lv_at hl9 1 rfl) ?_
            have n21 : mo ≠ dO := hne k_mo k_dO (Nat.ne_of_beq_eq_false rfl)
            have n22 : mo ≠ dU := hne k_mo k_dU (Nat.ne_of_beq_eq_false rfl)
            have n23 : mo ≠ dJ := hne k_mo k_dJ (Nat.ne_of_beq_eq_false rfl)
            have n24 : mo ≠ dK := hne k_mo k_dK (Nat.ne_of_beq_eq_false rfl)
            have n25 : mo ≠ dN := hne k_mo k_dN (Nat.ne_of_beq_eq_false rfl)
            have n26 : mo ≠ dH := hne k_mo k_dH (Nat.ne_of_beq_eq_false rfl)
            have n27 : mo ≠ dI := hne k_mo k_dI (Nat.ne_of_beq_eq_false rfl)
            have n28 : mo ≠ dZ := hne k_mo k_dZ (Nat.ne_of_beq_eq_false rfl)
            have n29 : mo ≠ dT := hne k_mo k_dT (Nat.ne_of_beq_eq_false rfl)
            have n30 : mo ≠ dR := hne k_mo k_dR (Nat.ne_of_beq_eq_false rfl)
            have n31 : mo ≠ dL := hne k_mo k_dL (Nat.ne_of_beq_eq_false rfl)
            have n32 : mo ≠ dS := hne k_mo k_dS (Nat.ne_of_beq_eq_false rfl)
            have n33 : mo ≠ dQ := hne k_mo k_dQ (Nat.ne_of_beq_eq_false rfl)
            have h20 : f16 mo = some (.inr (5, [.int vth, .ref dW, .ref dA, .ref dQ, .ref dM, .ref dS, .ref dL, .ref dR, .ref dT, .ref dZ, .ref dI, .ref dH, .ref dN, .ref dK, .ref dJ, .ref dU, .ref dO, .int vpk, .int vpc, .ref dF, .ref dP, .ref dE, .ref dX, .ref dY, .int vnx, .int vgv, .ref dG])) := (hEq.k k19) _ _ k_mo (ninc n33 (ninc n32 (ninc n31 (ninc n30 (ninc n29 (ninc n28 (ninc n27 (ninc n26 (ninc n25 (ninc n24 (ninc n23 (ninc n22 (ninc n21 nin0)))))))))))))
            refine hp_get B0 hw 5 rfl in_X5 h20 5 (by decide) qF_X5_22 rfl dX5_answers_160 ?_
            refine lv_iload_n hx hb dX5_answers_163 rfl (lv_at hl9 2 rfl) ?_
            refine lv_aload_n hx hb dX5_answers_164 rfl (lv_at hl9 1 rfl) ?_
            refine hp_get B0 hw 5 rfl in_X5 h20 5 (by decide) qF_X5_22 rfl dX5_answers_165 ?_
            refine lv_iload_n hx hb dX5_answers_168 rfl (lv_at hl9 2 rfl) ?_
            refine hp_iald B0 hw k_dS_n17 (by unfold vp_in; decide) dX5_answers_169 ?_
            refine lv_iconst (v := 1) hx hb dX5_answers_170 (by decide) ?_
            refine lv_icmp_ne (tgt := 178) hx hb dX5_answers_171 (by decide) (fun c34 => ?_) (fun c34 => ?_)
            · refine lv_aload_n hx hb dX5_answers_178 rfl (lv_at hl9 1 rfl) ?_
              refine hp_get B0 hw 5 rfl in_X5 h20 5 (by decide) qF_X5_22 rfl dX5_answers_179 ?_
              refine lv_iload_n hx hb dX5_answers_182 rfl (lv_at hl9 2 rfl) ?_
              refine hp_iald B0 hw k_dS_n17 (by unfold vp_in; decide) dX5_answers_183 ?_
              refine lv_iconst (v := 2) hx hb dX5_answers_184 (by decide) ?_
              refine lv_icmp_ne (tgt := 192) hx hb dX5_answers_185 (by decide) (fun c35 => ?_) (fun c35 => ?_)
              · refine lv_aload_n hx hb dX5_answers_192 rfl (lv_at hl9 1 rfl) ?_
                refine hp_get B0 hw 5 rfl in_X5 h20 5 (by decide) qF_X5_22 rfl dX5_answers_193 ?_
                refine lv_iload_n hx hb dX5_answers_196 rfl (lv_at hl9 2 rfl) ?_
                refine hp_iald B0 hw k_dS_n17 (by unfold vp_in; decide) dX5_answers_197 ?_
                refine hp_iast B0 hw hS k_dS_n17 (by unfold vp_in; decide) dX5_answers_198 (fun H locs f36 ef36 hw hS => ?_)
                have h37 : f36 dS = some (.inl (cI G, 2, .inl (upd gS_n17 (0 : Int32).toNatClampNeg (gS_n17 (0 : Int32).toNatClampNeg)))) := by rw [ef36, va_up_self]
                refine lv_iload hx hb dX5_answers_199 (lv_at hl9 5 rfl) ?_
                refine lv_iload hx hb dX5_answers_201 (lv_at hl9 6 rfl) ?_
                refine lv_iadd hx hb dX5_answers_203 ?_
                refine lv_if_le (tgt := 224) hx hb dX5_answers_204 (by decide) (fun c38 => ?_) (fun c38 => ?_)
                · have n40 : dQ ≠ dS := hneL k_dQ k_dS (Nat.ne_of_beq_eq_false rfl)
                  have h39 : f36 dQ = some (.inl (cI G, 12, .inl gQ_n17)) := by rw [ef36, va_up_ne _ _ n40]; exact k_dQ_n17
                  have h41 : f36 dL = some (.inl (cI G, 2, .inl gL_n17)) := by rw [ef36, va_up_ne _ _ (Ne.symm nd_dS_dL)]; exact k_dL_n17
                  have h42 : f36 dR = some (.inl (cI G, 2, .inl gR_n17)) := by rw [ef36, va_up_ne _ _ (Ne.symm nd_dS_dR)]; exact k_dR_n17
                  have h43 : f36 dT = some (.inl (cI G, 2, .inl gT_n17)) := by rw [ef36, va_up_ne _ _ (Ne.symm nd_dS_dT)]; exact k_dT_n17
                  have h44 : f36 dZ = some (.inl (cZ G, 2, .inl gZ_n17)) := by rw [ef36, va_up_ne _ _ (Ne.symm nd_dS_dZ)]; exact k_dZ_n17
                  have h45 : f36 dI = some (.inl (cI G, 2, .inl gI_n17)) := by rw [ef36, va_up_ne _ _ (Ne.symm nd_dS_dI)]; exact k_dI_n17
                  have h46 : f36 dH = some (.inl (cI G, 2, .inl gH_n17)) := by rw [ef36, va_up_ne _ _ (Ne.symm nd_dS_dH)]; exact k_dH_n17
                  have h47 : f36 dN = some (.inl (cI G, 2, .inl gN_n17)) := by rw [ef36, va_up_ne _ _ (Ne.symm nd_dS_dN)]; exact k_dN_n17
                  have n49 : dK ≠ dS := hneL k_dK k_dS (Nat.ne_of_beq_eq_false rfl)
                  have h48 : f36 dK = some (.inl (cI G, 2048, .inl gK_n17)) := by rw [ef36, va_up_ne _ _ n49]; exact k_dK_n17
                  have n51 : dJ ≠ dS := hneL k_dJ k_dS (Nat.ne_of_beq_eq_false rfl)
                  have h50 : f36 dJ = some (.inl (cI G, 2048, .inl gJ_n17)) := by rw [ef36, va_up_ne _ _ n51]; exact k_dJ_n17
                  have n53 : dU ≠ dS := hneL k_dU k_dS (Nat.ne_of_beq_eq_false rfl)
                  have h52 : f36 dU = some (.inl (cI G, 2048, .inl gU_n17)) := by rw [ef36, va_up_ne _ _ n53]; exact k_dU_n17
                  have n55 : dO ≠ dS := hneL k_dO k_dS (Nat.ne_of_beq_eq_false rfl)
                  have h54 : f36 dO = some (.inl (cI G, 2048, .inl gO_n17)) := by rw [ef36, va_up_ne _ _ n55]; exact k_dO_n17
                  exact hp_vret B0 hw hS hr ⟨Nat.le_of_ble_eq_true rfl, Nat.le_of_ble_eq_true rfl⟩ dX5_answers_224 (⟨rfl, ⟨_, _, _, _, _, _, _, _, _, _, _, _, _, h39, h37, h41, h42, h43, h44, h45, h46, h47, h48, h50, h52, h54, hHd9_n17, (hMn.mono hMn9_n17 (by omega))⟩, ((show hEq [dQ, dS, dL, dR, dT, dZ, dI, dH, dN, dK, dJ, dU, dO] f f16 from (hEq.mono k19 (fun _ h9 => h9))).tr (show hEq [dQ, dS, dL, dR, dT, dZ, dI, dH, dN, dK, dJ, dU, dO] f16 f36 from (by rw [ef36]; exact hEq.up (List.mem_cons_of_mem _ List.mem_cons_self))))⟩)
                · refine lv_aload_n hx hb dX5_answers_207 rfl (lv_at hl9 1 rfl) ?_
                  have h56 : f36 mo = some (.inr (5, [.int vth, .ref dW, .ref dA, .ref dQ, .ref dM, .ref dS, .ref dL, .ref dR, .ref dT, .ref dZ, .ref dI, .ref dH, .ref dN, .ref dK, .ref dJ, .ref dU, .ref dO, .int vpk, .int vpc, .ref dF, .ref dP, .ref dE, .ref dX, .ref dY, .int vnx, .int vgv, .ref dG])) := by rw [ef36, va_up_ne _ _ n32]; exact h20
                  refine hp_get B0 hw 5 rfl in_X5 h56 5 (by decide) qF_X5_22 rfl dX5_answers_208 ?_
                  refine lv_iload_n hx hb dX5_answers_211 rfl (lv_at hl9 2 rfl) ?_
                  refine hp_iald B0 hw h37 (by unfold vp_in; decide) dX5_answers_212 ?_
                  refine lv_iconst (v := 3) hx hb dX5_answers_213 (by decide) ?_
                  refine lv_icmp_ne (tgt := 224) hx hb dX5_answers_214 (by decide) (fun c57 => ?_) (fun c57 => ?_)
                  · have n59 : dQ ≠ dS := hneL k_dQ k_dS (Nat.ne_of_beq_eq_false rfl)
                    have h58 : f36 dQ = some (.inl (cI G, 12, .inl gQ_n17)) := by rw [ef36, va_up_ne _ _ n59]; exact k_dQ_n17
                    have h60 : f36 dL = some (.inl (cI G, 2, .inl gL_n17)) := by rw [ef36, va_up_ne _ _ (Ne.symm nd_dS_dL)]; exact k_dL_n17
                    have h61 : f36 dR = some (.inl (cI G, 2, .inl gR_n17)) := by rw [ef36, va_up_ne _ _ (Ne.symm nd_dS_dR)]; exact k_dR_n17
                    have h62 : f36 dT = some (.inl (cI G, 2, .inl gT_n17)) := by rw [ef36, va_up_ne _ _ (Ne.symm nd_dS_dT)]; exact k_dT_n17
                    have h63 : f36 dZ = some (.inl (cZ G, 2, .inl gZ_n17)) := by rw [ef36, va_up_ne _ _ (Ne.symm nd_dS_dZ)]; exact k_dZ_n17
                    have h64 : f36 dI = some (.inl (cI G, 2, .inl gI_n17)) := by rw [ef36, va_up_ne _ _ (Ne.symm nd_dS_dI)]; exact k_dI_n17
                    have h65 : f36 dH = some (.inl (cI G, 2, .inl gH_n17)) := by rw [ef36, va_up_ne _ _ (Ne.symm nd_dS_dH)]; exact k_dH_n17
                    have h66 : f36 dN = some (.inl (cI G, 2, .inl gN_n17)) := by rw [ef36, va_up_ne _ _ (Ne.symm nd_dS_dN)]; exact k_dN_n17
                    have n68 : dK ≠ dS := hneL k_dK k_dS (Nat.ne_of_beq_eq_false rfl)
                    have h67 : f36 dK = some (.inl (cI G, 2048, .inl gK_n17)) := by rw [ef36, va_up_ne _ _ n68]; exact k_dK_n17
                    have n70 : dJ ≠ dS := hneL k_dJ k_dS (Nat.ne_of_beq_eq_false rfl)
                    have h69 : f36 dJ = some (.inl (cI G, 2048, .inl gJ_n17)) := by rw [ef36, va_up_ne _ _ n70]; exact k_dJ_n17
                    have n72 : dU ≠ dS := hneL k_dU k_dS (Nat.ne_of_beq_eq_false rfl)
                    have h71 : f36 dU = some (.inl (cI G, 2048, .inl gU_n17)) := by rw [ef36, va_up_ne _ _ n72]; exact k_dU_n17
                    have n74 : dO ≠ dS := hneL k_dO k_dS (Nat.ne_of_beq_eq_false rfl)
                    have h73 : f36 dO = some (.inl (cI G, 2048, .inl gO_n17)) := by rw [ef36, va_up_ne _ _ n74]; exact k_dO_n17
                    exact hp_vret B0 hw hS hr ⟨Nat.le_of_ble_eq_true rfl, Nat.le_of_ble_eq_true rfl⟩ dX5_answers_224 (⟨rfl, ⟨_, _, _, _, _, _, _, _, _, _, _, _, _, h58, h37, h60, h61, h62, h63, h64, h65, h66, h67, h69, h71, h73, hHd9_n17, (hMn.mono hMn9_n17 (by omega))⟩, ((show hEq [dQ, dS, dL, dR, dT, dZ, dI, dH, dN, dK, dJ, dU, dO] f f16 from (hEq.mono k19 (fun _ h9 => h9))).tr (show hEq [dQ, dS, dL, dR, dT, dZ, dI, dH, dN, dK, dJ, dU, dO] f16 f36 from (by rw [ef36]; exact hEq.up (List.mem_cons_of_mem _ List.mem_cons_self))))⟩)
                  · refine lv_aload_n hx hb dX5_answers_217 rfl (lv_at hl9 1 rfl) ?_
                    refine hp_get B0 hw 5 rfl in_X5 h56 5 (by decide) qF_X5_22 rfl dX5_answers_218 ?_
                    refine lv_iload_n hx hb dX5_answers_221 rfl (lv_at hl9 2 rfl) ?_
                    refine lv_iconst (v := 1) hx hb dX5_answers_222 (by decide) ?_
                    refine hp_iast B0 hw hS h37 (by unfold vp_in; decide) dX5_answers_223 (fun H locs f75 ef75 hw hS => ?_)
                    have e76 : f75 = va_up f16 dS (some (.inl (cI G, 2, .inl (upd (upd gS_n17 (0 : Int32).toNatClampNeg (gS_n17 (0 : Int32).toNatClampNeg)) (0 : Int32).toNatClampNeg 1)))) := by rw [ef75, ef36, bx_uu]
                    have h77 : f75 dS = some (.inl (cI G, 2, .inl (upd (upd gS_n17 (0 : Int32).toNatClampNeg (gS_n17 (0 : Int32).toNatClampNeg)) (0 : Int32).toNatClampNeg 1))) := by rw [ef75, va_up_self]
                    have n79 : dQ ≠ dS := hneL k_dQ k_dS (Nat.ne_of_beq_eq_false rfl)
                    have h78 : f75 dQ = some (.inl (cI G, 12, .inl gQ_n17)) := by rw [e76, va_up_ne _ _ n79]; exact k_dQ_n17
                    have h80 : f75 dL = some (.inl (cI G, 2, .inl gL_n17)) := by rw [e76, va_up_ne _ _ (Ne.symm nd_dS_dL)]; exact k_dL_n17
                    have h81 : f75 dR = some (.inl (cI G, 2, .inl gR_n17)) := by rw [e76, va_up_ne _ _ (Ne.symm nd_dS_dR)]; exact k_dR_n17
                    have h82 : f75 dT = some (.inl (cI G, 2, .inl gT_n17)) := by rw [e76, va_up_ne _ _ (Ne.symm nd_dS_dT)]; exact k_dT_n17
                    have h83 : f75 dZ = some (.inl (cZ G, 2, .inl gZ_n17)) := by rw [e76, va_up_ne _ _ (Ne.symm nd_dS_dZ)]; exact k_dZ_n17
                    have h84 : f75 dI = some (.inl (cI G, 2, .inl gI_n17)) := by rw [e76, va_up_ne _ _ (Ne.symm nd_dS_dI)]; exact k_dI_n17
                    have h85 : f75 dH = some (.inl (cI G, 2, .inl gH_n17)) := by rw [e76, va_up_ne _ _ (Ne.symm nd_dS_dH)]; exact k_dH_n17
                    have h86 : f75 dN = some (.inl (cI G, 2, .inl gN_n17)) := by rw [e76, va_up_ne _ _ (Ne.symm nd_dS_dN)]; exact k_dN_n17
                    have n88 : dK ≠ dS := hneL k_dK k_dS (Nat.ne_of_beq_eq_false rfl)
                    have h87 : f75 dK = some (.inl (cI G, 2048, .inl gK_n17)) := by rw [e76, va_up_ne _ _ n88]; exact k_dK_n17
                    have n90 : dJ ≠ dS := hneL k_dJ k_dS (Nat.ne_of_beq_eq_false rfl)
                    have h89 : f75 dJ = some (.inl (cI G, 2048, .inl gJ_n17)) := by rw [e76, va_up_ne _ _ n90]; exact k_dJ_n17
                    have n92 : dU ≠ dS := hneL k_dU k_dS (Nat.ne_of_beq_eq_false rfl)
                    have h91 : f75 dU = some (.inl (cI G, 2048, .inl gU_n17)) := by rw [e76, va_up_ne _ _ n92]; exact k_dU_n17
                    have n94 : dO ≠ dS := hneL k_dO k_dS (Nat.ne_of_beq_eq_false rfl)
                    have h93 : f75 dO = some (.inl (cI G, 2048, .inl gO_n17)) := by rw [e76, va_up_ne _ _ n94]; exact k_dO_n17
                    exact hp_vret B0 hw hS hr ⟨Nat.le_of_ble_eq_true rfl, Nat.le_of_ble_eq_true rfl⟩ dX5_answers_224 (⟨rfl, ⟨_, _, _, _, _, _, _, _, _, _, _, _, _, h78, h77, h80, h81, h82, h83, h84, h85, h86, h87, h89, h91, h93, hHd9_n17, (hMn.mono hMn9_n17 (by omega))⟩, ((show hEq [dQ, dS, dL, dR, dT, dZ, dI, dH, dN, dK, dJ, dU, dO] f f16 from (hEq.mono k19 (fun _ h9 => h9))).tr (show hEq [dQ, dS, dL, dR, dT, dZ, dI, dH, dN, dK, dJ, dU, dO] f16 f75 from (by rw [e76]; exact hEq.up (List.mem_cons_of_mem _ List.mem_cons_self))))⟩)
              · refine lv_iconst (v := 4) hx hb dX5_answers_188 (by decide) ?_
                refine lv_goto (tgt := 198) hx hb dX5_answers_189 (by decide) ?_
                refine hp_iast B0 hw hS k_dS_n17 (by unfold vp_in; decide) dX5_answers_198 (fun H locs f95 ef95 hw hS => ?_)
                have h96 : f95 dS = some (.inl (cI G, 2, .inl (upd gS_n17 (0 : Int32).toNatClampNeg 4))) := by rw [ef95, va_up_self]
                refine lv_iload hx hb dX5_answers_199 (lv_at hl9 5 rfl) ?_
                refine lv_iload hx hb dX5_answers_201 (lv_at hl9 6 rfl) ?_
                refine lv_iadd hx hb dX5_answers_203 ?_
                refine lv_if_le (tgt := 224) hx hb dX5_answers_204 (by decide) (fun c97 => ?_) (fun c97 => ?_)
                · have n99 : dQ ≠ dS := hneL k_dQ k_dS (Nat.ne_of_beq_eq_false rfl)
                  have h98 : f95 dQ = some (.inl (cI G, 12, .inl gQ_n17)) := by rw [ef95, va_up_ne _ _ n99]; exact k_dQ_n17
                  have h100 : f95 dL = some (.inl (cI G, 2, .inl gL_n17)) := by rw [ef95, va_up_ne _ _ (Ne.symm nd_dS_dL)]; exact k_dL_n17
                  have h101 : f95 dR = some (.inl (cI G, 2, .inl gR_n17)) := by rw [ef95, va_up_ne _ _ (Ne.symm nd_dS_dR)]; exact k_dR_n17
                  have h102 : f95 dT = some (.inl (cI G, 2, .inl gT_n17)) := by rw [ef95, va_up_ne _ _ (Ne.symm nd_dS_dT)]; exact k_dT_n17
                  have h103 : f95 dZ = some (.inl (cZ G, 2, .inl gZ_n17)) := by rw [ef95, va_up_ne _ _ (Ne.symm nd_dS_dZ)]; exact k_dZ_n17
                  have h104 : f95 dI = some (.inl (cI G, 2, .inl gI_n17)) := by rw [ef95, va_up_ne _ _ (Ne.symm nd_dS_dI)]; exact k_dI_n17
                  have h105 : f95 dH = some (.inl (cI G, 2, .inl gH_n17)) := by rw [ef95, va_up_ne _ _ (Ne.symm nd_dS_dH)]; exact k_dH_n17
                  have h106 : f95 dN = some (.inl (cI G, 2, .inl gN_n17)) := by rw [ef95, va_up_ne _ _ (Ne.symm nd_dS_dN)]; exact k_dN_n17
                  have n108 : dK ≠ dS := hneL k_dK k_dS (Nat.ne_of_beq_eq_false rfl)
                  have h107 : f95 dK = some (.inl (cI G, 2048, .inl gK_n17)) := by rw [ef95, va_up_ne _ _ n108]; exact k_dK_n17
                  have n110 : dJ ≠ dS := hneL k_dJ k_dS (Nat.ne_of_beq_eq_false rfl)
                  have h109 : f95 dJ = some (.inl (cI G, 2048, .inl gJ_n17)) := by rw [ef95, va_up_ne _ _ n110]; exact k_dJ_n17
                  have n112 : dU ≠ dS := hneL k_dU k_dS (Nat.ne_of_beq_eq_false rfl)
                  have h111 : f95 dU = some (.inl (cI G, 2048, .inl gU_n17)) := by rw [ef95, va_up_ne _ _ n112]; exact k_dU_n17
                  have n114 : dO ≠ dS := hneL k_dO k_dS (Nat.ne_of_beq_eq_false rfl)
                  have h113 : f95 dO = some (.inl (cI G, 2048, .inl gO_n17)) := by rw [ef95, va_up_ne _ _ n114]; exact k_dO_n17
                  exact hp_vret B0 hw hS hr ⟨Nat.le_of_ble_eq_true rfl, Nat.le_of_ble_eq_true rfl⟩ dX5_answers_224 (⟨rfl, ⟨_, _, _, _, _, _, _, _, _, _, _, _, _, h98, h96, h100, h101, h102, h103, h104, h105, h106, h107, h109, h111, h113, hHd9_n17, (hMn.mono hMn9_n17 (by omega))⟩, ((show hEq [dQ, dS, dL, dR, dT, dZ, dI, dH, dN, dK, dJ, dU, dO] f f16 from (hEq.mono k19 (fun _ h9 => h9))).tr (show hEq [dQ, dS, dL, dR, dT, dZ, dI, dH, dN, dK, dJ, dU, dO] f16 f95 from (by rw [ef95]; exact hEq.up (List.mem_cons_of_mem _ List.mem_cons_self))))⟩)
                · refine lv_aload_n hx hb dX5_answers_207 rfl (lv_at hl9 1 rfl) ?_
                  have h115 : f95 mo = some (.inr (5, [.int vth, .ref dW, .ref dA, .ref dQ, .ref dM, .ref dS, .ref dL, .ref dR, .ref dT, .ref dZ, .ref dI, .ref dH, .ref dN, .ref dK, .ref dJ, .ref dU, .ref dO, .int vpk, .int vpc, .ref dF, .ref dP, .ref dE, .ref dX, .ref dY, .int vnx, .int vgv, .ref dG])) := by rw [ef95, va_up_ne _ _ n32]; exact h20
                  refine hp_get B0 hw 5 rfl in_X5 h115 5 (by decide) qF_X5_22 rfl dX5_answers_208 ?_
                  refine lv_iload_n hx hb dX5_answers_211 rfl (lv_at hl9 2 rfl) ?_
                  refine hp_iald B0 hw h96 (by unfold vp_in; decide) dX5_answers_212 ?_
                  refine lv_iconst (v := 3) hx hb dX5_answers_213 (by decide) ?_
                  refine lv_icmp_ne (tgt := 224) hx hb dX5_answers_214 (by decide) (fun c116 => ?_) (fun c116 => ?_)
                  · have n118 : dQ ≠ dS := hneL k_dQ k_dS (Nat.ne_of_beq_eq_false rfl)
                    have h117 : f95 dQ = some (.inl (cI G, 12, .inl gQ_n17)) := by rw [ef95, va_up_ne _ _ n118]; exact k_dQ_n17
                    have h119 : f95 dL = some (.inl (cI G, 2, .inl gL_n17)) := by rw [ef95, va_up_ne _ _ (Ne.symm nd_dS_dL)]; exact k_dL_n17
                    have h120 : f95 dR = some (.inl (cI G, 2, .inl gR_n17)) := by rw [ef95, va_up_ne _ _ (Ne.symm nd_dS_dR)]; exact k_dR_n17
                    have h121 : f95 dT = some (.inl (cI G, 2, .inl gT_n17)) := by rw [ef95, va_up_ne _ _ (Ne.symm nd_dS_dT)]; exact k_dT_n17
                    have h122 : f95 dZ = some (.inl (cZ G, 2, .inl gZ_n17)) := by rw [ef95, va_up_ne _ _ (Ne.symm nd_dS_dZ)]; exact k_dZ_n17
                    have h123 : f95 dI = some (.inl (cI G, 2, .inl gI_n17)) := by rw [ef95, va_up_ne _ _ (Ne.symm nd_dS_dI)]; exact k_dI_n17
                    have h124 : f95 dH = some (.inl (cI G, 2, .inl gH_n17)) := by rw [ef95, va_up_ne _ _ (Ne.symm nd_dS_dH)]; exact k_dH_n17
                    have h125 : f95 dN = some (.inl (cI G, 2, .inl gN_n17)) := by rw [ef95, va_up_ne _ _ (Ne.symm nd_dS_dN)]; exact k_dN_n17
                    have n127 : dK ≠ dS := hneL k_dK k_dS (Nat.ne_of_beq_eq_false rfl)
                    have h126 : f95 dK = some (.inl (cI G, 2048, .inl gK_n17)) := by rw [ef95, va_up_ne _ _ n127]; exact k_dK_n17
                    have n129 : dJ ≠ dS := hneL k_dJ k_dS (Nat.ne_of_beq_eq_false rfl)
                    have h128 : f95 dJ = some (.inl (cI G, 2048, .inl gJ_n17)) := by rw [ef95, va_up_ne _ _ n129]; exact k_dJ_n17
                    have n131 : dU ≠ dS := hneL k_dU k_dS (Nat.ne_of_beq_eq_false rfl)
                    have h130 : f95 dU = some (.inl (cI G, 2048, .inl gU_n17)) := by rw [ef95, va_up_ne _ _ n131]; exact k_dU_n17
                    have n133 : dO ≠ dS := hneL k_dO k_dS (Nat.ne_of_beq_eq_false rfl)
                    have h132 : f95 dO = some (.inl (cI G, 2048, .inl gO_n17)) := by rw [ef95, va_up_ne _ _ n133]; exact k_dO_n17
                    exact hp_vret B0 hw hS hr ⟨Nat.le_of_ble_eq_true rfl, Nat.le_of_ble_eq_true rfl⟩ dX5_answers_224 (⟨rfl, ⟨_, _, _, _, _, _, _, _, _, _, _, _, _, h117, h96, h119, h120, h121, h122, h123, h124, h125, h126, h128, h130, h132, hHd9_n17, (hMn.mono hMn9_n17 (by omega))⟩, ((show hEq [dQ, dS, dL, dR, dT, dZ, dI, dH, dN, dK, dJ, dU, dO] f f16 from (hEq.mono k19 (fun _ h9 => h9))).tr (show hEq [dQ, dS, dL, dR, dT, dZ, dI, dH, dN, dK, dJ, dU, dO] f16 f95 from (by rw [ef95]; exact hEq.up (List.mem_cons_of_mem _ List.mem_cons_self))))⟩)
                  · refine lv_aload_n hx hb dX5_answers_217 rfl (lv_at hl9 1 rfl) ?_
                    refine hp_get B0 hw 5 rfl in_X5 h115 5 (by decide) qF_X5_22 rfl dX5_answers_218 ?_
                    refine lv_iload_n hx hb dX5_answers_221 rfl (lv_at hl9 2 rfl) ?_
                    refine lv_iconst (v := 1) hx hb dX5_answers_222 (by decide) ?_
                    refine hp_iast B0 hw hS h96 (by unfold vp_in; decide) dX5_answers_223 (fun H locs f134 ef134 hw hS => ?_)
                    have e135 : f134 = va_up f16 dS (some (.inl (cI G, 2, .inl (upd (upd gS_n17 (0 : Int32).toNatClampNeg 4) (0 : Int32).toNatClampNeg 1)))) := by rw [ef134, ef95, bx_uu]
                    have h136 : f134 dS = some (.inl (cI G, 2, .inl (upd (upd gS_n17 (0 : Int32).toNatClampNeg 4) (0 : Int32).toNatClampNeg 1))) := by rw [ef134, va_up_self]
                    have n138 : dQ ≠ dS := hneL k_dQ k_dS (Nat.ne_of_beq_eq_false rfl)
                    have h137 : f134 dQ = some (.inl (cI G, 12, .inl gQ_n17)) := by rw [e135, va_up_ne _ _ n138]; exact k_dQ_n17
                    have h139 : f134 dL = some (.inl (cI G, 2, .inl gL_n17)) := by rw [e135, va_up_ne _ _ (Ne.symm nd_dS_dL)]; exact k_dL_n17
                    have h140 : f134 dR = some (.inl (cI G, 2, .inl gR_n17)) := by rw [e135, va_up_ne _ _ (Ne.symm nd_dS_dR)]; exact k_dR_n17
                    have h141 : f134 dT = some (.inl (cI G, 2, .inl gT_n17)) := by rw [e135, va_up_ne _ _ (Ne.symm nd_dS_dT)]; exact k_dT_n17
                    have h142 : f134 dZ = some (.inl (cZ G, 2, .inl gZ_n17)) := by rw [e135, va_up_ne _ _ (Ne.symm nd_dS_dZ)]; exact k_dZ_n17
                    have h143 : f134 dI = some (.inl (cI G, 2, .inl gI_n17)) := by rw [e135, va_up_ne _ _ (Ne.symm nd_dS_dI)]; exact k_dI_n17
                    have h144 : f134 dH = some (.inl (cI G, 2, .inl gH_n17)) := by rw [e135, va_up_ne _ _ (Ne.symm nd_dS_dH)]; exact k_dH_n17
                    have h145 : f134 dN = some (.inl (cI G, 2, .inl gN_n17)) := by rw [e135, va_up_ne _ _ (Ne.symm nd_dS_dN)]; exact k_dN_n17
                    have n147 : dK ≠ dS := hneL k_dK k_dS (Nat.ne_of_beq_eq_false rfl)
                    have h146 : f134 dK = some (.inl (cI G, 2048, .inl gK_n17)) := by rw [e135, va_up_ne _ _ n147]; exact k_dK_n17
                    have n149 : dJ ≠ dS := hneL k_dJ k_dS (Nat.ne_of_beq_eq_false rfl)
                    have h148 : f134 dJ = some (.inl (cI G, 2048, .inl gJ_n17)) := by rw [e135, va_up_ne _ _ n149]; exact k_dJ_n17
                    have n151 : dU ≠ dS := hneL k_dU k_dS (Nat.ne_of_beq_eq_false rfl)
                    have h150 : f134 dU = some (.inl (cI G, 2048, .inl gU_n17)) := by rw [e135, va_up_ne _ _ n151]; exact k_dU_n17
                    have n153 : dO ≠ dS := hneL k_dO k_dS (Nat.ne_of_beq_eq_false rfl)
                    have h152 : f134 dO = some (.inl (cI G, 2048, .inl gO_n17)) := by rw [e135, va_up_ne _ _ n153]; exact k_dO_n17
                    exact hp_vret B0 hw hS hr ⟨Nat.le_of_ble_eq_true rfl, Nat.le_of_ble_eq_true rfl⟩ dX5_answers_224 (⟨rfl, ⟨_, _, _, _, _, _, _, _, _, _, _, _, _, h137, h136, h139, h140, h141, h142, h143, h144, h145, h146, h148, h150, h152, hHd9_n17, (hMn.mono hMn9_n17 (by omega))⟩, ((show hEq [dQ, dS, dL, dR, dT, dZ, dI, dH, dN, dK, dJ, dU, dO] f f16 from (hEq.mono k19 (fun _ h9 => h9))).tr (show hEq [dQ, dS, dL, dR, dT, dZ, dI, dH, dN, dK, dJ, dU, dO] f16 f134 from (by rw [e135]; exact hEq.up (List.mem_cons_of_mem _ List.mem_cons_self))))⟩)
            · refine lv_iconst (v := 3) hx hb dX5_answers_174 (by decide) ?_
              refine lv_goto (tgt := 198) hx hb dX5_answers_175 (by decide) ?_
              refine hp_iast B0 hw hS k_dS_n17 (by unfold vp_in; decide) dX5_answers_198 (fun H locs f154 ef154 hw hS => ?_)
              have h155 : f154 dS = some (.inl (cI G, 2, .inl (upd gS_n17 (0 : Int32).toNatClampNeg 3))) := by rw [ef154, va_up_self]
              refine lv_iload hx hb dX5_answers_199 (lv_at hl9 5 rfl) ?_
              refine lv_iload hx hb dX5_answers_201 (lv_at hl9 6 rfl) ?_
              refine lv_iadd hx hb dX5_answers_203 ?_
              refine lv_if_le (tgt := 224) hx hb dX5_answers_204 (by decide) (fun c156 => ?_) (fun c156 => ?_)
              · have n158 : dQ ≠ dS := hneL k_dQ k_dS (Nat.ne_of_beq_eq_false rfl)
                have h157 : f154 dQ = some (.inl (cI G, 12, .inl gQ_n17)) := by rw [ef154, va_up_ne _ _ n158]; exact k_dQ_n17
                have h159 : f154 dL = some (.inl (cI G, 2, .inl gL_n17)) := by rw [ef154, va_up_ne _ _ (Ne.symm nd_dS_dL)]; exact k_dL_n17
                have h160 : f154 dR = some (.inl (cI G, 2, .inl gR_n17)) := by rw [ef154, va_up_ne _ _ (Ne.symm nd_dS_dR)]; exact k_dR_n17
                have h161 : f154 dT = some (.inl (cI G, 2, .inl gT_n17)) := by rw [ef154, va_up_ne _ _ (Ne.symm nd_dS_dT)]; exact k_dT_n17
                have h162 : f154 dZ = some (.inl (cZ G, 2, .inl gZ_n17)) := by rw [ef154, va_up_ne _ _ (Ne.symm nd_dS_dZ)]; exact k_dZ_n17
                have h163 : f154 dI = some (.inl (cI G, 2, .inl gI_n17)) := by rw [ef154, va_up_ne _ _ (Ne.symm nd_dS_dI)]; exact k_dI_n17
                have h164 : f154 dH = some (.inl (cI G, 2, .inl gH_n17)) := by rw [ef154, va_up_ne _ _ (Ne.symm nd_dS_dH)]; exact k_dH_n17
                have h165 : f154 dN = some (.inl (cI G, 2, .inl gN_n17)) := by rw [ef154, va_up_ne _ _ (Ne.symm nd_dS_dN)]; exact k_dN_n17
                have n167 : dK ≠ dS := hneL k_dK k_dS (Nat.ne_of_beq_eq_false rfl)
                have h166 : f154 dK = some (.inl (cI G, 2048, .inl gK_n17)) := by rw [ef154, va_up_ne _ _ n167]; exact k_dK_n17
                have n169 : dJ ≠ dS := hneL k_dJ k_dS (Nat.ne_of_beq_eq_false rfl)
                have h168 : f154 dJ = some (.inl (cI G, 2048, .inl gJ_n17)) := by rw [ef154, va_up_ne _ _ n169]; exact k_dJ_n17
                have n171 : dU ≠ dS := hneL k_dU k_dS (Nat.ne_of_beq_eq_false rfl)
                have h170 : f154 dU = some (.inl (cI G, 2048, .inl gU_n17)) := by rw [ef154, va_up_ne _ _ n171]; exact k_dU_n17
                have n173 : dO ≠ dS := hneL k_dO k_dS (Nat.ne_of_beq_eq_false rfl)
                have h172 : f154 dO = some (.inl (cI G, 2048, .inl gO_n17)) := by rw [ef154, va_up_ne _ _ n173]; exact k_dO_n17
                exact hp_vret B0 hw hS hr ⟨Nat.le_of_ble_eq_true rfl, Nat.le_of_ble_eq_true rfl⟩ dX5_answers_224 (⟨rfl, ⟨_, _, _, _, _, _, _, _, _, _, _, _, _, h157, h155, h159, h160, h161, h162, h163, h164, h165, h166, h168, h170, h172, hHd9_n17, (hMn.mono hMn9_n17 (by omega))⟩, ((show hEq [dQ, dS, dL, dR, dT, dZ, dI, dH, dN, dK, dJ, dU, dO] f f16 from (hEq.mono k19 (fun _ h9 => h9))).tr (show hEq [dQ, dS, dL, dR, dT, dZ, dI, dH, dN, dK, dJ, dU, dO] f16 f154 from (by rw [ef154]; exact hEq.up (List.mem_cons_of_mem _ List.mem_cons_self))))⟩)
              · refine lv_aload_n hx hb dX5_answers_207 rfl (lv_at hl9 1 rfl) ?_
                have h174 : f154 mo = some (.inr (5, [.int vth, .ref dW, .ref dA, .ref dQ, .ref dM, .ref dS, .ref dL, .ref dR, .ref dT, .ref dZ, .ref dI, .ref dH, .ref dN, .ref dK, .ref dJ, .ref dU, .ref dO, .int vpk, .int vpc, .ref dF, .ref dP, .ref dE, .ref dX, .ref dY, .int vnx, .int vgv, .ref dG])) := by rw [ef154, va_up_ne _ _ n32]; exact h20
                refine hp_get B0 hw 5 rfl in_X5 h174 5 (by decide) qF_X5_22 rfl dX5_answers_208 ?_
                refine lv_iload_n hx hb dX5_answers_211 rfl (lv_at hl9 2 rfl) ?_
                refine hp_iald B0 hw h155 (by unfold vp_in; decide) dX5_answers_212 ?_
                refine lv_iconst (v := 3) hx hb dX5_answers_213 (by decide) ?_
                refine lv_icmp_ne (tgt := 224) hx hb dX5_answers_214 (by decide) (fun c175 => ?_) (fun c175 => ?_)
                · have n177 : dQ ≠ dS := hneL k_dQ k_dS (Nat.ne_of_beq_eq_false rfl)
                  have h176 : f154 dQ = some (.inl (cI G, 12, .inl gQ_n17)) := by rw [ef154, va_up_ne _ _ n177]; exact k_dQ_n17
                  have h178 : f154 dL = some (.inl (cI G, 2, .inl gL_n17)) := by rw [ef154, va_up_ne _ _ (Ne.symm nd_dS_dL)]; exact k_dL_n17
                  have h179 : f154 dR = some (.inl (cI G, 2, .inl gR_n17)) := by rw [ef154, va_up_ne _ _ (Ne.symm nd_dS_dR)]; exact k_dR_n17
                  have h180 : f154 dT = some (.inl (cI G, 2, .inl gT_n17)) := by rw [ef154, va_up_ne _ _ (Ne.symm nd_dS_dT)]; exact k_dT_n17
                  have h181 : f154 dZ = some (.inl (cZ G, 2, .inl gZ_n17)) := by rw [ef154, va_up_ne _ _ (Ne.symm nd_dS_dZ)]; exact k_dZ_n17
                  have h182 : f154 dI = some (.inl (cI G, 2, .inl gI_n17)) := by rw [ef154, va_up_ne _ _ (Ne.symm nd_dS_dI)]; exact k_dI_n17
                  have h183 : f154 dH = some (.inl (cI G, 2, .inl gH_n17)) := by rw [ef154, va_up_ne _ _ (Ne.symm nd_dS_dH)]; exact k_dH_n17
                  have h184 : f154 dN = some (.inl (cI G, 2, .inl gN_n17)) := by rw [ef154, va_up_ne _ _ (Ne.symm nd_dS_dN)]; exact k_dN_n17
                  have n186 : dK ≠ dS := hneL k_dK k_dS (Nat.ne_of_beq_eq_false rfl)
                  have h185 : f154 dK = some (.inl (cI G, 2048, .inl gK_n17)) := by rw [ef154, va_up_ne _ _ n186]; exact k_dK_n17
                  have n188 : dJ ≠ dS := hneL k_dJ k_dS (Nat.ne_of_beq_eq_false rfl)
                  have h187 : f154 dJ = some (.inl (cI G, 2048, .inl gJ_n17)) := by rw [ef154, va_up_ne _ _ n188]; exact k_dJ_n17
                  have n190 : dU ≠ dS := hneL k_dU k_dS (Nat.ne_of_beq_eq_false rfl)
                  have h189 : f154 dU = some (.inl (cI G, 2048, .inl gU_n17)) := by rw [ef154, va_up_ne _ _ n190]; exact k_dU_n17
                  have n192 : dO ≠ dS := hneL k_dO k_dS (Nat.ne_of_beq_eq_false rfl)
                  have h191 : f154 dO = some (.inl (cI G, 2048, .inl gO_n17)) := by rw [ef154, va_up_ne _ _ n192]; exact k_dO_n17
                  exact hp_vret B0 hw hS hr ⟨Nat.le_of_ble_eq_true rfl, Nat.le_of_ble_eq_true rfl⟩ dX5_answers_224 (⟨rfl, ⟨_, _, _, _, _, _, _, _, _, _, _, _, _, h176, h155, h178, h179, h180, h181, h182, h183, h184, h185, h187, h189, h191, hHd9_n17, (hMn.mono hMn9_n17 (by omega))⟩, ((show hEq [dQ, dS, dL, dR, dT, dZ, dI, dH, dN, dK, dJ, dU, dO] f f16 from (hEq.mono k19 (fun _ h9 => h9))).tr (show hEq [dQ, dS, dL, dR, dT, dZ, dI, dH, dN, dK, dJ, dU, dO] f16 f154 from (by rw [ef154]; exact hEq.up (List.mem_cons_of_mem _ List.mem_cons_self))))⟩)
                · refine lv_aload_n hx hb dX5_answers_217 rfl (lv_at hl9 1 rfl) ?_
                  refine hp_get B0 hw 5 rfl in_X5 h174 5 (by decide) qF_X5_22 rfl dX5_answers_218 ?_
                  refine lv_iload_n hx hb dX5_answers_221 rfl (lv_at hl9 2 rfl) ?_
                  refine lv_iconst (v := 1) hx hb dX5_answers_222 (by decide) ?_
                  refine hp_iast B0 hw hS h155 (by unfold vp_in; decide) dX5_answers_223 (fun H locs f193 ef193 hw hS => ?_)
                  have e194 : f193 = va_up f16 dS (some (.inl (cI G, 2, .inl (upd (upd gS_n17 (0 : Int32).toNatClampNeg 3) (0 : Int32).toNatClampNeg 1)))) := by rw [ef193, ef154, bx_uu]
                  have h195 : f193 dS = some (.inl (cI G, 2, .inl (upd (upd gS_n17 (0 : Int32).toNatClampNeg 3) (0 : Int32).toNatClampNeg 1))) := by rw [ef193, va_up_self]
                  have n197 : dQ ≠ dS := hneL k_dQ k_dS (Nat.ne_of_beq_eq_false rfl)
                  have h196 : f193 dQ = some (.inl (cI G, 12, .inl gQ_n17)) := by rw [e194, va_up_ne _ _ n197]; exact k_dQ_n17
                  have h198 : f193 dL = some (.inl (cI G, 2, .inl gL_n17)) := by rw [e194, va_up_ne _ _ (Ne.symm nd_dS_dL)]; exact k_dL_n17
                  have h199 : f193 dR = some (.inl (cI G, 2, .inl gR_n17)) := by rw [e194, va_up_ne _ _ (Ne.symm nd_dS_dR)]; exact k_dR_n17
                  have h200 : f193 dT = some (.inl (cI G, 2, .inl gT_n17)) := by rw [e194, va_up_ne _ _ (Ne.symm nd_dS_dT)]; exact k_dT_n17
                  have h201 : f193 dZ = some (.inl (cZ G, 2, .inl gZ_n17)) := by rw [e194, va_up_ne _ _ (Ne.symm nd_dS_dZ)]; exact k_dZ_n17
                  have h202 : f193 dI = some (.inl (cI G, 2, .inl gI_n17)) := by rw [e194, va_up_ne _ _ (Ne.symm nd_dS_dI)]; exact k_dI_n17
                  have h203 : f193 dH = some (.inl (cI G, 2, .inl gH_n17)) := by rw [e194, va_up_ne _ _ (Ne.symm nd_dS_dH)]; exact k_dH_n17
                  have h204 : f193 dN = some (.inl (cI G, 2, .inl gN_n17)) := by rw [e194, va_up_ne _ _ (Ne.symm nd_dS_dN)]; exact k_dN_n17
                  have n206 : dK ≠ dS := hneL k_dK k_dS (Nat.ne_of_beq_eq_false rfl)
                  have h205 : f193 dK = some (.inl (cI G, 2048, .inl gK_n17)) := by rw [e194, va_up_ne _ _ n206]; exact k_dK_n17
                  have n208 : dJ ≠ dS := hneL k_dJ k_dS (Nat.ne_of_beq_eq_false rfl)
                  have h207 : f193 dJ = some (.inl (cI G, 2048, .inl gJ_n17)) := by rw [e194, va_up_ne _ _ n208]; exact k_dJ_n17
                  have n210 : dU ≠ dS := hneL k_dU k_dS (Nat.ne_of_beq_eq_false rfl)
                  have h209 : f193 dU = some (.inl (cI G, 2048, .inl gU_n17)) := by rw [e194, va_up_ne _ _ n210]; exact k_dU_n17
                  have n212 : dO ≠ dS := hneL k_dO k_dS (Nat.ne_of_beq_eq_false rfl)
                  have h211 : f193 dO = some (.inl (cI G, 2048, .inl gO_n17)) := by rw [e194, va_up_ne _ _ n212]; exact k_dO_n17
                  exact hp_vret B0 hw hS hr ⟨Nat.le_of_ble_eq_true rfl, Nat.le_of_ble_eq_true rfl⟩ dX5_answers_224 (⟨rfl, ⟨_, _, _, _, _, _, _, _, _, _, _, _, _, h196, h195, h198, h199, h200, h201, h202, h203, h204, h205, h207, h209, h211, hHd9_n17, (hMn.mono hMn9_n17 (by omega))⟩, ((show hEq [dQ, dS, dL, dR, dT, dZ, dI, dH, dN, dK, dJ, dU, dO] f f16 from (hEq.mono k19 (fun _ h9 => h9))).tr (show hEq [dQ, dS, dL, dR, dT, dZ, dI, dH, dN, dK, dJ, dU, dO] f16 f193 from (by rw [e194]; exact hEq.up (List.mem_cons_of_mem _ List.mem_cons_self))))⟩)
        · refine lv_aload_n hx hb dX5_answers_139 rfl (lv_at hl9 1 rfl) ?_
          refine lv_iload_n hx hb dX5_answers_140 rfl (lv_at hl9 2 rfl) ?_
          refine lv_iconst (v := 2) hx hb dX5_answers_141 (by decide) ?_
          refine lv_iload_n hx hb dX5_answers_142 rfl (lv_at hl9 3 rfl) ?_
          refine lv_iload hx hb dX5_answers_143 (lv_at hl9 6 rfl) ?_
          refine hp_V (ci := 5) (As := [.int 0, .int 2, .int i, .int k8]) (rest := []) B0 hw hS (c_W5_sends hl G f mo dW dA dQ dM dS dL dR dT dZ dI dH dN dK dJ dU dO dF dP dE dX dY dG vth vpk vpc vnx vgv k_mo hND gM gA k_dM k_dA hSA B ⟨_, _, _, _, _, _, _, _, _, _, _, _, _, k_dQ, k_dS, k_dL, k_dR, k_dT, k_dZ, k_dI, k_dH, k_dN, k_dK, k_dJ, k_dU, k_dO, hHd9, (hMn.mono hMn9 (by omega))⟩ (by omega) 0 2 i k8 (Or.inl rfl)) mV_X5_sends qM_X5_96 rfl k_mo rfl rfl hl9.1 (Nat.le_of_ble_eq_true rfl) ⟨⟨Nat.le_of_ble_eq_true rfl, Nat.le_of_ble_eq_true rfl⟩, Nat.le_of_ble_eq_true rfl, Nat.le_of_ble_eq_true rfl⟩ dX5_answers_145 (fun E ce q9 f213 H locs hPX hw hS hce hcv hcl => ?_) (fun v f213 H locs hP hw hS => ?_)
          · exact hPX.elim
          · obtain ⟨ev9, h215, k216⟩ := hP
            have h215L := h215
            obtain ⟨gQ_n214, gS_n214, gL_n214, gR_n214, gT_n214, gZ_n214, gI_n214, gH_n214, gN_n214, gK_n214, gJ_n214, gU_n214, gO_n214, k_dQ_n214, k_dS_n214, k_dL_n214, k_dR_n214, k_dT_n214, k_dZ_n214, k_dI_n214, k_dH_n214, k_dN_n214, k_dK_n214, k_dJ_n214, k_dU_n214, k_dO_n214, hHd9_n214, hMn9_n214⟩ := id h215
            subst ev9
            refine W.eq (g2 := F0 m 148 ls []) rfl ?_
            refine lv_goto (tgt := 199) hx hb dX5_answers_148 (by decide) ?_
            refine lv_iload hx hb dX5_answers_199 (lv_at hl9 5 rfl) ?_
            refine lv_iload hx hb dX5_answers_201 (lv_at hl9 6 rfl) ?_
            refine lv_iadd hx hb dX5_answers_203 ?_
            refine lv_if_le (tgt := 224) hx hb dX5_answers_204 (by decide) (fun c217 => ?_) (fun c217 => ?_)
            · exact hp_vret B0 hw hS hr ⟨Nat.le_of_ble_eq_true rfl, Nat.le_of_ble_eq_true rfl⟩ dX5_answers_224 (⟨rfl, ⟨_, _, _, _, _, _, _, _, _, _, _, _, _, k_dQ_n214, k_dS_n214, k_dL_n214, k_dR_n214, k_dT_n214, k_dZ_n214, k_dI_n214, k_dH_n214, k_dN_n214, k_dK_n214, k_dJ_n214, k_dU_n214, k_dO_n214, hHd9_n214, (hMn.mono hMn9_n214 (by omega))⟩, (show hEq [dQ, dS, dL, dR, dT, dZ, dI, dH, dN, dK, dJ, dU, dO] f f213 from (hEq.mono k216 (fun _ h9 => h9)))⟩)
            · refine lv_aload_n hx hb dX5_answers_207 rfl (lv_at hl9 1 rfl) ?_
              have n219 : mo ≠ dO := hne k_mo k_dO (Nat.ne_of_beq_eq_false rfl)
              have n220 : mo ≠ dU := hne k_mo k_dU (Nat.ne_of_beq_eq_false rfl)
              have n221 : mo ≠ dJ := hne k_mo k_dJ (Nat.ne_of_beq_eq_false rfl)
              have n222 : mo ≠ dK := hne k_mo k_dK (Nat.ne_of_beq_eq_false rfl)
              have n223 : mo ≠ dN := hne k_mo k_dN (Nat.ne_of_beq_eq_false rfl)
              have n224 : mo ≠ dH := hne k_mo k_dH (Nat.ne_of_beq_eq_false rfl)
              have n225 : mo ≠ dI := hne k_mo k_dI (Nat.ne_of_beq_eq_false rfl)
              have n226 : mo ≠ dZ := hne k_mo k_dZ (Nat.ne_of_beq_eq_false rfl)
              have n227 : mo ≠ dT := hne k_mo k_dT (Nat.ne_of_beq_eq_false rfl)
              have n228 : mo ≠ dR := hne k_mo k_dR (Nat.ne_of_beq_eq_false rfl)
              have n229 : mo ≠ dL := hne k_mo k_dL (Nat.ne_of_beq_eq_false rfl)
              have n230 : mo ≠ dS := hne k_mo k_dS (Nat.ne_of_beq_eq_false rfl)
              have n231 : mo ≠ dQ := hne k_mo k_dQ (Nat.ne_of_beq_eq_false rfl)
              have h218 : f213 mo = some (.inr (5, [.int vth, .ref dW, .ref dA, .ref dQ, .ref dM, .ref dS, .ref dL, .ref dR, .ref dT, .ref dZ, .ref dI, .ref dH, .ref dN, .ref dK, .ref dJ, .ref dU, .ref dO, .int vpk, .int vpc, .ref dF, .ref dP, .ref dE, .ref dX, .ref dY, .int vnx, .int vgv, .ref dG])) := (hEq.k k216) _ _ k_mo (ninc n231 (ninc n230 (ninc n229 (ninc n228 (ninc n227 (ninc n226 (ninc n225 (ninc n224 (ninc n223 (ninc n222 (ninc n221 (ninc n220 (ninc n219 nin0)))))))))))))
              refine hp_get B0 hw 5 rfl in_X5 h218 5 (by decide) qF_X5_22 rfl dX5_answers_208 ?_
              refine lv_iload_n hx hb dX5_answers_211 rfl (lv_at hl9 2 rfl) ?_
              refine hp_iald B0 hw k_dS_n214 (by unfold vp_in; decide) dX5_answers_212 ?_
              refine lv_iconst (v := 3) hx hb dX5_answers_213 (by decide) ?_
              refine lv_icmp_ne (tgt := 224) hx hb dX5_answers_214 (by decide) (fun c232 => ?_) (fun c232 => ?_)
              · exact hp_vret B0 hw hS hr ⟨Nat.le_of_ble_eq_true rfl, Nat.le_of_ble_eq_true rfl⟩ dX5_answers_224 (⟨rfl, ⟨_, _, _, _, _, _, _, _, _, _, _, _, _, k_dQ_n214, k_dS_n214, k_dL_n214, k_dR_n214, k_dT_n214, k_dZ_n214, k_dI_n214, k_dH_n214, k_dN_n214, k_dK_n214, k_dJ_n214, k_dU_n214, k_dO_n214, hHd9_n214, (hMn.mono hMn9_n214 (by omega))⟩, (show hEq [dQ, dS, dL, dR, dT, dZ, dI, dH, dN, dK, dJ, dU, dO] f f213 from (hEq.mono k216 (fun _ h9 => h9)))⟩)
              · refine lv_aload_n hx hb dX5_answers_217 rfl (lv_at hl9 1 rfl) ?_
                refine hp_get B0 hw 5 rfl in_X5 h218 5 (by decide) qF_X5_22 rfl dX5_answers_218 ?_
                refine lv_iload_n hx hb dX5_answers_221 rfl (lv_at hl9 2 rfl) ?_
                refine lv_iconst (v := 1) hx hb dX5_answers_222 (by decide) ?_
                refine hp_iast B0 hw hS k_dS_n214 (by unfold vp_in; decide) dX5_answers_223 (fun H locs f233 ef233 hw hS => ?_)
                have h234 : f233 dS = some (.inl (cI G, 2, .inl (upd gS_n214 (0 : Int32).toNatClampNeg 1))) := by rw [ef233, va_up_self]
                have n236 : dQ ≠ dS := hneL k_dQ k_dS (Nat.ne_of_beq_eq_false rfl)
                have h235 : f233 dQ = some (.inl (cI G, 12, .inl gQ_n214)) := by rw [ef233, va_up_ne _ _ n236]; exact k_dQ_n214
                have h237 : f233 dL = some (.inl (cI G, 2, .inl gL_n214)) := by rw [ef233, va_up_ne _ _ (Ne.symm nd_dS_dL)]; exact k_dL_n214
                have h238 : f233 dR = some (.inl (cI G, 2, .inl gR_n214)) := by rw [ef233, va_up_ne _ _ (Ne.symm nd_dS_dR)]; exact k_dR_n214
                have h239 : f233 dT = some (.inl (cI G, 2, .inl gT_n214)) := by rw [ef233, va_up_ne _ _ (Ne.symm nd_dS_dT)]; exact k_dT_n214
                have h240 : f233 dZ = some (.inl (cZ G, 2, .inl gZ_n214)) := by rw [ef233, va_up_ne _ _ (Ne.symm nd_dS_dZ)]; exact k_dZ_n214
                have h241 : f233 dI = some (.inl (cI G, 2, .inl gI_n214)) := by rw [ef233, va_up_ne _ _ (Ne.symm nd_dS_dI)]; exact k_dI_n214
                have h242 : f233 dH = some (.inl (cI G, 2, .inl gH_n214)) := by rw [ef233, va_up_ne _ _ (Ne.symm nd_dS_dH)]; exact k_dH_n214
                have h243 : f233 dN = some (.inl (cI G, 2, .inl gN_n214)) := by rw [ef233, va_up_ne _ _ (Ne.symm nd_dS_dN)]; exact k_dN_n214
                have n245 : dK ≠ dS := hneL k_dK k_dS (Nat.ne_of_beq_eq_false rfl)
                have h244 : f233 dK = some (.inl (cI G, 2048, .inl gK_n214)) := by rw [ef233, va_up_ne _ _ n245]; exact k_dK_n214
                have n247 : dJ ≠ dS := hneL k_dJ k_dS (Nat.ne_of_beq_eq_false rfl)
                have h246 : f233 dJ = some (.inl (cI G, 2048, .inl gJ_n214)) := by rw [ef233, va_up_ne _ _ n247]; exact k_dJ_n214
                have n249 : dU ≠ dS := hneL k_dU k_dS (Nat.ne_of_beq_eq_false rfl)
                have h248 : f233 dU = some (.inl (cI G, 2048, .inl gU_n214)) := by rw [ef233, va_up_ne _ _ n249]; exact k_dU_n214
                have n251 : dO ≠ dS := hneL k_dO k_dS (Nat.ne_of_beq_eq_false rfl)
                have h250 : f233 dO = some (.inl (cI G, 2048, .inl gO_n214)) := by rw [ef233, va_up_ne _ _ n251]; exact k_dO_n214
                exact hp_vret B0 hw hS hr ⟨Nat.le_of_ble_eq_true rfl, Nat.le_of_ble_eq_true rfl⟩ dX5_answers_224 (⟨rfl, ⟨_, _, _, _, _, _, _, _, _, _, _, _, _, h235, h234, h237, h238, h239, h240, h241, h242, h243, h244, h246, h248, h250, hHd9_n214, (hMn.mono hMn9_n214 (by omega))⟩, ((show hEq [dQ, dS, dL, dR, dT, dZ, dI, dH, dN, dK, dJ, dU, dO] f f213 from (hEq.mono k216 (fun _ h9 => h9))).tr (show hEq [dQ, dS, dL, dR, dT, dZ, dI, dH, dN, dK, dJ, dU, dO] f213 f233 from (by rw [ef233]; exact hEq.up (List.mem_cons_of_mem _ List.mem_cons_self))))⟩)
      · refine lv_aload_n hx hb dX5_answers_122 rfl (lv_at hl9 1 rfl) ?_
        refine lv_iload_n hx hb dX5_answers_123 rfl (lv_at hl9 2 rfl) ?_
        refine lv_iconst (v := 3) hx hb dX5_answers_124 (by decide) ?_
        refine lv_iload_n hx hb dX5_answers_125 rfl (lv_at hl9 3 rfl) ?_
        refine lv_iload hx hb dX5_answers_126 (lv_at hl9 5 rfl) ?_
        refine hp_V (ci := 5) (As := [.int 0, .int 3, .int i, .int k9]) (rest := []) B0 hw hS (c_W5_sends hl G f mo dW dA dQ dM dS dL dR dT dZ dI dH dN dK dJ dU dO dF dP dE dX dY dG vth vpk vpc vnx vgv k_mo hND gM gA k_dM k_dA hSA B ⟨_, _, _, _, _, _, _, _, _, _, _, _, _, k_dQ, k_dS, k_dL, k_dR, k_dT, k_dZ, k_dI, k_dH, k_dN, k_dK, k_dJ, k_dU, k_dO, hHd9, (hMn.mono hMn9 (by omega))⟩ (by omega) 0 3 i k9 (Or.inl rfl)) mV_X5_sends qM_X5_96 rfl k_mo rfl rfl hl9.1 (Nat.le_of_ble_eq_true rfl) ⟨⟨Nat.le_of_ble_eq_true rfl, Nat.le_of_ble_eq_true rfl⟩, Nat.le_of_ble_eq_true rfl, Nat.le_of_ble_eq_true rfl⟩ dX5_answers_128 (fun E ce q9 f252 H locs hPX hw hS hce hcv hcl => ?_) (fun v f252 H locs hP hw hS => ?_)
        · exact hPX.elim
        · obtain ⟨ev9, h254, k255⟩ := hP
          have h254L := h254
          obtain ⟨gQ_n253, gS_n253, gL_n253, gR_n253, gT_n253, gZ_n253, gI_n253, gH_n253, gN_n253, gK_n253, gJ_n253, gU_n253, gO_n253, k_dQ_n253, k_dS_n253, k_dL_n253, k_dR_n253, k_dT_n253, k_dZ_n253, k_dI_n253, k_dH_n253, k_dN_n253, k_dK_n253, k_dJ_n253, k_dU_n253, k_dO_n253, hHd9_n253, hMn9_n253⟩ := id h254
          subst ev9
          refine W.eq (g2 := F0 m 131 ls []) rfl ?_
          refine lv_goto (tgt := 199) hx hb dX5_answers_131 (by decide) ?_
          refine lv_iload hx hb dX5_answers_199 (lv_at hl9 5 rfl) ?_
          refine lv_iload hx hb dX5_answers_201 (lv_at hl9 6 rfl) ?_
          refine lv_iadd hx hb dX5_answers_203 ?_
          refine lv_if_le (tgt := 224) hx hb dX5_answers_204 (by decide) (fun c256 => ?_) (fun c256 => ?_)
          · exact hp_vret B0 hw hS hr ⟨Nat.le_of_ble_eq_true rfl, Nat.le_of_ble_eq_true rfl⟩ dX5_answers_224 (⟨rfl, ⟨_, _, _, _, _, _, _, _, _, _, _, _, _, k_dQ_n253, k_dS_n253, k_dL_n253, k_dR_n253, k_dT_n253, k_dZ_n253, k_dI_n253, k_dH_n253, k_dN_n253, k_dK_n253, k_dJ_n253, k_dU_n253, k_dO_n253, hHd9_n253, (hMn.mono hMn9_n253 (by omega))⟩, (show hEq [dQ, dS, dL, dR, dT, dZ, dI, dH, dN, dK, dJ, dU, dO] f f252 from (hEq.mono k255 (fun _ h9 => h9)))⟩)
          · refine lv_aload_n hx hb dX5_answers_207 rfl (lv_at hl9 1 rfl) ?_
            have n258 : mo ≠ dO := hne k_mo k_dO (Nat.ne_of_beq_eq_false rfl)
            have n259 : mo ≠ dU := hne k_mo k_dU (Nat.ne_of_beq_eq_false rfl)
            have n260 : mo ≠ dJ := hne k_mo k_dJ (Nat.ne_of_beq_eq_false rfl)
            have n261 : mo ≠ dK := hne k_mo k_dK (Nat.ne_of_beq_eq_false rfl)
            have n262 : mo ≠ dN := hne k_mo k_dN (Nat.ne_of_beq_eq_false rfl)
            have n263 : mo ≠ dH := hne k_mo k_dH (Nat.ne_of_beq_eq_false rfl)
            have n264 : mo ≠ dI := hne k_mo k_dI (Nat.ne_of_beq_eq_false rfl)
            have n265 : mo ≠ dZ := hne k_mo k_dZ (Nat.ne_of_beq_eq_false rfl)
            have n266 : mo ≠ dT := hne k_mo k_dT (Nat.ne_of_beq_eq_false rfl)
            have n267 : mo ≠ dR := hne k_mo k_dR (Nat.ne_of_beq_eq_false rfl)
            have n268 : mo ≠ dL := hne k_mo k_dL (Nat.ne_of_beq_eq_false rfl)
            have n269 : mo ≠ dS := hne k_mo k_dS (Nat.ne_of_beq_eq_false rfl)
            have n270 : mo ≠ dQ := hne k_mo k_dQ (Nat.ne_of_beq_eq_false rfl)
            have h257 : f252 mo = some (.inr (5, [.int vth, .ref dW, .ref dA, .ref dQ, .ref dM, .ref dS, .ref dL, .ref dR, .ref dT, .ref dZ, .ref dI, .ref dH, .ref dN, .ref dK, .ref dJ, .ref dU, .ref dO, .int vpk, .int vpc, .ref dF, .ref dP, .ref dE, .ref dX, .ref dY, .int vnx, .int vgv, .ref dG])) := (hEq.k k255) _ _ k_mo (ninc n270 (ninc n269 (ninc n268 (ninc n267 (ninc n266 (ninc n265 (ninc n264 (ninc n263 (ninc n262 (ninc n261 (ninc n260 (ninc n259 (ninc n258 nin0)))))))))))))
            refine hp_get B0 hw 5 rfl in_X5 h257 5 (by decide) qF_X5_22 rfl dX5_answers_208 ?_
            refine lv_iload_n hx hb dX5_answers_211 rfl (lv_at hl9 2 rfl) ?_
            refine hp_iald B0 hw k_dS_n253 (by unfold vp_in; decide) dX5_answers_212 ?_
            refine lv_iconst (v := 3) hx hb dX5_answers_213 (by decide) ?_
            refine lv_icmp_ne (tgt := 224) hx hb dX5_answers_214 (by decide) (fun c271 => ?_) (fun c271 => ?_)
            · exact hp_vret B0 hw hS hr ⟨Nat.le_of_ble_eq_true rfl, Nat.le_of_ble_eq_true rfl⟩ dX5_answers_224 (⟨rfl, ⟨_, _, _, _, _, _, _, _, _, _, _, _, _, k_dQ_n253, k_dS_n253, k_dL_n253, k_dR_n253, k_dT_n253, k_dZ_n253, k_dI_n253, k_dH_n253, k_dN_n253, k_dK_n253, k_dJ_n253, k_dU_n253, k_dO_n253, hHd9_n253, (hMn.mono hMn9_n253 (by omega))⟩, (show hEq [dQ, dS, dL, dR, dT, dZ, dI, dH, dN, dK, dJ, dU, dO] f f252 from (hEq.mono k255 (fun _ h9 => h9)))⟩)
            · refine lv_aload_n hx hb dX5_answers_217 rfl (lv_at hl9 1 rfl) ?_
              refine hp_get B0 hw 5 rfl in_X5 h257 5 (by decide) qF_X5_22 rfl dX5_answers_218 ?_
              refine lv_iload_n hx hb dX5_answers_221 rfl (lv_at hl9 2 rfl) ?_
              refine lv_iconst (v := 1) hx hb dX5_answers_222 (by decide) ?_
              refine hp_iast B0 hw hS k_dS_n253 (by unfold vp_in; decide) dX5_answers_223 (fun H locs f272 ef272 hw hS => ?_)
              have h273 : f272 dS = some (.inl (cI G, 2, .inl (upd gS_n253 (0 : Int32).toNatClampNeg 1))) := by rw [ef272, va_up_self]
              have n275 : dQ ≠ dS := hneL k_dQ k_dS (Nat.ne_of_beq_eq_false rfl)
              have h274 : f272 dQ = some (.inl (cI G, 12, .inl gQ_n253)) := by rw [ef272, va_up_ne _ _ n275]; exact k_dQ_n253
              have h276 : f272 dL = some (.inl (cI G, 2, .inl gL_n253)) := by rw [ef272, va_up_ne _ _ (Ne.symm nd_dS_dL)]; exact k_dL_n253
              have h277 : f272 dR = some (.inl (cI G, 2, .inl gR_n253)) := by rw [ef272, va_up_ne _ _ (Ne.symm nd_dS_dR)]; exact k_dR_n253
              have h278 : f272 dT = some (.inl (cI G, 2, .inl gT_n253)) := by rw [ef272, va_up_ne _ _ (Ne.symm nd_dS_dT)]; exact k_dT_n253
              have h279 : f272 dZ = some (.inl (cZ G, 2, .inl gZ_n253)) := by rw [ef272, va_up_ne _ _ (Ne.symm nd_dS_dZ)]; exact k_dZ_n253
              have h280 : f272 dI = some (.inl (cI G, 2, .inl gI_n253)) := by rw [ef272, va_up_ne _ _ (Ne.symm nd_dS_dI)]; exact k_dI_n253
              have h281 : f272 dH = some (.inl (cI G, 2, .inl gH_n253)) := by rw [ef272, va_up_ne _ _ (Ne.symm nd_dS_dH)]; exact k_dH_n253
              have h282 : f272 dN = some (.inl (cI G, 2, .inl gN_n253)) := by rw [ef272, va_up_ne _ _ (Ne.symm nd_dS_dN)]; exact k_dN_n253
              have n284 : dK ≠ dS := hneL k_dK k_dS (Nat.ne_of_beq_eq_false rfl)
              have h283 : f272 dK = some (.inl (cI G, 2048, .inl gK_n253)) := by rw [ef272, va_up_ne _ _ n284]; exact k_dK_n253
              have n286 : dJ ≠ dS := hneL k_dJ k_dS (Nat.ne_of_beq_eq_false rfl)
              have h285 : f272 dJ = some (.inl (cI G, 2048, .inl gJ_n253)) := by rw [ef272, va_up_ne _ _ n286]; exact k_dJ_n253
              have n288 : dU ≠ dS := hneL k_dU k_dS (Nat.ne_of_beq_eq_false rfl)
              have h287 : f272 dU = some (.inl (cI G, 2048, .inl gU_n253)) := by rw [ef272, va_up_ne _ _ n288]; exact k_dU_n253
              have n290 : dO ≠ dS := hneL k_dO k_dS (Nat.ne_of_beq_eq_false rfl)
              have h289 : f272 dO = some (.inl (cI G, 2048, .inl gO_n253)) := by rw [ef272, va_up_ne _ _ n290]; exact k_dO_n253
              exact hp_vret B0 hw hS hr ⟨Nat.le_of_ble_eq_true rfl, Nat.le_of_ble_eq_true rfl⟩ dX5_answers_224 (⟨rfl, ⟨_, _, _, _, _, _, _, _, _, _, _, _, _, h274, h273, h276, h277, h278, h279, h280, h281, h282, h283, h285, h287, h289, hHd9_n253, (hMn.mono hMn9_n253 (by omega))⟩, ((show hEq [dQ, dS, dL, dR, dT, dZ, dI, dH, dN, dK, dJ, dU, dO] f f252 from (hEq.mono k255 (fun _ h9 => h9))).tr (show hEq [dQ, dS, dL, dR, dT, dZ, dI, dH, dN, dK, dJ, dU, dO] f252 f272 from (by rw [ef272]; exact hEq.up (List.mem_cons_of_mem _ List.mem_cons_self))))⟩)
  · refine lv_iconst (v := 0) hx hb dX5_answers_0 (by decide) ?_
    refine lv_istore (lv' := [(4, .int 0), (0, .ref mo), (1, .int 1), (2, .int i), (3, .int o)]) hx hb dX5_answers_1 hl9 (by decide) rfl (fun ls hl9 => ?_)
    refine lv_iconst (v := 0) hx hb dX5_answers_3 (by decide) ?_
    refine lv_istore (lv' := [(5, .int 0), (4, .int 0), (0, .ref mo), (1, .int 1), (2, .int i), (3, .int o)]) hx hb dX5_answers_4 hl9 (by decide) rfl (fun ls hl9 => ?_)
    refine lv_iconst (v := 0) hx hb dX5_answers_6 (by decide) ?_
    refine lv_istore (lv' := [(6, .int 0), (5, .int 0), (4, .int 0), (0, .ref mo), (1, .int 1), (2, .int i), (3, .int o)]) hx hb dX5_answers_7 hl9 (by decide) rfl (fun ls hl9 => ?_)
    refine hp_for (nL := 9) (pc := 9) (fun j f9 lv9 => f9 = f ∧ ∃ k9 : Int32, ∃ k8 : Int32, lv9 = [(6, .int (nI j)), (0, .ref mo), (1, .int 1), (2, .int i), (3, .int o), (4, .int k9), (5, .int k8)]) 6 (fun j f9 lv9 H locs ls hj hI hw hS hl9 ih => ?_) (fun f9 lv9 H locs ls hI hw hS hl9 => ?_) 6 0 (by decide) f _ _ _ ls ⟨rfl, _, _, rfl⟩ hw hS (lv_sub hl9 [0, 3, 4, 5, 6, 2, 1] rfl)
    · obtain ⟨ef9, k9, k8, el9⟩ := hI
      rw [ef9] at hw
      rw [el9] at hl9
      refine lv_iload hx hb dX5_answers_9 (lv_at hl9 0 rfl) ?_
      refine lv_bipush (v := 6) hx hb dX5_answers_11 (by decide) ?_
      refine lv_icmp_ge (tgt := 117) hx hb dX5_answers_13 (by decide) (fun c9 => absurd c9 (by rw [show (6 : Int32) = nI 6 from rfl]; exact nI_ge hj (by omega))) (fun _ => ?_)
      refine lv_iload_n hx hb dX5_answers_16 rfl (lv_at hl9 4 rfl) ?_
      refine lv_iload hx hb dX5_answers_17 (lv_at hl9 0 rfl) ?_
      refine hp_S (As := [.int o, .int (nI j)]) (rest := []) B0 hw hS (c_W5_valueIn hl G f o j hj) mS_X5_valueIn qM_X5_100 rfl rfl hl9.1 (Nat.le_of_ble_eq_true rfl) ⟨⟨Nat.le_of_ble_eq_true rfl, Nat.le_of_ble_eq_true rfl⟩, Nat.le_of_ble_eq_true rfl, Nat.le_of_ble_eq_true rfl⟩ dX5_answers_19 (fun E ce q9 f291 H locs hPX hw hS hce hcv hcl => ?_) (fun v f291 H locs hP hw hS => ?_)
      · exact hPX.elim
      · obtain ⟨⟨r292, ev9⟩, ef9⟩ := hP
        rw [ef9] at hw
        subst ev9
        refine W.eq (g2 := F0 m 22 ls [.int r292]) rfl ?_
        refine lv_istore (lv' := [(7, .int r292), (6, .int (nI j)), (0, .ref mo), (1, .int 1), (2, .int i), (3, .int o), (4, .int k9), (5, .int k8)]) hx hb dX5_answers_22 hl9 (by decide) rfl (fun ls hl9 => ?_)
        refine lv_aload_n hx hb dX5_answers_24 rfl (lv_at hl9 2 rfl) ?_
        refine hp_get B0 hw 5 rfl in_X5 k_mo 2 (by decide) qF_X5_13 rfl dX5_answers_25 ?_
        refine lv_bipush (v := 6) hx hb dX5_answers_28 (by decide) ?_
        refine lv_iload_n hx hb dX5_answers_30 rfl (lv_at hl9 3 rfl) ?_
        refine lv_imul hx hb dX5_answers_31 ?_
        refine hp_c (v := 6) (by decide) ?_
        refine lv_iload hx hb dX5_answers_32 (lv_at hl9 1 rfl) ?_
        refine lv_iadd hx hb dX5_answers_34 ?_
        refine hp_c (v := (nI (6 + j))) (nI_add 6 j) ?_
        refine hp_iald B0 hw k_dA (vp_in_nI (show (6 + j) < 12 by omega) (by decide)) dX5_answers_35 ?_
        refine hp_c (v := (gA (6 + j))) (congrArg gA (nI_clamp (by omega))) ?_
        refine lv_istore (lv' := [(8, .int (gA (6 + j))), (7, .int r292), (6, .int (nI j)), (0, .ref mo), (1, .int 1), (2, .int i), (3, .int o), (4, .int k9), (5, .int k8)]) hx hb dX5_answers_36 hl9 (by decide) rfl (fun ls hl9 => ?_)
        refine lv_iload hx hb dX5_answers_38 (lv_at hl9 7 rfl) ?_
        refine lv_iload hx hb dX5_answers_40 (lv_at hl9 1 rfl) ?_
        refine lv_iconst (v := (-1)) hx hb dX5_answers_42 (by decide) ?_
        refine lv_icmp_eq (tgt := 64) hx hb dX5_answers_43 (by decide) (fun c293 => ?_) (fun c293 => ?_)
        · refine lv_iconst (v := 0) hx hb dX5_answers_64 (by decide) ?_
          refine lv_iadd hx hb dX5_answers_65 ?_
          refine lv_istore (lv' := [(4, .int (k9 + 0)), (8, .int (gA (6 + j))), (7, .int r292), (6, .int (nI j)), (0, .ref mo), (1, .int 1), (2, .int i), (3, .int o), (5, .int k8)]) hx hb dX5_answers_66 hl9 (by decide) rfl (fun ls hl9 => ?_)
          refine lv_iload hx hb dX5_answers_68 (lv_at hl9 8 rfl) ?_
          refine lv_iload hx hb dX5_answers_70 (lv_at hl9 2 rfl) ?_
          refine lv_iconst (v := (-1)) hx hb dX5_answers_72 (by decide) ?_
          refine lv_icmp_eq (tgt := 107) hx hb dX5_answers_73 (by decide) (fun _ => ?_) (fun c9 => absurd c293 c9)
          refine lv_iconst (v := 0) hx hb dX5_answers_107 (by decide) ?_
          refine lv_iadd hx hb dX5_answers_108 ?_
          refine lv_istore (lv' := [(5, .int (k8 + 0)), (4, .int (k9 + 0)), (8, .int (gA (6 + j))), (7, .int r292), (6, .int (nI j)), (0, .ref mo), (1, .int 1), (2, .int i), (3, .int o)]) hx hb dX5_answers_109 hl9 (by decide) rfl (fun ls hl9 => ?_)
          refine lv_iinc (v := (nI (j + 1))) (lv' := [(6, .int (nI (j + 1))), (5, .int (k8 + 0)), (4, .int (k9 + 0)), (8, .int (gA (6 + j))), (7, .int r292), (0, .ref mo), (1, .int 1), (2, .int i), (3, .int o)]) hx hb dX5_answers_111 hl9 (k := 4) rfl (nI_1 j) (by decide) rfl (fun ls hl9 => ?_)
          refine lv_goto (tgt := 9) hx hb dX5_answers_114 (by decide) ?_
          exact ih _ _ H locs ls ⟨rfl, _, _, rfl⟩ hw hS (lv_sub hl9 [0, 5, 6, 7, 8, 2, 1] rfl)
        · refine lv_iload hx hb dX5_answers_46 (lv_at hl9 0 rfl) ?_
          refine lv_if_ne (tgt := 64) hx hb dX5_answers_48 (by decide) (fun c294 => ?_) (fun c294 => ?_)
          · refine lv_iconst (v := 0) hx hb dX5_answers_64 (by decide) ?_
            refine lv_iadd hx hb dX5_answers_65 ?_
            refine lv_istore (lv' := [(4, .int (k9 + 0)), (8, .int (gA (6 + j))), (7, .int r292), (6, .int (nI j)), (0, .ref mo), (1, .int 1), (2, .int i), (3, .int o), (5, .int k8)]) hx hb dX5_answers_66 hl9 (by decide) rfl (fun ls hl9 => ?_)
            refine lv_iload hx hb dX5_answers_68 (lv_at hl9 8 rfl) ?_
            refine lv_iload hx hb dX5_answers_70 (lv_at hl9 2 rfl) ?_
            refine lv_iconst (v := (-1)) hx hb dX5_answers_72 (by decide) ?_
            refine lv_icmp_eq (tgt := 107) hx hb dX5_answers_73 (by decide) (fun c9 => absurd c9 c293) (fun _ => ?_)
            refine lv_iload hx hb dX5_answers_76 (lv_at hl9 1 rfl) ?_
            refine lv_if_eq (tgt := 107) hx hb dX5_answers_78 (by decide) (fun c9 => absurd c9 c294) (fun _ => ?_)
            refine lv_iload hx hb dX5_answers_81 (lv_at hl9 1 rfl) ?_
            refine lv_iload hx hb dX5_answers_83 (lv_at hl9 2 rfl) ?_
            refine lv_ishr hx hb dX5_answers_85 ?_
            refine lv_iconst (v := 1) hx hb dX5_answers_86 (by decide) ?_
            refine lv_iand hx hb dX5_answers_87 ?_
            refine lv_if_ne (tgt := 107) hx hb dX5_answers_88 (by decide) (fun c295 => ?_) (fun c295 => ?_)
            · refine lv_iconst (v := 0) hx hb dX5_answers_107 (by decide) ?_
              refine lv_iadd hx hb dX5_answers_108 ?_
              refine lv_istore (lv' := [(5, .int (k8 + 0)), (4, .int (k9 + 0)), (8, .int (gA (6 + j))), (7, .int r292), (6, .int (nI j)), (0, .ref mo), (1, .int 1), (2, .int i), (3, .int o)]) hx hb dX5_answers_109 hl9 (by decide) rfl (fun ls hl9 => ?_)
              refine lv_iinc (v := (nI (j + 1))) (lv' := [(6, .int (nI (j + 1))), (5, .int (k8 + 0)), (4, .int (k9 + 0)), (8, .int (gA (6 + j))), (7, .int r292), (0, .ref mo), (1, .int 1), (2, .int i), (3, .int o)]) hx hb dX5_answers_111 hl9 (k := 4) rfl (nI_1 j) (by decide) rfl (fun ls hl9 => ?_)
              refine lv_goto (tgt := 9) hx hb dX5_answers_114 (by decide) ?_
              exact ih _ _ H locs ls ⟨rfl, _, _, rfl⟩ hw hS (lv_sub hl9 [0, 5, 6, 7, 8, 2, 1] rfl)
            · refine lv_iload hx hb dX5_answers_91 (lv_at hl9 3 rfl) ?_
              refine hp_S (As := [.int (nI j)]) (rest := [.int k8]) B0 hw hS (c_W5_place hl G f j hj) mS_X5_place qM_X5_92 rfl rfl hl9.1 (Nat.le_of_ble_eq_true rfl) ⟨⟨Nat.le_of_ble_eq_true rfl, Nat.le_of_ble_eq_true rfl⟩, Nat.le_of_ble_eq_true rfl, Nat.le_of_ble_eq_true rfl⟩ dX5_answers_93 (fun E ce q9 f296 H locs hPX hw hS hce hcv hcl => ?_) (fun v f296 H locs hP hw hS => ?_)
              · exact hPX.elim
              · obtain ⟨⟨r297, ev9, h298⟩, ef9⟩ := hP
                rw [ef9] at hw
                subst ev9
                refine W.eq (g2 := F0 m 96 ls [.int r297, .int k8]) rfl ?_
                refine lv_iload hx hb dX5_answers_96 (lv_at hl9 1 rfl) ?_
                refine hp_S (As := [.int (gA (6 + j))]) (rest := [.int r297, .int k8]) B0 hw hS (c_W5_lowest hl G f (gA (6 + j)) (hSA (6 + j) (by omega)) c294) mS_X5_lowest qM_X5_104 rfl rfl hl9.1 (Nat.le_of_ble_eq_true rfl) ⟨⟨Nat.le_of_ble_eq_true rfl, Nat.le_of_ble_eq_true rfl⟩, Nat.le_of_ble_eq_true rfl, Nat.le_of_ble_eq_true rfl⟩ dX5_answers_98 (fun E ce q9 f299 H locs hPX hw hS hce hcv hcl => ?_) (fun v f299 H locs hP hw hS => ?_)
                · exact hPX.elim
                · obtain ⟨⟨r300, ev9⟩, ef9⟩ := hP
                  rw [ef9] at hw
                  subst ev9
                  refine W.eq (g2 := F0 m 101 ls [.int r300, .int r297, .int k8]) rfl ?_
                  refine lv_iconst (v := 1) hx hb dX5_answers_101 (by decide) ?_
                  refine lv_iadd hx hb dX5_answers_102 ?_
                  refine lv_imul hx hb dX5_answers_103 ?_
                  refine lv_goto (tgt := 108) hx hb dX5_answers_104 (by decide) ?_
                  refine lv_iadd hx hb dX5_answers_108 ?_
                  refine lv_istore (lv' := [(5, .int (k8 + (r297 * (r300 + 1)))), (4, .int (k9 + 0)), (8, .int (gA (6 + j))), (7, .int r292), (6, .int (nI j)), (0, .ref mo), (1, .int 1), (2, .int i), (3, .int o)]) hx hb dX5_answers_109 hl9 (by decide) rfl (fun ls hl9 => ?_)
                  refine lv_iinc (v := (nI (j + 1))) (lv' := [(6, .int (nI (j + 1))), (5, .int (k8 + (r297 * (r300 + 1)))), (4, .int (k9 + 0)), (8, .int (gA (6 + j))), (7, .int r292), (0, .ref mo), (1, .int 1), (2, .int i), (3, .int o)]) hx hb dX5_answers_111 hl9 (k := 4) rfl (nI_1 j) (by decide) rfl (fun ls hl9 => ?_)
                  refine lv_goto (tgt := 9) hx hb dX5_answers_114 (by decide) ?_
                  exact ih _ _ H locs ls ⟨rfl, _, _, rfl⟩ hw hS (lv_sub hl9 [0, 5, 6, 7, 8, 2, 1] rfl)
          · refine lv_iload hx hb dX5_answers_51 (lv_at hl9 2 rfl) ?_
            refine hp_S (As := [.int (nI j)]) (rest := [.int k9]) B0 hw hS (c_W5_place hl G f j hj) mS_X5_place qM_X5_92 rfl rfl hl9.1 (Nat.le_of_ble_eq_true rfl) ⟨⟨Nat.le_of_ble_eq_true rfl, Nat.le_of_ble_eq_true rfl⟩, Nat.le_of_ble_eq_true rfl, Nat.le_of_ble_eq_true rfl⟩ dX5_answers_53 (fun E ce q9 f301 H locs hPX hw hS hce hcv hcl => ?_) (fun v f301 H locs hP hw hS => ?_)
            · exact hPX.elim
            · obtain ⟨⟨r302, ev9, h303⟩, ef9⟩ := hP
              rw [ef9] at hw
              subst ev9
              refine W.eq (g2 := F0 m 56 ls [.int r302, .int k9]) rfl ?_
              refine lv_iload hx hb dX5_answers_56 (lv_at hl9 1 rfl) ?_
              refine lv_iconst (v := 1) hx hb dX5_answers_58 (by decide) ?_
              refine lv_iadd hx hb dX5_answers_59 ?_
              refine lv_imul hx hb dX5_answers_60 ?_
              refine lv_goto (tgt := 65) hx hb dX5_answers_61 (by decide) ?_
              refine lv_iadd hx hb dX5_answers_65 ?_
              refine lv_istore (lv' := [(4, .int (k9 + (r302 * (r292 + 1)))), (8, .int (gA (6 + j))), (7, .int r292), (6, .int (nI j)), (0, .ref mo), (1, .int 1), (2, .int i), (3, .int o), (5, .int k8)]) hx hb dX5_answers_66 hl9 (by decide) rfl (fun ls hl9 => ?_)
              refine lv_iload hx hb dX5_answers_68 (lv_at hl9 8 rfl) ?_
              refine lv_iload hx hb dX5_answers_70 (lv_at hl9 2 rfl) ?_
              refine lv_iconst (v := (-1)) hx hb dX5_answers_72 (by decide) ?_
              refine lv_icmp_eq (tgt := 107) hx hb dX5_answers_73 (by decide) (fun c9 => absurd c9 c293) (fun _ => ?_)
              refine lv_iload hx hb dX5_answers_76 (lv_at hl9 1 rfl) ?_
              refine lv_if_eq (tgt := 107) hx hb dX5_answers_78 (by decide) (fun _ => ?_) (fun c9 => absurd c294 c9)
              refine lv_iconst (v := 0) hx hb dX5_answers_107 (by decide) ?_
              refine lv_iadd hx hb dX5_answers_108 ?_
              refine lv_istore (lv' := [(5, .int (k8 + 0)), (4, .int (k9 + (r302 * (r292 + 1)))), (8, .int (gA (6 + j))), (7, .int r292), (6, .int (nI j)), (0, .ref mo), (1, .int 1), (2, .int i), (3, .int o)]) hx hb dX5_answers_109 hl9 (by decide) rfl (fun ls hl9 => ?_)
              refine lv_iinc (v := (nI (j + 1))) (lv' := [(6, .int (nI (j + 1))), (5, .int (k8 + 0)), (4, .int (k9 + (r302 * (r292 + 1)))), (8, .int (gA (6 + j))), (7, .int r292), (0, .ref mo), (1, .int 1), (2, .int i), (3, .int o)]) hx hb dX5_answers_111 hl9 (k := 4) rfl (nI_1 j) (by decide) rfl (fun ls hl9 => ?_)
              refine lv_goto (tgt := 9) hx hb dX5_answers_114 (by decide) ?_
              exact ih _ _ H locs ls ⟨rfl, _, _, rfl⟩ hw hS (lv_sub hl9 [0, 5, 6, 7, 8, 2, 1] rfl)
    · obtain ⟨ef9, k9, k8, el9⟩ := hI
      rw [ef9] at hw
      rw [el9] at hl9
      refine lv_iload hx hb dX5_answers_9 (lv_at hl9 0 rfl) ?_
      refine lv_bipush (v := 6) hx hb dX5_answers_11 (by decide) ?_
      refine lv_icmp_ge (tgt := 117) hx hb dX5_answers_13 (by decide) (fun _ => ?_) (fun c9 => absurd (by decide) c9)
      refine lv_iload hx hb dX5_answers_117 (lv_at hl9 5 rfl) ?_
      refine lv_if_le (tgt := 134) hx hb dX5_answers_119 (by decide) (fun c304 => ?_) (fun c304 => ?_)
      · refine lv_iload hx hb dX5_answers_134 (lv_at hl9 6 rfl) ?_
        refine lv_if_le (tgt := 151) hx hb dX5_answers_136 (by decide) (fun c305 => ?_) (fun c305 => ?_)
        · refine lv_aload_n hx hb dX5_answers_151 rfl (lv_at hl9 1 rfl) ?_
          refine lv_iload_n hx hb dX5_answers_152 rfl (lv_at hl9 2 rfl) ?_
          refine lv_iconst (v := 1) hx hb dX5_answers_153 (by decide) ?_
          refine lv_iload_n hx hb dX5_answers_154 rfl (lv_at hl9 3 rfl) ?_
          refine lv_iconst (v := 0) hx hb dX5_answers_155 (by decide) ?_
          refine hp_V (ci := 5) (As := [.int 1, .int 1, .int i, .int 0]) (rest := []) B0 hw hS (c_W5_sends hl G f mo dW dA dQ dM dS dL dR dT dZ dI dH dN dK dJ dU dO dF dP dE dX dY dG vth vpk vpc vnx vgv k_mo hND gM gA k_dM k_dA hSA B ⟨_, _, _, _, _, _, _, _, _, _, _, _, _, k_dQ, k_dS, k_dL, k_dR, k_dT, k_dZ, k_dI, k_dH, k_dN, k_dK, k_dJ, k_dU, k_dO, hHd9, (hMn.mono hMn9 (by omega))⟩ (by omega) 1 1 i 0 (Or.inr rfl)) mV_X5_sends qM_X5_96 rfl k_mo rfl rfl hl9.1 (Nat.le_of_ble_eq_true rfl) ⟨⟨Nat.le_of_ble_eq_true rfl, Nat.le_of_ble_eq_true rfl⟩, Nat.le_of_ble_eq_true rfl, Nat.le_of_ble_eq_true rfl⟩ dX5_answers_156 (fun E ce q9 f306 H locs hPX hw hS hce hcv hcl => ?_) (fun v f306 H locs hP hw hS => ?_)
          · exact hPX.elim
          · obtain ⟨ev9, h308, k309⟩ := hP
            have h308L := h308
            obtain ⟨gQ_n307, gS_n307, gL_n307, gR_n307, gT_n307, gZ_n307, gI_n307, gH_n307, gN_n307, gK_n307, gJ_n307, gU_n307, gO_n307, k_dQ_n307, k_dS_n307, k_dL_n307, k_dR_n307, k_dT_n307, k_dZ_n307, k_dI_n307, k_dH_n307, k_dN_n307, k_dK_n307, k_dJ_n307, k_dU_n307, k_dO_n307, hHd9_n307, hMn9_n307⟩ := id h308
            subst ev9
            refine W.eq (g2 := F0 m 159 ls []) rfl ?_
            refine lv_aload_n hx hb dX5_answers_159 rfl (lv_at hl9 1 rfl) ?_
            have n311 : mo ≠ dO := hne k_mo k_dO (Nat.ne_of_beq_eq_false rfl)
            have n312 : mo ≠ dU := hne k_mo k_dU (Nat.ne_of_beq_eq_false rfl)
            have n313 : mo ≠ dJ := hne k_mo k_dJ (Nat.ne_of_beq_eq_false rfl)
            have n314 : mo ≠ dK := hne k_mo k_dK (Nat.ne_of_beq_eq_false rfl)
            have n315 : mo ≠ dN := hne k_mo k_dN (Nat.ne_of_beq_eq_false rfl)
            have n316 : mo ≠ dH := hne k_mo k_dH (Nat.ne_of_beq_eq_false rfl)
            have n317 : mo ≠ dI := hne k_mo k_dI (Nat.ne_of_beq_eq_false rfl)
            have n318 : mo ≠ dZ := hne k_mo k_dZ (Nat.ne_of_beq_eq_false rfl)
            have n319 : mo ≠ dT := hne k_mo k_dT (Nat.ne_of_beq_eq_false rfl)
            have n320 : mo ≠ dR := hne k_mo k_dR (Nat.ne_of_beq_eq_false rfl)
            have n321 : mo ≠ dL := hne k_mo k_dL (Nat.ne_of_beq_eq_false rfl)
            have n322 : mo ≠ dS := hne k_mo k_dS (Nat.ne_of_beq_eq_false rfl)
            have n323 : mo ≠ dQ := hne k_mo k_dQ (Nat.ne_of_beq_eq_false rfl)
            have h310 : f306 mo = some (.inr (5, [.int vth, .ref dW, .ref dA, .ref dQ, .ref dM, .ref dS, .ref dL, .ref dR, .ref dT, .ref dZ, .ref dI, .ref dH, .ref dN, .ref dK, .ref dJ, .ref dU, .ref dO, .int vpk, .int vpc, .ref dF, .ref dP, .ref dE, .ref dX, .ref dY, .int vnx, .int vgv, .ref dG])) := (hEq.k k309) _ _ k_mo (ninc n323 (ninc n322 (ninc n321 (ninc n320 (ninc n319 (ninc n318 (ninc n317 (ninc n316 (ninc n315 (ninc n314 (ninc n313 (ninc n312 (ninc n311 nin0)))))))))))))
            refine hp_get B0 hw 5 rfl in_X5 h310 5 (by decide) qF_X5_22 rfl dX5_answers_160 ?_
            refine lv_iload_n hx hb dX5_answers_163 rfl (lv_at hl9 2 rfl) ?_
            refine lv_aload_n hx hb dX5_answers_164 rfl (lv_at hl9 1 rfl) ?_
            refine hp_get B0 hw 5 rfl in_X5 h310 5 (by decide) qF_X5_22 rfl dX5_answers_165 ?_
            refine lv_iload_n hx hb dX5_answers_168 rfl (lv_at hl9 2 rfl) ?_
            refine hp_iald B0 hw k_dS_n307 (by unfold vp_in; decide) dX5_answers_169 ?_
            refine lv_iconst (v := 1) hx hb dX5_answers_170 (by decide) ?_
            refine lv_icmp_ne (tgt := 178) hx hb dX5_answers_171 (by decide) (fun c324 => ?_) (fun c324 => ?_)
            · refine lv_aload_n hx hb dX5_answers_178 rfl (lv_at hl9 1 rfl) ?_
              refine hp_get B0 hw 5 rfl in_X5 h310 5 (by decide) qF_X5_22 rfl dX5_answers_179 ?_
              refine lv_iload_n hx hb dX5_answers_182 rfl (lv_at hl9 2 rfl) ?_
              refine hp_iald B0 hw k_dS_n307 (by unfold vp_in; decide) dX5_answers_183 ?_
              refine lv_iconst (v := 2) hx hb dX5_answers_184 (by decide) ?_
              refine lv_icmp_ne (tgt := 192) hx hb dX5_answers_185 (by decide) (fun c325 => ?_) (fun c325 => ?_)
              · refine lv_aload_n hx hb dX5_answers_192 rfl (lv_at hl9 1 rfl) ?_
                refine hp_get B0 hw 5 rfl in_X5 h310 5 (by decide) qF_X5_22 rfl dX5_answers_193 ?_
                refine lv_iload_n hx hb dX5_answers_196 rfl (lv_at hl9 2 rfl) ?_
                refine hp_iald B0 hw k_dS_n307 (by unfold vp_in; decide) dX5_answers_197 ?_
                refine hp_iast B0 hw hS k_dS_n307 (by unfold vp_in; decide) dX5_answers_198 (fun H locs f326 ef326 hw hS => ?_)
                have h327 : f326 dS = some (.inl (cI G, 2, .inl (upd gS_n307 (1 : Int32).toNatClampNeg (gS_n307 (1 : Int32).toNatClampNeg)))) := by rw [ef326, va_up_self]
                refine lv_iload hx hb dX5_answers_199 (lv_at hl9 5 rfl) ?_
                refine lv_iload hx hb dX5_answers_201 (lv_at hl9 6 rfl) ?_
                refine lv_iadd hx hb dX5_answers_203 ?_
                refine lv_if_le (tgt := 224) hx hb dX5_answers_204 (by decide) (fun c328 => ?_) (fun c328 => ?_)
                · have n330 : dQ ≠ dS := hneL k_dQ k_dS (Nat.ne_of_beq_eq_false rfl)
                  have h329 : f326 dQ = some (.inl (cI G, 12, .inl gQ_n307)) := by rw [ef326, va_up_ne _ _ n330]; exact k_dQ_n307
                  have h331 : f326 dL = some (.inl (cI G, 2, .inl gL_n307)) := by rw [ef326, va_up_ne _ _ (Ne.symm nd_dS_dL)]; exact k_dL_n307
                  have h332 : f326 dR = some (.inl (cI G, 2, .inl gR_n307)) := by rw [ef326, va_up_ne _ _ (Ne.symm nd_dS_dR)]; exact k_dR_n307
                  have h333 : f326 dT = some (.inl (cI G, 2, .inl gT_n307)) := by rw [ef326, va_up_ne _ _ (Ne.symm nd_dS_dT)]; exact k_dT_n307
                  have h334 : f326 dZ = some (.inl (cZ G, 2, .inl gZ_n307)) := by rw [ef326, va_up_ne _ _ (Ne.symm nd_dS_dZ)]; exact k_dZ_n307
                  have h335 : f326 dI = some (.inl (cI G, 2, .inl gI_n307)) := by rw [ef326, va_up_ne _ _ (Ne.symm nd_dS_dI)]; exact k_dI_n307
                  have h336 : f326 dH = some (.inl (cI G, 2, .inl gH_n307)) := by rw [ef326, va_up_ne _ _ (Ne.symm nd_dS_dH)]; exact k_dH_n307
                  have h337 : f326 dN = some (.inl (cI G, 2, .inl gN_n307)) := by rw [ef326, va_up_ne _ _ (Ne.symm nd_dS_dN)]; exact k_dN_n307
                  have n339 : dK ≠ dS := hneL k_dK k_dS (Nat.ne_of_beq_eq_false rfl)
                  have h338 : f326 dK = some (.inl (cI G, 2048, .inl gK_n307)) := by rw [ef326, va_up_ne _ _ n339]; exact k_dK_n307
                  have n341 : dJ ≠ dS := hneL k_dJ k_dS (Nat.ne_of_beq_eq_false rfl)
                  have h340 : f326 dJ = some (.inl (cI G, 2048, .inl gJ_n307)) := by rw [ef326, va_up_ne _ _ n341]; exact k_dJ_n307
                  have n343 : dU ≠ dS := hneL k_dU k_dS (Nat.ne_of_beq_eq_false rfl)
                  have h342 : f326 dU = some (.inl (cI G, 2048, .inl gU_n307)) := by rw [ef326, va_up_ne _ _ n343]; exact k_dU_n307
                  have n345 : dO ≠ dS := hneL k_dO k_dS (Nat.ne_of_beq_eq_false rfl)
                  have h344 : f326 dO = some (.inl (cI G, 2048, .inl gO_n307)) := by rw [ef326, va_up_ne _ _ n345]; exact k_dO_n307
                  exact hp_vret B0 hw hS hr ⟨Nat.le_of_ble_eq_true rfl, Nat.le_of_ble_eq_true rfl⟩ dX5_answers_224 (⟨rfl, ⟨_, _, _, _, _, _, _, _, _, _, _, _, _, h329, h327, h331, h332, h333, h334, h335, h336, h337, h338, h340, h342, h344, hHd9_n307, (hMn.mono hMn9_n307 (by omega))⟩, ((show hEq [dQ, dS, dL, dR, dT, dZ, dI, dH, dN, dK, dJ, dU, dO] f f306 from (hEq.mono k309 (fun _ h9 => h9))).tr (show hEq [dQ, dS, dL, dR, dT, dZ, dI, dH, dN, dK, dJ, dU, dO] f306 f326 from (by rw [ef326]; exact hEq.up (List.mem_cons_of_mem _ List.mem_cons_self))))⟩)
                · refine lv_aload_n hx hb dX5_answers_207 rfl (lv_at hl9 1 rfl) ?_
                  have h346 : f326 mo = some (.inr (5, [.int vth, .ref dW, .ref dA, .ref dQ, .ref dM, .ref dS, .ref dL, .ref dR, .ref dT, .ref dZ, .ref dI, .ref dH, .ref dN, .ref dK, .ref dJ, .ref dU, .ref dO, .int vpk, .int vpc, .ref dF, .ref dP, .ref dE, .ref dX, .ref dY, .int vnx, .int vgv, .ref dG])) := by rw [ef326, va_up_ne _ _ n322]; exact h310
                  refine hp_get B0 hw 5 rfl in_X5 h346 5 (by decide) qF_X5_22 rfl dX5_answers_208 ?_
                  refine lv_iload_n hx hb dX5_answers_211 rfl (lv_at hl9 2 rfl) ?_
                  refine hp_iald B0 hw h327 (by unfold vp_in; decide) dX5_answers_212 ?_
                  refine lv_iconst (v := 3) hx hb dX5_answers_213 (by decide) ?_
                  refine lv_icmp_ne (tgt := 224) hx hb dX5_answers_214 (by decide) (fun c347 => ?_) (fun c347 => ?_)
                  · have n349 : dQ ≠ dS := hneL k_dQ k_dS (Nat.ne_of_beq_eq_false rfl)
                    have h348 : f326 dQ = some (.inl (cI G, 12, .inl gQ_n307)) := by rw [ef326, va_up_ne _ _ n349]; exact k_dQ_n307
                    have h350 : f326 dL = some (.inl (cI G, 2, .inl gL_n307)) := by rw [ef326, va_up_ne _ _ (Ne.symm nd_dS_dL)]; exact k_dL_n307
                    have h351 : f326 dR = some (.inl (cI G, 2, .inl gR_n307)) := by rw [ef326, va_up_ne _ _ (Ne.symm nd_dS_dR)]; exact k_dR_n307
                    have h352 : f326 dT = some (.inl (cI G, 2, .inl gT_n307)) := by rw [ef326, va_up_ne _ _ (Ne.symm nd_dS_dT)]; exact k_dT_n307
                    have h353 : f326 dZ = some (.inl (cZ G, 2, .inl gZ_n307)) := by rw [ef326, va_up_ne _ _ (Ne.symm nd_dS_dZ)]; exact k_dZ_n307
                    have h354 : f326 dI = some (.inl (cI G, 2, .inl gI_n307)) := by rw [ef326, va_up_ne _ _ (Ne.symm nd_dS_dI)]; exact k_dI_n307
                    have h355 : f326 dH = some (.inl (cI G, 2, .inl gH_n307)) := by rw [ef326, va_up_ne _ _ (Ne.symm nd_dS_dH)]; exact k_dH_n307
                    have h356 : f326 dN = some (.inl (cI G, 2, .inl gN_n307)) := by rw [ef326, va_up_ne _ _ (Ne.symm nd_dS_dN)]; exact k_dN_n307
                    have n358 : dK ≠ dS := hneL k_dK k_dS (Nat.ne_of_beq_eq_false rfl)
                    have h357 : f326 dK = some (.inl (cI G, 2048, .inl gK_n307)) := by rw [ef326, va_up_ne _ _ n358]; exact k_dK_n307
                    have n360 : dJ ≠ dS := hneL k_dJ k_dS (Nat.ne_of_beq_eq_false rfl)
                    have h359 : f326 dJ = some (.inl (cI G, 2048, .inl gJ_n307)) := by rw [ef326, va_up_ne _ _ n360]; exact k_dJ_n307
                    have n362 : dU ≠ dS := hneL k_dU k_dS (Nat.ne_of_beq_eq_false rfl)
                    have h361 : f326 dU = some (.inl (cI G, 2048, .inl gU_n307)) := by rw [ef326, va_up_ne _ _ n362]; exact k_dU_n307
                    have n364 : dO ≠ dS := hneL k_dO k_dS (Nat.ne_of_beq_eq_false rfl)
                    have h363 : f326 dO = some (.inl (cI G, 2048, .inl gO_n307)) := by rw [ef326, va_up_ne _ _ n364]; exact k_dO_n307
                    exact hp_vret B0 hw hS hr ⟨Nat.le_of_ble_eq_true rfl, Nat.le_of_ble_eq_true rfl⟩ dX5_answers_224 (⟨rfl, ⟨_, _, _, _, _, _, _, _, _, _, _, _, _, h348, h327, h350, h351, h352, h353, h354, h355, h356, h357, h359, h361, h363, hHd9_n307, (hMn.mono hMn9_n307 (by omega))⟩, ((show hEq [dQ, dS, dL, dR, dT, dZ, dI, dH, dN, dK, dJ, dU, dO] f f306 from (hEq.mono k309 (fun _ h9 => h9))).tr (show hEq [dQ, dS, dL, dR, dT, dZ, dI, dH, dN, dK, dJ, dU, dO] f306 f326 from (by rw [ef326]; exact hEq.up (List.mem_cons_of_mem _ List.mem_cons_self))))⟩)
                  · refine lv_aload_n hx hb dX5_answers_217 rfl (lv_at hl9 1 rfl) ?_
                    refine hp_get B0 hw 5 rfl in_X5 h346 5 (by decide) qF_X5_22 rfl dX5_answers_218 ?_
                    refine lv_iload_n hx hb dX5_answers_221 rfl (lv_at hl9 2 rfl) ?_
                    refine lv_iconst (v := 1) hx hb dX5_answers_222 (by decide) ?_
                    refine hp_iast B0 hw hS h327 (by unfold vp_in; decide) dX5_answers_223 (fun H locs f365 ef365 hw hS => ?_)
                    have e366 : f365 = va_up f306 dS (some (.inl (cI G, 2, .inl (upd (upd gS_n307 (1 : Int32).toNatClampNeg (gS_n307 (1 : Int32).toNatClampNeg)) (1 : Int32).toNatClampNeg 1)))) := by rw [ef365, ef326, bx_uu]
                    have h367 : f365 dS = some (.inl (cI G, 2, .inl (upd (upd gS_n307 (1 : Int32).toNatClampNeg (gS_n307 (1 : Int32).toNatClampNeg)) (1 : Int32).toNatClampNeg 1))) := by rw [ef365, va_up_self]
                    have n369 : dQ ≠ dS := hneL k_dQ k_dS (Nat.ne_of_beq_eq_false rfl)
                    have h368 : f365 dQ = some (.inl (cI G, 12, .inl gQ_n307)) := by rw [e366, va_up_ne _ _ n369]; exact k_dQ_n307
                    have h370 : f365 dL = some (.inl (cI G, 2, .inl gL_n307)) := by rw [e366, va_up_ne _ _ (Ne.symm nd_dS_dL)]; exact k_dL_n307
                    have h371 : f365 dR = some (.inl (cI G, 2, .inl gR_n307)) := by rw [e366, va_up_ne _ _ (Ne.symm nd_dS_dR)]; exact k_dR_n307
                    have h372 : f365 dT = some (.inl (cI G, 2, .inl gT_n307)) := by rw [e366, va_up_ne _ _ (Ne.symm nd_dS_dT)]; exact k_dT_n307
                    have h373 : f365 dZ = some (.inl (cZ G, 2, .inl gZ_n307)) := by rw [e366, va_up_ne _ _ (Ne.symm nd_dS_dZ)]; exact k_dZ_n307
                    have h374 : f365 dI = some (.inl (cI G, 2, .inl gI_n307)) := by rw [e366, va_up_ne _ _ (Ne.symm nd_dS_dI)]; exact k_dI_n307
                    have h375 : f365 dH = some (.inl (cI G, 2, .inl gH_n307)) := by rw [e366, va_up_ne _ _ (Ne.symm nd_dS_dH)]; exact k_dH_n307
                    have h376 : f365 dN = some (.inl (cI G, 2, .inl gN_n307)) := by rw [e366, va_up_ne _ _ (Ne.symm nd_dS_dN)]; exact k_dN_n307
                    have n378 : dK ≠ dS := hneL k_dK k_dS (Nat.ne_of_beq_eq_false rfl)
                    have h377 : f365 dK = some (.inl (cI G, 2048, .inl gK_n307)) := by rw [e366, va_up_ne _ _ n378]; exact k_dK_n307
                    have n380 : dJ ≠ dS := hneL k_dJ k_dS (Nat.ne_of_beq_eq_false rfl)
                    have h379 : f365 dJ = some (.inl (cI G, 2048, .inl gJ_n307)) := by rw [e366, va_up_ne _ _ n380]; exact k_dJ_n307
                    have n382 : dU ≠ dS := hneL k_dU k_dS (Nat.ne_of_beq_eq_false rfl)
                    have h381 : f365 dU = some (.inl (cI G, 2048, .inl gU_n307)) := by rw [e366, va_up_ne _ _ n382]; exact k_dU_n307
                    have n384 : dO ≠ dS := hneL k_dO k_dS (Nat.ne_of_beq_eq_false rfl)
                    have h383 : f365 dO = some (.inl (cI G, 2048, .inl gO_n307)) := by rw [e366, va_up_ne _ _ n384]; exact k_dO_n307
                    exact hp_vret B0 hw hS hr ⟨Nat.le_of_ble_eq_true rfl, Nat.le_of_ble_eq_true rfl⟩ dX5_answers_224 (⟨rfl, ⟨_, _, _, _, _, _, _, _, _, _, _, _, _, h368, h367, h370, h371, h372, h373, h374, h375, h376, h377, h379, h381, h383, hHd9_n307, (hMn.mono hMn9_n307 (by omega))⟩, ((show hEq [dQ, dS, dL, dR, dT, dZ, dI, dH, dN, dK, dJ, dU, dO] f f306 from (hEq.mono k309 (fun _ h9 => h9))).tr (show hEq [dQ, dS, dL, dR, dT, dZ, dI, dH, dN, dK, dJ, dU, dO] f306 f365 from (by rw [e366]; exact hEq.up (List.mem_cons_of_mem _ List.mem_cons_self))))⟩)
              · refine lv_iconst (v := 4) hx hb dX5_answers_188 (by decide) ?_
                refine lv_goto (tgt := 198) hx hb dX5_answers_189 (by decide) ?_
                refine hp_iast B0 hw hS k_dS_n307 (by unfold vp_in; decide) dX5_answers_198 (fun H locs f385 ef385 hw hS => ?_)
                have h386 : f385 dS = some (.inl (cI G, 2, .inl (upd gS_n307 (1 : Int32).toNatClampNeg 4))) := by rw [ef385, va_up_self]
                refine lv_iload hx hb dX5_answers_199 (lv_at hl9 5 rfl) ?_
                refine lv_iload hx hb dX5_answers_201 (lv_at hl9 6 rfl) ?_
                refine lv_iadd hx hb dX5_answers_203 ?_
                refine lv_if_le (tgt := 224) hx hb dX5_answers_204 (by decide) (fun c387 => ?_) (fun c387 => ?_)
                · have n389 : dQ ≠ dS := hneL k_dQ k_dS (Nat.ne_of_beq_eq_false rfl)
                  have h388 : f385 dQ = some (.inl (cI G, 12, .inl gQ_n307)) := by rw [ef385, va_up_ne _ _ n389]; exact k_dQ_n307
                  have h390 : f385 dL = some (.inl (cI G, 2, .inl gL_n307)) := by rw [ef385, va_up_ne _ _ (Ne.symm nd_dS_dL)]; exact k_dL_n307
                  have h391 : f385 dR = some (.inl (cI G, 2, .inl gR_n307)) := by rw [ef385, va_up_ne _ _ (Ne.symm nd_dS_dR)]; exact k_dR_n307
                  have h392 : f385 dT = some (.inl (cI G, 2, .inl gT_n307)) := by rw [ef385, va_up_ne _ _ (Ne.symm nd_dS_dT)]; exact k_dT_n307
                  have h393 : f385 dZ = some (.inl (cZ G, 2, .inl gZ_n307)) := by rw [ef385, va_up_ne _ _ (Ne.symm nd_dS_dZ)]; exact k_dZ_n307
                  have h394 : f385 dI = some (.inl (cI G, 2, .inl gI_n307)) := by rw [ef385, va_up_ne _ _ (Ne.symm nd_dS_dI)]; exact k_dI_n307
                  have h395 : f385 dH = some (.inl (cI G, 2, .inl gH_n307)) := by rw [ef385, va_up_ne _ _ (Ne.symm nd_dS_dH)]; exact k_dH_n307
                  have h396 : f385 dN = some (.inl (cI G, 2, .inl gN_n307)) := by rw [ef385, va_up_ne _ _ (Ne.symm nd_dS_dN)]; exact k_dN_n307
                  have n398 : dK ≠ dS := hneL k_dK k_dS (Nat.ne_of_beq_eq_false rfl)
                  have h397 : f385 dK = some (.inl (cI G, 2048, .inl gK_n307)) := by rw [ef385, va_up_ne _ _ n398]; exact k_dK_n307
                  have n400 : dJ ≠ dS := hneL k_dJ k_dS (Nat.ne_of_beq_eq_false rfl)
                  have h399 : f385 dJ = some (.inl (cI G, 2048, .inl gJ_n307)) := by rw [ef385, va_up_ne _ _ n400]; exact k_dJ_n307
                  have n402 : dU ≠ dS := hneL k_dU k_dS (Nat.ne_of_beq_eq_false rfl)
                  have h401 : f385 dU = some (.inl (cI G, 2048, .inl gU_n307)) := by rw [ef385, va_up_ne _ _ n402]; exact k_dU_n307
                  have n404 : dO ≠ dS := hneL k_dO k_dS (Nat.ne_of_beq_eq_false rfl)
                  have h403 : f385 dO = some (.inl (cI G, 2048, .inl gO_n307)) := by rw [ef385, va_up_ne _ _ n404]; exact k_dO_n307
                  exact hp_vret B0 hw hS hr ⟨Nat.le_of_ble_eq_true rfl, Nat.le_of_ble_eq_true rfl⟩ dX5_answers_224 (⟨rfl, ⟨_, _, _, _, _, _, _, _, _, _, _, _, _, h388, h386, h390, h391, h392, h393, h394, h395, h396, h397, h399, h401, h403, hHd9_n307, (hMn.mono hMn9_n307 (by omega))⟩, ((show hEq [dQ, dS, dL, dR, dT, dZ, dI, dH, dN, dK, dJ, dU, dO] f f306 from (hEq.mono k309 (fun _ h9 => h9))).tr (show hEq [dQ, dS, dL, dR, dT, dZ, dI, dH, dN, dK, dJ, dU, dO] f306 f385 from (by rw [ef385]; exact hEq.up (List.mem_cons_of_mem _ List.mem_cons_self))))⟩)
                · refine lv_aload_n hx hb dX5_answers_207 rfl (lv_at hl9 1 rfl) ?_
                  have h405 : f385 mo = some (.inr (5, [.int vth, .ref dW, .ref dA, .ref dQ, .ref dM, .ref dS, .ref dL, .ref dR, .ref dT, .ref dZ, .ref dI, .ref dH, .ref dN, .ref dK, .ref dJ, .ref dU, .ref dO, .int vpk, .int vpc, .ref dF, .ref dP, .ref dE, .ref dX, .ref dY, .int vnx, .int vgv, .ref dG])) := by rw [ef385, va_up_ne _ _ n322]; exact h310
                  refine hp_get B0 hw 5 rfl in_X5 h405 5 (by decide) qF_X5_22 rfl dX5_answers_208 ?_
                  refine lv_iload_n hx hb dX5_answers_211 rfl (lv_at hl9 2 rfl) ?_
                  refine hp_iald B0 hw h386 (by unfold vp_in; decide) dX5_answers_212 ?_
                  refine lv_iconst (v := 3) hx hb dX5_answers_213 (by decide) ?_
                  refine lv_icmp_ne (tgt := 224) hx hb dX5_answers_214 (by decide) (fun c406 => ?_) (fun c406 => ?_)
                  · have n408 : dQ ≠ dS := hneL k_dQ k_dS (Nat.ne_of_beq_eq_false rfl)
                    have h407 : f385 dQ = some (.inl (cI G, 12, .inl gQ_n307)) := by rw [ef385, va_up_ne _ _ n408]; exact k_dQ_n307
                    have h409 : f385 dL = some (.inl (cI G, 2, .inl gL_n307)) := by rw [ef385, va_up_ne _ _ (Ne.symm nd_dS_dL)]; exact k_dL_n307
                    have h410 : f385 dR = some (.inl (cI G, 2, .inl gR_n307)) := by rw [ef385, va_up_ne _ _ (Ne.symm nd_dS_dR)]; exact k_dR_n307
                    have h411 : f385 dT = some (.inl (cI G, 2, .inl gT_n307)) := by rw [ef385, va_up_ne _ _ (Ne.symm nd_dS_dT)]; exact k_dT_n307
                    have h412 : f385 dZ = some (.inl (cZ G, 2, .inl gZ_n307)) := by rw [ef385, va_up_ne _ _ (Ne.symm nd_dS_dZ)]; exact k_dZ_n307
                    have h413 : f385 dI = some (.inl (cI G, 2, .inl gI_n307)) := by rw [ef385, va_up_ne _ _ (Ne.symm nd_dS_dI)]; exact k_dI_n307
                    have h414 : f385 dH = some (.inl (cI G, 2, .inl gH_n307)) := by rw [ef385, va_up_ne _ _ (Ne.symm nd_dS_dH)]; exact k_dH_n307
                    have h415 : f385 dN = some (.inl (cI G, 2, .inl gN_n307)) := by rw [ef385, va_up_ne _ _ (Ne.symm nd_dS_dN)]; exact k_dN_n307
                    have n417 : dK ≠ dS := hneL k_dK k_dS (Nat.ne_of_beq_eq_false rfl)
                    have h416 : f385 dK = some (.inl (cI G, 2048, .inl gK_n307)) := by rw [ef385, va_up_ne _ _ n417]; exact k_dK_n307
                    have n419 : dJ ≠ dS := hneL k_dJ k_dS (Nat.ne_of_beq_eq_false rfl)
                    have h418 : f385 dJ = some (.inl (cI G, 2048, .inl gJ_n307)) := by rw [ef385, va_up_ne _ _ n419]; exact k_dJ_n307
                    have n421 : dU ≠ dS := hneL k_dU k_dS (Nat.ne_of_beq_eq_false rfl)
                    have h420 : f385 dU = some (.inl (cI G, 2048, .inl gU_n307)) := by rw [ef385, va_up_ne _ _ n421]; exact k_dU_n307
                    have n423 : dO ≠ dS := hneL k_dO k_dS (Nat.ne_of_beq_eq_false rfl)
                    have h422 : f385 dO = some (.inl (cI G, 2048, .inl gO_n307)) := by rw [ef385, va_up_ne _ _ n423]; exact k_dO_n307
                    exact hp_vret B0 hw hS hr ⟨Nat.le_of_ble_eq_true rfl, Nat.le_of_ble_eq_true rfl⟩ dX5_answers_224 (⟨rfl, ⟨_, _, _, _, _, _, _, _, _, _, _, _, _, h407, h386, h409, h410, h411, h412, h413, h414, h415, h416, h418, h420, h422, hHd9_n307, (hMn.mono hMn9_n307 (by omega))⟩, ((show hEq [dQ, dS, dL, dR, dT, dZ, dI, dH, dN, dK, dJ, dU, dO] f f306 from (hEq.mono k309 (fun _ h9 => h9))).tr (show hEq [dQ, dS, dL, dR, dT, dZ, dI, dH, dN, dK, dJ, dU, dO] f306 f385 from (by rw [ef385]; exact hEq.up (List.mem_cons_of_mem _ List.mem_cons_self))))⟩)
                  · refine lv_aload_n hx hb dX5_answers_217 rfl (lv_at hl9 1 rfl) ?_
                    refine hp_get B0 hw 5 rfl in_X5 h405 5 (by decide) qF_X5_22 rfl dX5_answers_218 ?_
                    refine lv_iload_n hx hb dX5_answers_221 rfl (lv_at hl9 2 rfl) ?_
                    refine lv_iconst (v := 1) hx hb dX5_answers_222 (by decide) ?_
                    refine hp_iast B0 hw hS h386 (by unfold vp_in; decide) dX5_answers_223 (fun H locs f424 ef424 hw hS => ?_)
                    have e425 : f424 = va_up f306 dS (some (.inl (cI G, 2, .inl (upd (upd gS_n307 (1 : Int32).toNatClampNeg 4) (1 : Int32).toNatClampNeg 1)))) := by rw [ef424, ef385, bx_uu]
                    have h426 : f424 dS = some (.inl (cI G, 2, .inl (upd (upd gS_n307 (1 : Int32).toNatClampNeg 4) (1 : Int32).toNatClampNeg 1))) := by rw [ef424, va_up_self]
                    have n428 : dQ ≠ dS := hneL k_dQ k_dS (Nat.ne_of_beq_eq_false rfl)
                    have h427 : f424 dQ = some (.inl (cI G, 12, .inl gQ_n307)) := by rw [e425, va_up_ne _ _ n428]; exact k_dQ_n307
                    have h429 : f424 dL = some (.inl (cI G, 2, .inl gL_n307)) := by rw [e425, va_up_ne _ _ (Ne.symm nd_dS_dL)]; exact k_dL_n307
                    have h430 : f424 dR = some (.inl (cI G, 2, .inl gR_n307)) := by rw [e425, va_up_ne _ _ (Ne.symm nd_dS_dR)]; exact k_dR_n307
                    have h431 : f424 dT = some (.inl (cI G, 2, .inl gT_n307)) := by rw [e425, va_up_ne _ _ (Ne.symm nd_dS_dT)]; exact k_dT_n307
                    have h432 : f424 dZ = some (.inl (cZ G, 2, .inl gZ_n307)) := by rw [e425, va_up_ne _ _ (Ne.symm nd_dS_dZ)]; exact k_dZ_n307
                    have h433 : f424 dI = some (.inl (cI G, 2, .inl gI_n307)) := by rw [e425, va_up_ne _ _ (Ne.symm nd_dS_dI)]; exact k_dI_n307
                    have h434 : f424 dH = some (.inl (cI G, 2, .inl gH_n307)) := by rw [e425, va_up_ne _ _ (Ne.symm nd_dS_dH)]; exact k_dH_n307
                    have h435 : f424 dN = some (.inl (cI G, 2, .inl gN_n307)) := by rw [e425, va_up_ne _ _ (Ne.symm nd_dS_dN)]; exact k_dN_n307
                    have n437 : dK ≠ dS := hneL k_dK k_dS (Nat.ne_of_beq_eq_false rfl)
                    have h436 : f424 dK = some (.inl (cI G, 2048, .inl gK_n307)) := by rw [e425, va_up_ne _ _ n437]; exact k_dK_n307
                    have n439 : dJ ≠ dS := hneL k_dJ k_dS (Nat.ne_of_beq_eq_false rfl)
                    have h438 : f424 dJ = some (.inl (cI G, 2048, .inl gJ_n307)) := by rw [e425, va_up_ne _ _ n439]; exact k_dJ_n307
                    have n441 : dU ≠ dS := hneL k_dU k_dS (Nat.ne_of_beq_eq_false rfl)
                    have h440 : f424 dU = some (.inl (cI G, 2048, .inl gU_n307)) := by rw [e425, va_up_ne _ _ n441]; exact k_dU_n307
                    have n443 : dO ≠ dS := hneL k_dO k_dS (Nat.ne_of_beq_eq_false rfl)
                    have h442 : f424 dO = some (.inl (cI G, 2048, .inl gO_n307)) := by rw [e425, va_up_ne _ _ n443]; exact k_dO_n307
                    exact hp_vret B0 hw hS hr ⟨Nat.le_of_ble_eq_true rfl, Nat.le_of_ble_eq_true rfl⟩ dX5_answers_224 (⟨rfl, ⟨_, _, _, _, _, _, _, _, _, _, _, _, _, h427, h426, h429, h430, h431, h432, h433, h434, h435, h436, h438, h440, h442, hHd9_n307, (hMn.mono hMn9_n307 (by omega))⟩, ((show hEq [dQ, dS, dL, dR, dT, dZ, dI, dH, dN, dK, dJ, dU, dO] f f306 from (hEq.mono k309 (fun _ h9 => h9))).tr (show hEq [dQ, dS, dL, dR, dT, dZ, dI, dH, dN, dK, dJ, dU, dO] f306 f424 from (by rw [e425]; exact hEq.up (List.mem_cons_of_mem _ List.mem_cons_self))))⟩)
            · refine lv_iconst (v := 3) hx hb dX5_answers_174 (by decide) ?_
              refine lv_goto (tgt := 198) hx hb dX5_answers_175 (by decide) ?_
              refine hp_iast B0 hw hS k_dS_n307 (by unfold vp_in; decide) dX5_answers_198 (fun H locs f444 ef444 hw hS => ?_)
              have h445 : f444 dS = some (.inl (cI G, 2, .inl (upd gS_n307 (1 : Int32).toNatClampNeg 3))) := by rw [ef444, va_up_self]
              refine lv_iload hx hb dX5_answers_199 (lv_at hl9 5 rfl) ?_
              refine lv_iload hx hb dX5_answers_201 (lv_at hl9 6 rfl) ?_
              refine lv_iadd hx hb dX5_answers_203 ?_
              refine lv_if_le (tgt := 224) hx hb dX5_answers_204 (by decide) (fun c446 => ?_) (fun c446 => ?_)
              · have n448 : dQ ≠ dS := hneL k_dQ k_dS (Nat.ne_of_beq_eq_false rfl)
                have h447 : f444 dQ = some (.inl (cI G, 12, .inl gQ_n307)) := by rw [ef444, va_up_ne _ _ n448]; exact k_dQ_n307
                have h449 : f444 dL = some (.inl (cI G, 2, .inl gL_n307)) := by rw [ef444, va_up_ne _ _ (Ne.symm nd_dS_dL)]; exact k_dL_n307
                have h450 : f444 dR = some (.inl (cI G, 2, .inl gR_n307)) := by rw [ef444, va_up_ne _ _ (Ne.symm nd_dS_dR)]; exact k_dR_n307
                have h451 : f444 dT = some (.inl (cI G, 2, .inl gT_n307)) := by rw [ef444, va_up_ne _ _ (Ne.symm nd_dS_dT)]; exact k_dT_n307
                have h452 : f444 dZ = some (.inl (cZ G, 2, .inl gZ_n307)) := by rw [ef444, va_up_ne _ _ (Ne.symm nd_dS_dZ)]; exact k_dZ_n307
                have h453 : f444 dI = some (.inl (cI G, 2, .inl gI_n307)) := by rw [ef444, va_up_ne _ _ (Ne.symm nd_dS_dI)]; exact k_dI_n307
                have h454 : f444 dH = some (.inl (cI G, 2, .inl gH_n307)) := by rw [ef444, va_up_ne _ _ (Ne.symm nd_dS_dH)]; exact k_dH_n307
                have h455 : f444 dN = some (.inl (cI G, 2, .inl gN_n307)) := by rw [ef444, va_up_ne _ _ (Ne.symm nd_dS_dN)]; exact k_dN_n307
                have n457 : dK ≠ dS := hneL k_dK k_dS (Nat.ne_of_beq_eq_false rfl)
                have h456 : f444 dK = some (.inl (cI G, 2048, .inl gK_n307)) := by rw [ef444, va_up_ne _ _ n457]; exact k_dK_n307
                have n459 : dJ ≠ dS := hneL k_dJ k_dS (Nat.ne_of_beq_eq_false rfl)
                have h458 : f444 dJ = some (.inl (cI G, 2048, .inl gJ_n307)) := by rw [ef444, va_up_ne _ _ n459]; exact k_dJ_n307
                have n461 : dU ≠ dS := hneL k_dU k_dS (Nat.ne_of_beq_eq_false rfl)
                have h460 : f444 dU = some (.inl (cI G, 2048, .inl gU_n307)) := by rw [ef444, va_up_ne _ _ n461]; exact k_dU_n307
                have n463 : dO ≠ dS := hneL k_dO k_dS (Nat.ne_of_beq_eq_false rfl)
                have h462 : f444 dO = some (.inl (cI G, 2048, .inl gO_n307)) := by rw [ef444, va_up_ne _ _ n463]; exact k_dO_n307
                exact hp_vret B0 hw hS hr ⟨Nat.le_of_ble_eq_true rfl, Nat.le_of_ble_eq_true rfl⟩ dX5_answers_224 (⟨rfl, ⟨_, _, _, _, _, _, _, _, _, _, _, _, _, h447, h445, h449, h450, h451, h452, h453, h454, h455, h456, h458, h460, h462, hHd9_n307, (hMn.mono hMn9_n307 (by omega))⟩, ((show hEq [dQ, dS, dL, dR, dT, dZ, dI, dH, dN, dK, dJ, dU, dO] f f306 from (hEq.mono k309 (fun _ h9 => h9))).tr (show hEq [dQ, dS, dL, dR, dT, dZ, dI, dH, dN, dK, dJ, dU, dO] f306 f444 from (by rw [ef444]; exact hEq.up (List.mem_cons_of_mem _ List.mem_cons_self))))⟩)
              · refine lv_aload_n hx hb dX5_answers_207 rfl (lv_at hl9 1 rfl) ?_
                have h464 : f444 mo = some (.inr (5, [.int vth, .ref dW, .ref dA, .ref dQ, .ref dM, .ref dS, .ref dL, .ref dR, .ref dT, .ref dZ, .ref dI, .ref dH, .ref dN, .ref dK, .ref dJ, .ref dU, .ref dO, .int vpk, .int vpc, .ref dF, .ref dP, .ref dE, .ref dX, .ref dY, .int vnx, .int vgv, .ref dG])) := by rw [ef444, va_up_ne _ _ n322]; exact h310
                refine hp_get B0 hw 5 rfl in_X5 h464 5 (by decide) qF_X5_22 rfl dX5_answers_208 ?_
                refine lv_iload_n hx hb dX5_answers_211 rfl (lv_at hl9 2 rfl) ?_
                refine hp_iald B0 hw h445 (by unfold vp_in; decide) dX5_answers_212 ?_
                refine lv_iconst (v := 3) hx hb dX5_answers_213 (by decide) ?_
                refine lv_icmp_ne (tgt := 224) hx hb dX5_answers_214 (by decide) (fun c465 => ?_) (fun c465 => ?_)
                · have n467 : dQ ≠ dS := hneL k_dQ k_dS (Nat.ne_of_beq_eq_false rfl)
                  have h466 : f444 dQ = some (.inl (cI G, 12, .inl gQ_n307)) := by rw [ef444, va_up_ne _ _ n467]; exact k_dQ_n307
                  have h468 : f444 dL = some (.inl (cI G, 2, .inl gL_n307)) := by rw [ef444, va_up_ne _ _ (Ne.symm nd_dS_dL)]; exact k_dL_n307
                  have h469 : f444 dR = some (.inl (cI G, 2, .inl gR_n307)) := by rw [ef444, va_up_ne _ _ (Ne.symm nd_dS_dR)]; exact k_dR_n307
                  have h470 : f444 dT = some (.inl (cI G, 2, .inl gT_n307)) := by rw [ef444, va_up_ne _ _ (Ne.symm nd_dS_dT)]; exact k_dT_n307
                  have h471 : f444 dZ = some (.inl (cZ G, 2, .inl gZ_n307)) := by rw [ef444, va_up_ne _ _ (Ne.symm nd_dS_dZ)]; exact k_dZ_n307
                  have h472 : f444 dI = some (.inl (cI G, 2, .inl gI_n307)) := by rw [ef444, va_up_ne _ _ (Ne.symm nd_dS_dI)]; exact k_dI_n307
                  have h473 : f444 dH = some (.inl (cI G, 2, .inl gH_n307)) := by rw [ef444, va_up_ne _ _ (Ne.symm nd_dS_dH)]; exact k_dH_n307
                  have h474 : f444 dN = some (.inl (cI G, 2, .inl gN_n307)) := by rw [ef444, va_up_ne _ _ (Ne.symm nd_dS_dN)]; exact k_dN_n307
                  have n476 : dK ≠ dS := hneL k_dK k_dS (Nat.ne_of_beq_eq_false rfl)
                  have h475 : f444 dK = some (.inl (cI G, 2048, .inl gK_n307)) := by rw [ef444, va_up_ne _ _ n476]; exact k_dK_n307
                  have n478 : dJ ≠ dS := hneL k_dJ k_dS (Nat.ne_of_beq_eq_false rfl)
                  have h477 : f444 dJ = some (.inl (cI G, 2048, .inl gJ_n307)) := by rw [ef444, va_up_ne _ _ n478]; exact k_dJ_n307
                  have n480 : dU ≠ dS := hneL k_dU k_dS (Nat.ne_of_beq_eq_false rfl)
                  have h479 : f444 dU = some (.inl (cI G, 2048, .inl gU_n307)) := by rw [ef444, va_up_ne _ _ n480]; exact k_dU_n307
                  have n482 : dO ≠ dS := hneL k_dO k_dS (Nat.ne_of_beq_eq_false rfl)
                  have h481 : f444 dO = some (.inl (cI G, 2048, .inl gO_n307)) := by rw [ef444, va_up_ne _ _ n482]; exact k_dO_n307
                  exact hp_vret B0 hw hS hr ⟨Nat.le_of_ble_eq_true rfl, Nat.le_of_ble_eq_true rfl⟩ dX5_answers_224 (⟨rfl, ⟨_, _, _, _, _, _, _, _, _, _, _, _, _, h466, h445, h468, h469, h470, h471, h472, h473, h474, h475, h477, h479, h481, hHd9_n307, (hMn.mono hMn9_n307 (by omega))⟩, ((show hEq [dQ, dS, dL, dR, dT, dZ, dI, dH, dN, dK, dJ, dU, dO] f f306 from (hEq.mono k309 (fun _ h9 => h9))).tr (show hEq [dQ, dS, dL, dR, dT, dZ, dI, dH, dN, dK, dJ, dU, dO] f306 f444 from (by rw [ef444]; exact hEq.up (List.mem_cons_of_mem _ List.mem_cons_self))))⟩)
                · refine lv_aload_n hx hb dX5_answers_217 rfl (lv_at hl9 1 rfl) ?_
                  refine hp_get B0 hw 5 rfl in_X5 h464 5 (by decide) qF_X5_22 rfl dX5_answers_218 ?_
                  refine lv_iload_n hx hb dX5_answers_221 rfl (lv_at hl9 2 rfl) ?_
                  refine lv_iconst (v := 1) hx hb dX5_answers_222 (by decide) ?_
                  refine hp_iast B0 hw hS h445 (by unfold vp_in; decide) dX5_answers_223 (fun H locs f483 ef483 hw hS => ?_)
                  have e484 : f483 = va_up f306 dS (some (.inl (cI G, 2, .inl (upd (upd gS_n307 (1 : Int32).toNatClampNeg 3) (1 : Int32).toNatClampNeg 1)))) := by rw [ef483, ef444, bx_uu]
                  have h485 : f483 dS = some (.inl (cI G, 2, .inl (upd (upd gS_n307 (1 : Int32).toNatClampNeg 3) (1 : Int32).toNatClampNeg 1))) := by rw [ef483, va_up_self]
                  have n487 : dQ ≠ dS := hneL k_dQ k_dS (Nat.ne_of_beq_eq_false rfl)
                  have h486 : f483 dQ = some (.inl (cI G, 12, .inl gQ_n307)) := by rw [e484, va_up_ne _ _ n487]; exact k_dQ_n307
                  have h488 : f483 dL = some (.inl (cI G, 2, .inl gL_n307)) := by rw [e484, va_up_ne _ _ (Ne.symm nd_dS_dL)]; exact k_dL_n307
                  have h489 : f483 dR = some (.inl (cI G, 2, .inl gR_n307)) := by rw [e484, va_up_ne _ _ (Ne.symm nd_dS_dR)]; exact k_dR_n307
                  have h490 : f483 dT = some (.inl (cI G, 2, .inl gT_n307)) := by rw [e484, va_up_ne _ _ (Ne.symm nd_dS_dT)]; exact k_dT_n307
                  have h491 : f483 dZ = some (.inl (cZ G, 2, .inl gZ_n307)) := by rw [e484, va_up_ne _ _ (Ne.symm nd_dS_dZ)]; exact k_dZ_n307
                  have h492 : f483 dI = some (.inl (cI G, 2, .inl gI_n307)) := by rw [e484, va_up_ne _ _ (Ne.symm nd_dS_dI)]; exact k_dI_n307
                  have h493 : f483 dH = some (.inl (cI G, 2, .inl gH_n307)) := by rw [e484, va_up_ne _ _ (Ne.symm nd_dS_dH)]; exact k_dH_n307
                  have h494 : f483 dN = some (.inl (cI G, 2, .inl gN_n307)) := by rw [e484, va_up_ne _ _ (Ne.symm nd_dS_dN)]; exact k_dN_n307
                  have n496 : dK ≠ dS := hneL k_dK k_dS (Nat.ne_of_beq_eq_false rfl)
                  have h495 : f483 dK = some (.inl (cI G, 2048, .inl gK_n307)) := by rw [e484, va_up_ne _ _ n496]; exact k_dK_n307
                  have n498 : dJ ≠ dS := hneL k_dJ k_dS (Nat.ne_of_beq_eq_false rfl)
                  have h497 : f483 dJ = some (.inl (cI G, 2048, .inl gJ_n307)) := by rw [e484, va_up_ne _ _ n498]; exact k_dJ_n307
                  have n500 : dU ≠ dS := hneL k_dU k_dS (Nat.ne_of_beq_eq_false rfl)
                  have h499 : f483 dU = some (.inl (cI G, 2048, .inl gU_n307)) := by rw [e484, va_up_ne _ _ n500]; exact k_dU_n307
                  have n502 : dO ≠ dS := hneL k_dO k_dS (Nat.ne_of_beq_eq_false rfl)
                  have h501 : f483 dO = some (.inl (cI G, 2048, .inl gO_n307)) := by rw [e484, va_up_ne _ _ n502]; exact k_dO_n307
                  exact hp_vret B0 hw hS hr ⟨Nat.le_of_ble_eq_true rfl, Nat.le_of_ble_eq_true rfl⟩ dX5_answers_224 (⟨rfl, ⟨_, _, _, _, _, _, _, _, _, _, _, _, _, h486, h485, h488, h489, h490, h491, h492, h493, h494, h495, h497, h499, h501, hHd9_n307, (hMn.mono hMn9_n307 (by omega))⟩, ((show hEq [dQ, dS, dL, dR, dT, dZ, dI, dH, dN, dK, dJ, dU, dO] f f306 from (hEq.mono k309 (fun _ h9 => h9))).tr (show hEq [dQ, dS, dL, dR, dT, dZ, dI, dH, dN, dK, dJ, dU, dO] f306 f483 from (by rw [e484]; exact hEq.up (List.mem_cons_of_mem _ List.mem_cons_self))))⟩)
        · refine lv_aload_n hx hb dX5_answers_139 rfl (lv_at hl9 1 rfl) ?_
          refine lv_iload_n hx hb dX5_answers_140 rfl (lv_at hl9 2 rfl) ?_
          refine lv_iconst (v := 2) hx hb dX5_answers_141 (by decide) ?_
          refine lv_iload_n hx hb dX5_answers_142 rfl (lv_at hl9 3 rfl) ?_
          refine lv_iload hx hb dX5_answers_143 (lv_at hl9 6 rfl) ?_
          refine hp_V (ci := 5) (As := [.int 1, .int 2, .int i, .int k8]) (rest := []) B0 hw hS (c_W5_sends hl G f mo dW dA dQ dM dS dL dR dT dZ dI dH dN dK dJ dU dO dF dP dE dX dY dG vth vpk vpc vnx vgv k_mo hND gM gA k_dM k_dA hSA B ⟨_, _, _, _, _, _, _, _, _, _, _, _, _, k_dQ, k_dS, k_dL, k_dR, k_dT, k_dZ, k_dI, k_dH, k_dN, k_dK, k_dJ, k_dU, k_dO, hHd9, (hMn.mono hMn9 (by omega))⟩ (by omega) 1 2 i k8 (Or.inr rfl)) mV_X5_sends qM_X5_96 rfl k_mo rfl rfl hl9.1 (Nat.le_of_ble_eq_true rfl) ⟨⟨Nat.le_of_ble_eq_true rfl, Nat.le_of_ble_eq_true rfl⟩, Nat.le_of_ble_eq_true rfl, Nat.le_of_ble_eq_true rfl⟩ dX5_answers_145 (fun E ce q9 f503 H locs hPX hw hS hce hcv hcl => ?_) (fun v f503 H locs hP hw hS => ?_)
          · exact hPX.elim
          · obtain ⟨ev9, h505, k506⟩ := hP
            have h505L := h505
            obtain ⟨gQ_n504, gS_n504, gL_n504, gR_n504, gT_n504, gZ_n504, gI_n504, gH_n504, gN_n504, gK_n504, gJ_n504, gU_n504, gO_n504, k_dQ_n504, k_dS_n504, k_dL_n504, k_dR_n504, k_dT_n504, k_dZ_n504, k_dI_n504, k_dH_n504, k_dN_n504, k_dK_n504, k_dJ_n504, k_dU_n504, k_dO_n504, hHd9_n504, hMn9_n504⟩ := id h505
            subst ev9
            refine W.eq (g2 := F0 m 148 ls []) rfl ?_
            refine lv_goto (tgt := 199) hx hb dX5_answers_148 (by decide) ?_
            refine lv_iload hx hb dX5_answers_199 (lv_at hl9 5 rfl) ?_
            refine lv_iload hx hb dX5_answers_201 (lv_at hl9 6 rfl) ?_
            refine lv_iadd hx hb dX5_answers_203 ?_
            refine lv_if_le (tgt := 224) hx hb dX5_answers_204 (by decide) (fun c507 => ?_) (fun c507 => ?_)
            · exact hp_vret B0 hw hS hr ⟨Nat.le_of_ble_eq_true rfl, Nat.le_of_ble_eq_true rfl⟩ dX5_answers_224 (⟨rfl, ⟨_, _, _, _, _, _, _, _, _, _, _, _, _, k_dQ_n504, k_dS_n504, k_dL_n504, k_dR_n504, k_dT_n504, k_dZ_n504, k_dI_n504, k_dH_n504, k_dN_n504, k_dK_n504, k_dJ_n504, k_dU_n504, k_dO_n504, hHd9_n504, (hMn.mono hMn9_n504 (by omega))⟩, (show hEq [dQ, dS, dL, dR, dT, dZ, dI, dH, dN, dK, dJ, dU, dO] f f503 from (hEq.mono k506 (fun _ h9 => h9)))⟩)
            · refine lv_aload_n hx hb dX5_answers_207 rfl (lv_at hl9 1 rfl) ?_
              have n509 : mo ≠ dO := hne k_mo k_dO (Nat.ne_of_beq_eq_false rfl)
              have n510 : mo ≠ dU := hne k_mo k_dU (Nat.ne_of_beq_eq_false rfl)
              have n511 : mo ≠ dJ := hne k_mo k_dJ (Nat.ne_of_beq_eq_false rfl)
              have n512 : mo ≠ dK := hne k_mo k_dK (Nat.ne_of_beq_eq_false rfl)
              have n513 : mo ≠ dN := hne k_mo k_dN (Nat.ne_of_beq_eq_false rfl)
              have n514 : mo ≠ dH := hne k_mo k_dH (Nat.ne_of_beq_eq_false rfl)
              have n515 : mo ≠ dI := hne k_mo k_dI (Nat.ne_of_beq_eq_false rfl)
              have n516 : mo ≠ dZ := hne k_mo k_dZ (Nat.ne_of_beq_eq_false rfl)
              have n517 : mo ≠ dT := hne k_mo k_dT (Nat.ne_of_beq_eq_false rfl)
              have n518 : mo ≠ dR := hne k_mo k_dR (Nat.ne_of_beq_eq_false rfl)
              have n519 : mo ≠ dL := hne k_mo k_dL (Nat.ne_of_beq_eq_false rfl)
              have n520 : mo ≠ dS := hne k_mo k_dS (Nat.ne_of_beq_eq_false rfl)
              have n521 : mo ≠ dQ := hne k_mo k_dQ (Nat.ne_of_beq_eq_false rfl)
              have h508 : f503 mo = some (.inr (5, [.int vth, .ref dW, .ref dA, .ref dQ, .ref dM, .ref dS, .ref dL, .ref dR, .ref dT, .ref dZ, .ref dI, .ref dH, .ref dN, .ref dK, .ref dJ, .ref dU, .ref dO, .int vpk, .int vpc, .ref dF, .ref dP, .ref dE, .ref dX, .ref dY, .int vnx, .int vgv, .ref dG])) := (hEq.k k506) _ _ k_mo (ninc n521 (ninc n520 (ninc n519 (ninc n518 (ninc n517 (ninc n516 (ninc n515 (ninc n514 (ninc n513 (ninc n512 (ninc n511 (ninc n510 (ninc n509 nin0)))))))))))))
              refine hp_get B0 hw 5 rfl in_X5 h508 5 (by decide) qF_X5_22 rfl dX5_answers_208 ?_
              refine lv_iload_n hx hb dX5_answers_211 rfl (lv_at hl9 2 rfl) ?_
              refine hp_iald B0 hw k_dS_n504 (by unfold vp_in; decide) dX5_answers_212 ?_
              refine lv_iconst (v := 3) hx hb dX5_answers_213 (by decide) ?_
              refine lv_icmp_ne (tgt := 224) hx hb dX5_answers_214 (by decide) (fun c522 => ?_) (fun c522 => ?_)
              · exact hp_vret B0 hw hS hr ⟨Nat.le_of_ble_eq_true rfl, Nat.le_of_ble_eq_true rfl⟩ dX5_answers_224 (⟨rfl, ⟨_, _, _, _, _, _, _, _, _, _, _, _, _, k_dQ_n504, k_dS_n504, k_dL_n504, k_dR_n504, k_dT_n504, k_dZ_n504, k_dI_n504, k_dH_n504, k_dN_n504, k_dK_n504, k_dJ_n504, k_dU_n504, k_dO_n504, hHd9_n504, (hMn.mono hMn9_n504 (by omega))⟩, (show hEq [dQ, dS, dL, dR, dT, dZ, dI, dH, dN, dK, dJ, dU, dO] f f503 from (hEq.mono k506 (fun _ h9 => h9)))⟩)
              · refine lv_aload_n hx hb dX5_answers_217 rfl (lv_at hl9 1 rfl) ?_
                refine hp_get B0 hw 5 rfl in_X5 h508 5 (by decide) qF_X5_22 rfl dX5_answers_218 ?_
                refine lv_iload_n hx hb dX5_answers_221 rfl (lv_at hl9 2 rfl) ?_
                refine lv_iconst (v := 1) hx hb dX5_answers_222 (by decide) ?_
                refine hp_iast B0 hw hS k_dS_n504 (by unfold vp_in; decide) dX5_answers_223 (fun H locs f523 ef523 hw hS => ?_)
                have h524 : f523 dS = some (.inl (cI G, 2, .inl (upd gS_n504 (1 : Int32).toNatClampNeg 1))) := by rw [ef523, va_up_self]
                have n526 : dQ ≠ dS := hneL k_dQ k_dS (Nat.ne_of_beq_eq_false rfl)
                have h525 : f523 dQ = some (.inl (cI G, 12, .inl gQ_n504)) := by rw [ef523, va_up_ne _ _ n526]; exact k_dQ_n504
                have h527 : f523 dL = some (.inl (cI G, 2, .inl gL_n504)) := by rw [ef523, va_up_ne _ _ (Ne.symm nd_dS_dL)]; exact k_dL_n504
                have h528 : f523 dR = some (.inl (cI G, 2, .inl gR_n504)) := by rw [ef523, va_up_ne _ _ (Ne.symm nd_dS_dR)]; exact k_dR_n504
                have h529 : f523 dT = some (.inl (cI G, 2, .inl gT_n504)) := by rw [ef523, va_up_ne _ _ (Ne.symm nd_dS_dT)]; exact k_dT_n504
                have h530 : f523 dZ = some (.inl (cZ G, 2, .inl gZ_n504)) := by rw [ef523, va_up_ne _ _ (Ne.symm nd_dS_dZ)]; exact k_dZ_n504
                have h531 : f523 dI = some (.inl (cI G, 2, .inl gI_n504)) := by rw [ef523, va_up_ne _ _ (Ne.symm nd_dS_dI)]; exact k_dI_n504
                have h532 : f523 dH = some (.inl (cI G, 2, .inl gH_n504)) := by rw [ef523, va_up_ne _ _ (Ne.symm nd_dS_dH)]; exact k_dH_n504
                have h533 : f523 dN = some (.inl (cI G, 2, .inl gN_n504)) := by rw [ef523, va_up_ne _ _ (Ne.symm nd_dS_dN)]; exact k_dN_n504
                have n535 : dK ≠ dS := hneL k_dK k_dS (Nat.ne_of_beq_eq_false rfl)
                have h534 : f523 dK = some (.inl (cI G, 2048, .inl gK_n504)) := by rw [ef523, va_up_ne _ _ n535]; exact k_dK_n504
                have n537 : dJ ≠ dS := hneL k_dJ k_dS (Nat.ne_of_beq_eq_false rfl)
                have h536 : f523 dJ = some (.inl (cI G, 2048, .inl gJ_n504)) := by rw [ef523, va_up_ne _ _ n537]; exact k_dJ_n504
                have n539 : dU ≠ dS := hneL k_dU k_dS (Nat.ne_of_beq_eq_false rfl)
                have h538 : f523 dU = some (.inl (cI G, 2048, .inl gU_n504)) := by rw [ef523, va_up_ne _ _ n539]; exact k_dU_n504
                have n541 : dO ≠ dS := hneL k_dO k_dS (Nat.ne_of_beq_eq_false rfl)
                have h540 : f523 dO = some (.inl (cI G, 2048, .inl gO_n504)) := by rw [ef523, va_up_ne _ _ n541]; exact k_dO_n504
                exact hp_vret B0 hw hS hr ⟨Nat.le_of_ble_eq_true rfl, Nat.le_of_ble_eq_true rfl⟩ dX5_answers_224 (⟨rfl, ⟨_, _, _, _, _, _, _, _, _, _, _, _, _, h525, h524, h527, h528, h529, h530, h531, h532, h533, h534, h536, h538, h540, hHd9_n504, (hMn.mono hMn9_n504 (by omega))⟩, ((show hEq [dQ, dS, dL, dR, dT, dZ, dI, dH, dN, dK, dJ, dU, dO] f f503 from (hEq.mono k506 (fun _ h9 => h9))).tr (show hEq [dQ, dS, dL, dR, dT, dZ, dI, dH, dN, dK, dJ, dU, dO] f503 f523 from (by rw [ef523]; exact hEq.up (List.mem_cons_of_mem _ List.mem_cons_self))))⟩)
      · refine lv_aload_n hx hb dX5_answers_122 rfl (lv_at hl9 1 rfl) ?_
        refine lv_iload_n hx hb dX5_answers_123 rfl (lv_at hl9 2 rfl) ?_
        refine lv_iconst (v := 3) hx hb dX5_answers_124 (by decide) ?_
        refine lv_iload_n hx hb dX5_answers_125 rfl (lv_at hl9 3 rfl) ?_
        refine lv_iload hx hb dX5_answers_126 (lv_at hl9 5 rfl) ?_
        refine hp_V (ci := 5) (As := [.int 1, .int 3, .int i, .int k9]) (rest := []) B0 hw hS (c_W5_sends hl G f mo dW dA dQ dM dS dL dR dT dZ dI dH dN dK dJ dU dO dF dP dE dX dY dG vth vpk vpc vnx vgv k_mo hND gM gA k_dM k_dA hSA B ⟨_, _, _, _, _, _, _, _, _, _, _, _, _, k_dQ, k_dS, k_dL, k_dR, k_dT, k_dZ, k_dI, k_dH, k_dN, k_dK, k_dJ, k_dU, k_dO, hHd9, (hMn.mono hMn9 (by omega))⟩ (by omega) 1 3 i k9 (Or.inr rfl)) mV_X5_sends qM_X5_96 rfl k_mo rfl rfl hl9.1 (Nat.le_of_ble_eq_true rfl) ⟨⟨Nat.le_of_ble_eq_true rfl, Nat.le_of_ble_eq_true rfl⟩, Nat.le_of_ble_eq_true rfl, Nat.le_of_ble_eq_true rfl⟩ dX5_answers_128 (fun E ce q9 f542 H locs hPX hw hS hce hcv hcl => ?_) (fun v f542 H locs hP hw hS => ?_)
        · exact hPX.elim
        · obtain ⟨ev9, h544, k545⟩ := hP
          have h544L := h544
          obtain ⟨gQ_n543, gS_n543, gL_n543, gR_n543, gT_n543, gZ_n543, gI_n543, gH_n543, gN_n543, gK_n543, gJ_n543, gU_n543, gO_n543, k_dQ_n543, k_dS_n543, k_dL_n543, k_dR_n543, k_dT_n543, k_dZ_n543, k_dI_n543, k_dH_n543, k_dN_n543, k_dK_n543, k_dJ_n543, k_dU_n543, k_dO_n543, hHd9_n543, hMn9_n543⟩ := id h544
          subst ev9
          refine W.eq (g2 := F0 m 131 ls []) rfl ?_
          refine lv_goto (tgt := 199) hx hb dX5_answers_131 (by decide) ?_
          refine lv_iload hx hb dX5_answers_199 (lv_at hl9 5 rfl) ?_
          refine lv_iload hx hb dX5_answers_201 (lv_at hl9 6 rfl) ?_
          refine lv_iadd hx hb dX5_answers_203 ?_
          refine lv_if_le (tgt := 224) hx hb dX5_answers_204 (by decide) (fun c546 => ?_) (fun c546 => ?_)
          · exact hp_vret B0 hw hS hr ⟨Nat.le_of_ble_eq_true rfl, Nat.le_of_ble_eq_true rfl⟩ dX5_answers_224 (⟨rfl, ⟨_, _, _, _, _, _, _, _, _, _, _, _, _, k_dQ_n543, k_dS_n543, k_dL_n543, k_dR_n543, k_dT_n543, k_dZ_n543, k_dI_n543, k_dH_n543, k_dN_n543, k_dK_n543, k_dJ_n543, k_dU_n543, k_dO_n543, hHd9_n543, (hMn.mono hMn9_n543 (by omega))⟩, (show hEq [dQ, dS, dL, dR, dT, dZ, dI, dH, dN, dK, dJ, dU, dO] f f542 from (hEq.mono k545 (fun _ h9 => h9)))⟩)
          · refine lv_aload_n hx hb dX5_answers_207 rfl (lv_at hl9 1 rfl) ?_
            have n548 : mo ≠ dO := hne k_mo k_dO (Nat.ne_of_beq_eq_false rfl)
            have n549 : mo ≠ dU := hne k_mo k_dU (Nat.ne_of_beq_eq_false rfl)
            have n550 : mo ≠ dJ := hne k_mo k_dJ (Nat.ne_of_beq_eq_false rfl)
            have n551 : mo ≠ dK := hne k_mo k_dK (Nat.ne_of_beq_eq_false rfl)
            have n552 : mo ≠ dN := hne k_mo k_dN (Nat.ne_of_beq_eq_false rfl)
            have n553 : mo ≠ dH := hne k_mo k_dH (Nat.ne_of_beq_eq_false rfl)
            have n554 : mo ≠ dI := hne k_mo k_dI (Nat.ne_of_beq_eq_false rfl)
            have n555 : mo ≠ dZ := hne k_mo k_dZ (Nat.ne_of_beq_eq_false rfl)
            have n556 : mo ≠ dT := hne k_mo k_dT (Nat.ne_of_beq_eq_false rfl)
            have n557 : mo ≠ dR := hne k_mo k_dR (Nat.ne_of_beq_eq_false rfl)
            have n558 : mo ≠ dL := hne k_mo k_dL (Nat.ne_of_beq_eq_false rfl)
            have n559 : mo ≠ dS := hne k_mo k_dS (Nat.ne_of_beq_eq_false rfl)
            have n560 : mo ≠ dQ := hne k_mo k_dQ (Nat.ne_of_beq_eq_false rfl)
            have h547 : f542 mo = some (.inr (5, [.int vth, .ref dW, .ref dA, .ref dQ, .ref dM, .ref dS, .ref dL, .ref dR, .ref dT, .ref dZ, .ref dI, .ref dH, .ref dN, .ref dK, .ref dJ, .ref dU, .ref dO, .int vpk, .int vpc, .ref dF, .ref dP, .ref dE, .ref dX, .ref dY, .int vnx, .int vgv, .ref dG])) := (hEq.k k545) _ _ k_mo (ninc n560 (ninc n559 (ninc n558 (ninc n557 (ninc n556 (ninc n555 (ninc n554 (ninc n553 (ninc n552 (ninc n551 (ninc n550 (ninc n549 (ninc n548 nin0)))))))))))))
            refine hp_get B0 hw 5 rfl in_X5 h547 5 (by decide) qF_X5_22 rfl dX5_answers_208 ?_
            refine lv_iload_n hx hb dX5_answers_211 rfl (lv_at hl9 2 rfl) ?_
            refine hp_iald B0 hw k_dS_n543 (by unfold vp_in; decide) dX5_answers_212 ?_
            refine lv_iconst (v := 3) hx hb dX5_answers_213 (by decide) ?_
            refine lv_icmp_ne (tgt := 224) hx hb dX5_answers_214 (by decide) (fun c561 => ?_) (fun c561 => ?_)
            · exact hp_vret B0 hw hS hr ⟨Nat.le_of_ble_eq_true rfl, Nat.le_of_ble_eq_true rfl⟩ dX5_answers_224 (⟨rfl, ⟨_, _, _, _, _, _, _, _, _, _, _, _, _, k_dQ_n543, k_dS_n543, k_dL_n543, k_dR_n543, k_dT_n543, k_dZ_n543, k_dI_n543, k_dH_n543, k_dN_n543, k_dK_n543, k_dJ_n543, k_dU_n543, k_dO_n543, hHd9_n543, (hMn.mono hMn9_n543 (by omega))⟩, (show hEq [dQ, dS, dL, dR, dT, dZ, dI, dH, dN, dK, dJ, dU, dO] f f542 from (hEq.mono k545 (fun _ h9 => h9)))⟩)
            · refine lv_aload_n hx hb dX5_answers_217 rfl (lv_at hl9 1 rfl) ?_
              refine hp_get B0 hw 5 rfl in_X5 h547 5 (by decide) qF_X5_22 rfl dX5_answers_218 ?_
              refine lv_iload_n hx hb dX5_answers_221 rfl (lv_at hl9 2 rfl) ?_
              refine lv_iconst (v := 1) hx hb dX5_answers_222 (by decide) ?_
              refine hp_iast B0 hw hS k_dS_n543 (by unfold vp_in; decide) dX5_answers_223 (fun H locs f562 ef562 hw hS => ?_)
              have h563 : f562 dS = some (.inl (cI G, 2, .inl (upd gS_n543 (1 : Int32).toNatClampNeg 1))) := by rw [ef562, va_up_self]
              have n565 : dQ ≠ dS := hneL k_dQ k_dS (Nat.ne_of_beq_eq_false rfl)
              have h564 : f562 dQ = some (.inl (cI G, 12, .inl gQ_n543)) := by rw [ef562, va_up_ne _ _ n565]; exact k_dQ_n543
              have h566 : f562 dL = some (.inl (cI G, 2, .inl gL_n543)) := by rw [ef562, va_up_ne _ _ (Ne.symm nd_dS_dL)]; exact k_dL_n543
              have h567 : f562 dR = some (.inl (cI G, 2, .inl gR_n543)) := by rw [ef562, va_up_ne _ _ (Ne.symm nd_dS_dR)]; exact k_dR_n543
              have h568 : f562 dT = some (.inl (cI G, 2, .inl gT_n543)) := by rw [ef562, va_up_ne _ _ (Ne.symm nd_dS_dT)]; exact k_dT_n543
              have h569 : f562 dZ = some (.inl (cZ G, 2, .inl gZ_n543)) := by rw [ef562, va_up_ne _ _ (Ne.symm nd_dS_dZ)]; exact k_dZ_n543
              have h570 : f562 dI = some (.inl (cI G, 2, .inl gI_n543)) := by rw [ef562, va_up_ne _ _ (Ne.symm nd_dS_dI)]; exact k_dI_n543
              have h571 : f562 dH = some (.inl (cI G, 2, .inl gH_n543)) := by rw [ef562, va_up_ne _ _ (Ne.symm nd_dS_dH)]; exact k_dH_n543
              have h572 : f562 dN = some (.inl (cI G, 2, .inl gN_n543)) := by rw [ef562, va_up_ne _ _ (Ne.symm nd_dS_dN)]; exact k_dN_n543
              have n574 : dK ≠ dS := hneL k_dK k_dS (Nat.ne_of_beq_eq_false rfl)
              have h573 : f562 dK = some (.inl (cI G, 2048, .inl gK_n543)) := by rw [ef562, va_up_ne _ _ n574]; exact k_dK_n543
              have n576 : dJ ≠ dS := hneL k_dJ k_dS (Nat.ne_of_beq_eq_false rfl)
              have h575 : f562 dJ = some (.inl (cI G, 2048, .inl gJ_n543)) := by rw [ef562, va_up_ne _ _ n576]; exact k_dJ_n543
              have n578 : dU ≠ dS := hneL k_dU k_dS (Nat.ne_of_beq_eq_false rfl)
              have h577 : f562 dU = some (.inl (cI G, 2048, .inl gU_n543)) := by rw [ef562, va_up_ne _ _ n578]; exact k_dU_n543
              have n580 : dO ≠ dS := hneL k_dO k_dS (Nat.ne_of_beq_eq_false rfl)
              have h579 : f562 dO = some (.inl (cI G, 2048, .inl gO_n543)) := by rw [ef562, va_up_ne _ _ n580]; exact k_dO_n543
              exact hp_vret B0 hw hS hr ⟨Nat.le_of_ble_eq_true rfl, Nat.le_of_ble_eq_true rfl⟩ dX5_answers_224 (⟨rfl, ⟨_, _, _, _, _, _, _, _, _, _, _, _, _, h564, h563, h566, h567, h568, h569, h570, h571, h572, h573, h575, h577, h579, hHd9_n543, (hMn.mono hMn9_n543 (by omega))⟩, ((show hEq [dQ, dS, dL, dR, dT, dZ, dI, dH, dN, dK, dJ, dU, dO] f f542 from (hEq.mono k545 (fun _ h9 => h9))).tr (show hEq [dQ, dS, dL, dR, dT, dZ, dI, dH, dN, dK, dJ, dU, dO] f542 f562 from (by rw [ef562]; exact hEq.up (List.mem_cons_of_mem _ List.mem_cons_self))))⟩)

set_option maxHeartbeats 4000000 in
set_option maxRecDepth 100000 in
theorem c_W5_comesRequest {l : Launch} (hl : l.stackTraces = false) (G : hG) (f : hM) (mo dW dA dQ dM dS dL dR dT dZ dI dH dN dK dJ dU dO dF dP dE dX dY dG : Nat) (vth vpk vpc vnx vgv : Int32) (k_mo : f mo = some (.inr (5, [.int vth, .ref dW, .ref dA, .ref dQ, .ref dM, .ref dS, .ref dL, .ref dR, .ref dT, .ref dZ, .ref dI, .ref dH, .ref dN, .ref dK, .ref dJ, .ref dU, .ref dO, .int vpk, .int vpc, .ref dF, .ref dP, .ref dE, .ref dX, .ref dY, .int vnx, .int vgv, .ref dG]))) (hND : ND5 dW dA dQ dM dS dL dR dT dZ dI dH dN dK dJ dU dO dF dP dE dX dY dG) (gM gA : Nat → Int32) (k_dM : f dM = some (.inl (cI G, 2, .inl gM))) (k_dA : f dA = some (.inl (cI G, 12, .inl gA))) (hSA : ∀ j, j < 12 → sA (gA j)) (B : Nat) (hLM : LM G f dQ dS dL dR dT dZ dI dH dN dK dJ dU dO B) (hBB : B + 1 < 100000) (ee i k o : Int32) (he : sE ee) : CT l yX5_comesRequest (.code yX5_comesRequest cX5_comesRequest 5 none) 3 71 0 0 G [.ref mo, .int ee, .int i, .int k, .int o] f (fun v f1 => v = none ∧ LM G f1 dQ dS dL dR dT dZ dI dH dN dK dJ dU dO (B + 2) ∧ hEq [dQ, dS, dL, dR, dT, dZ, dI, dH, dN, dK, dJ, dU, dO] f f1) (fun E f1 => False) := by
  refine hp_start hl (own := RX5) (by decide) rfl (Nat.le_of_ble_eq_true rfl) ?_
  intro p e s m args below meth c B0 hr hnm hout hw hS ls hl9
  have hx := B0.1
  have hb := B0.2.1
  have hl9 : lv_has ls 5 [(0, .ref mo), (1, .int ee), (2, .int i), (3, .int k), (4, .int o)] := hl9
  obtain ⟨nd_dW_dA, nd_dW_dQ, nd_dA_dQ, nd_dM_dS, nd_dM_dL, nd_dM_dR, nd_dM_dT, nd_dM_dZ, nd_dM_dI, nd_dM_dH, nd_dM_dN, nd_dS_dL, nd_dS_dR, nd_dS_dT, nd_dS_dZ, nd_dS_dI, nd_dS_dH, nd_dS_dN, nd_dL_dR, nd_dL_dT, nd_dL_dZ, nd_dL_dI, nd_dL_dH, nd_dL_dN, nd_dR_dT, nd_dR_dZ, nd_dR_dI, nd_dR_dH, nd_dR_dN, nd_dT_dZ, nd_dT_dI, nd_dT_dH, nd_dT_dN, nd_dZ_dI, nd_dZ_dH, nd_dZ_dN, nd_dI_dH, nd_dI_dN, nd_dH_dN, nd_dK_dJ, nd_dK_dU, nd_dK_dO, nd_dJ_dU, nd_dJ_dO, nd_dU_dO, nd_dP_dE, nd_dX_dY⟩ := id hND
  obtain ⟨gQ, gS, gL, gR, gT, gZ, gI, gH, gN, gK, gJ, gU, gO, k_dQ, k_dS, k_dL, k_dR, k_dT, k_dZ, k_dI, k_dH, k_dN, k_dK, k_dJ, k_dU, k_dO, hHd9, hMn9⟩ := id hLM
  rcases he with rfl | rfl
  · refine lv_aload_n hx hb dX5_comesRequest_0 rfl (lv_at hl9 0 rfl) ?_
    refine hp_get B0 hw 5 rfl in_X5 k_mo 9 (by decide) qF_X5_34 rfl dX5_comesRequest_1 ?_
    refine lv_iload_n hx hb dX5_comesRequest_4 rfl (lv_at hl9 1 rfl) ?_
    refine lv_iload_n hx hb dX5_comesRequest_5 rfl (lv_at hl9 3 rfl) ?_
    refine lv_aload_n hx hb dX5_comesRequest_6 rfl (lv_at hl9 0 rfl) ?_
    refine hp_get B0 hw 5 rfl in_X5 k_mo 4 (by decide) qF_X5_19 rfl dX5_comesRequest_7 ?_
    refine lv_iload_n hx hb dX5_comesRequest_10 rfl (lv_at hl9 1 rfl) ?_
    refine hp_iald B0 hw k_dM (by unfold vp_in; decide) dX5_comesRequest_11 ?_
    refine lv_icmp_ne (tgt := 19) hx hb dX5_comesRequest_12 (by decide) (fun c1 => ?_) (fun c1 => ?_)
    · refine lv_iconst (v := 0) hx hb dX5_comesRequest_19 (by decide) ?_
      refine hp_zast B0 hw hS k_dZ (by unfold vp_in; decide) dX5_comesRequest_20 (fun H locs f2 ef2 hw hS => ?_)
      have h3 : f2 dZ = some (.inl (cZ G, 2, .inl (upd gZ (0 : Int32).toNatClampNeg (vp_nar .boolean 0)))) := by rw [ef2, va_up_self]
      refine lv_aload_n hx hb dX5_comesRequest_21 rfl (lv_at hl9 0 rfl) ?_
      have n5 : mo ≠ dZ := hne k_mo k_dZ (Nat.ne_of_beq_eq_false rfl)
      have h4 : f2 mo = some (.inr (5, [.int vth, .ref dW, .ref dA, .ref dQ, .ref dM, .ref dS, .ref dL, .ref dR, .ref dT, .ref dZ, .ref dI, .ref dH, .ref dN, .ref dK, .ref dJ, .ref dU, .ref dO, .int vpk, .int vpc, .ref dF, .ref dP, .ref dE, .ref dX, .ref dY, .int vnx, .int vgv, .ref dG])) := by rw [ef2, va_up_ne _ _ n5]; exact k_mo
      refine hp_get B0 hw 5 rfl in_X5 h4 9 (by decide) qF_X5_34 rfl dX5_comesRequest_22 ?_
      refine lv_iload_n hx hb dX5_comesRequest_25 rfl (lv_at hl9 1 rfl) ?_
      refine hp_zald B0 hw h3 (by unfold vp_in; decide) dX5_comesRequest_26 ?_
      refine lv_if_eq (tgt := 31) hx hb dX5_comesRequest_27 (by decide) (fun c6 => ?_) (fun c6 => ?_)
      · refine lv_aload_n hx hb dX5_comesRequest_31 rfl (lv_at hl9 0 rfl) ?_
        refine hp_get B0 hw 5 rfl in_X5 h4 5 (by decide) qF_X5_22 rfl dX5_comesRequest_32 ?_
        refine lv_iload_n hx hb dX5_comesRequest_35 rfl (lv_at hl9 1 rfl) ?_
        have h7 : f2 dS = some (.inl (cI G, 2, .inl gS)) := by rw [ef2, va_up_ne _ _ nd_dS_dZ]; exact k_dS
        refine hp_iald B0 hw h7 (by unfold vp_in; decide) dX5_comesRequest_36 ?_
        refine lv_if_ne (tgt := 49) hx hb dX5_comesRequest_37 (by decide) (fun c8 => ?_) (fun c8 => ?_)
        · refine lv_aload_n hx hb dX5_comesRequest_49 rfl (lv_at hl9 0 rfl) ?_
          refine hp_get B0 hw 5 rfl in_X5 h4 5 (by decide) qF_X5_22 rfl dX5_comesRequest_50 ?_
          refine lv_iload_n hx hb dX5_comesRequest_53 rfl (lv_at hl9 1 rfl) ?_
          refine hp_iald B0 hw h7 (by unfold vp_in; decide) dX5_comesRequest_54 ?_
          refine lv_iconst (v := 4) hx hb dX5_comesRequest_55 (by decide) ?_
          refine lv_icmp_ne (tgt := 72) hx hb dX5_comesRequest_56 (by decide) (fun c9 => ?_) (fun c9 => ?_)
          · refine lv_aload_n hx hb dX5_comesRequest_72 rfl (lv_at hl9 0 rfl) ?_
            refine hp_get B0 hw 5 rfl in_X5 h4 5 (by decide) qF_X5_22 rfl dX5_comesRequest_73 ?_
            refine lv_iload_n hx hb dX5_comesRequest_76 rfl (lv_at hl9 1 rfl) ?_
            refine hp_iald B0 hw h7 (by unfold vp_in; decide) dX5_comesRequest_77 ?_
            refine lv_if_eq (tgt := 89) hx hb dX5_comesRequest_78 (by decide) (fun c10 => ?_) (fun c10 => ?_)
            · have n12 : dQ ≠ dZ := hneL k_dQ k_dZ (Nat.ne_of_beq_eq_false rfl)
              have h11 : f2 dQ = some (.inl (cI G, 12, .inl gQ)) := by rw [ef2, va_up_ne _ _ n12]; exact k_dQ
              have h13 : f2 dL = some (.inl (cI G, 2, .inl gL)) := by rw [ef2, va_up_ne _ _ nd_dL_dZ]; exact k_dL
              have h14 : f2 dR = some (.inl (cI G, 2, .inl gR)) := by rw [ef2, va_up_ne _ _ nd_dR_dZ]; exact k_dR
              have h15 : f2 dT = some (.inl (cI G, 2, .inl gT)) := by rw [ef2, va_up_ne _ _ nd_dT_dZ]; exact k_dT
              have h16 : f2 dI = some (.inl (cI G, 2, .inl gI)) := by rw [ef2, va_up_ne _ _ (Ne.symm nd_dZ_dI)]; exact k_dI
              have h17 : f2 dH = some (.inl (cI G, 2, .inl gH)) := by rw [ef2, va_up_ne _ _ (Ne.symm nd_dZ_dH)]; exact k_dH
              have h18 : f2 dN = some (.inl (cI G, 2, .inl gN)) := by rw [ef2, va_up_ne _ _ (Ne.symm nd_dZ_dN)]; exact k_dN
              have n20 : dK ≠ dZ := hneL k_dK k_dZ (Nat.ne_of_beq_eq_false rfl)
              have h19 : f2 dK = some (.inl (cI G, 2048, .inl gK)) := by rw [ef2, va_up_ne _ _ n20]; exact k_dK
              have n22 : dJ ≠ dZ := hneL k_dJ k_dZ (Nat.ne_of_beq_eq_false rfl)
              have h21 : f2 dJ = some (.inl (cI G, 2048, .inl gJ)) := by rw [ef2, va_up_ne _ _ n22]; exact k_dJ
              have n24 : dU ≠ dZ := hneL k_dU k_dZ (Nat.ne_of_beq_eq_false rfl)
              have h23 : f2 dU = some (.inl (cI G, 2048, .inl gU)) := by rw [ef2, va_up_ne _ _ n24]; exact k_dU
              have n26 : dO ≠ dZ := hneL k_dO k_dZ (Nat.ne_of_beq_eq_false rfl)
              have h25 : f2 dO = some (.inl (cI G, 2048, .inl gO)) := by rw [ef2, va_up_ne _ _ n26]; exact k_dO
              exact hp_vret B0 hw hS hr ⟨Nat.le_of_ble_eq_true rfl, Nat.le_of_ble_eq_true rfl⟩ dX5_comesRequest_89 (⟨rfl, ⟨_, _, _, _, _, _, _, _, _, _, _, _, _, h11, h7, h13, h14, h15, h3, h16, h17, h18, h19, h21, h23, h25, hHd9, (hMn.mono hMn9 (by omega))⟩, (show hEq [dQ, dS, dL, dR, dT, dZ, dI, dH, dN, dK, dJ, dU, dO] f f2 from (by rw [ef2]; exact hEq.up (List.mem_cons_of_mem _ (List.mem_cons_of_mem _ (List.mem_cons_of_mem _ (List.mem_cons_of_mem _ (List.mem_cons_of_mem _ List.mem_cons_self)))))))⟩)
            · refine lv_aload_n hx hb dX5_comesRequest_81 rfl (lv_at hl9 0 rfl) ?_
              refine lv_iload_n hx hb dX5_comesRequest_82 rfl (lv_at hl9 1 rfl) ?_
              refine lv_iload_n hx hb dX5_comesRequest_83 rfl (lv_at hl9 2 rfl) ?_
              refine lv_iload hx hb dX5_comesRequest_84 (lv_at hl9 4 rfl) ?_
              have h27 : f2 dM = some (.inl (cI G, 2, .inl gM)) := by rw [ef2, va_up_ne _ _ nd_dM_dZ]; exact k_dM
              have n29 : dA ≠ dZ := hneL k_dA k_dZ (Nat.ne_of_beq_eq_false rfl)
              have h28 : f2 dA = some (.inl (cI G, 12, .inl gA)) := by rw [ef2, va_up_ne _ _ n29]; exact k_dA
              have n31 : dQ ≠ dZ := hneL k_dQ k_dZ (Nat.ne_of_beq_eq_false rfl)
              have h30 : f2 dQ = some (.inl (cI G, 12, .inl gQ)) := by rw [ef2, va_up_ne _ _ n31]; exact k_dQ
              have h32 : f2 dL = some (.inl (cI G, 2, .inl gL)) := by rw [ef2, va_up_ne _ _ nd_dL_dZ]; exact k_dL
              have h33 : f2 dR = some (.inl (cI G, 2, .inl gR)) := by rw [ef2, va_up_ne _ _ nd_dR_dZ]; exact k_dR
              have h34 : f2 dT = some (.inl (cI G, 2, .inl gT)) := by rw [ef2, va_up_ne _ _ nd_dT_dZ]; exact k_dT
              have h35 : f2 dI = some (.inl (cI G, 2, .inl gI)) := by rw [ef2, va_up_ne _ _ (Ne.symm nd_dZ_dI)]; exact k_dI
              have h36 : f2 dH = some (.inl (cI G, 2, .inl gH)) := by rw [ef2, va_up_ne _ _ (Ne.symm nd_dZ_dH)]; exact k_dH
              have h37 : f2 dN = some (.inl (cI G, 2, .inl gN)) := by rw [ef2, va_up_ne _ _ (Ne.symm nd_dZ_dN)]; exact k_dN
              have n39 : dK ≠ dZ := hneL k_dK k_dZ (Nat.ne_of_beq_eq_false rfl)
              have h38 : f2 dK = some (.inl (cI G, 2048, .inl gK)) := by rw [ef2, va_up_ne _ _ n39]; exact k_dK
              have n41 : dJ ≠ dZ := hneL k_dJ k_dZ (Nat.ne_of_beq_eq_false rfl)
              have h40 : f2 dJ = some (.inl (cI G, 2048, .inl gJ)) := by rw [ef2, va_up_ne _ _ n41]; exact k_dJ
              have n43 : dU ≠ dZ := hneL k_dU k_dZ (Nat.ne_of_beq_eq_false rfl)
              have h42 : f2 dU = some (.inl (cI G, 2048, .inl gU)) := by rw [ef2, va_up_ne _ _ n43]; exact k_dU
              have n45 : dO ≠ dZ := hneL k_dO k_dZ (Nat.ne_of_beq_eq_false rfl)
              have h44 : f2 dO = some (.inl (cI G, 2048, .inl gO)) := by rw [ef2, va_up_ne _ _ n45]; exact k_dO
              refine hp_V (ci := 5) (As := [.int 0, .int i, .int o]) (rest := []) B0 hw hS (c_W5_answers hl G f2 mo dW dA dQ dM dS dL dR dT dZ dI dH dN dK dJ dU dO dF dP dE dX dY dG vth vpk vpc vnx vgv h4 hND gM gA h27 h28 hSA B ⟨_, _, _, _, _, _, _, _, _, _, _, _, _, h30, h7, h32, h33, h34, h3, h35, h36, h37, h38, h40, h42, h44, hHd9, (hMn.mono hMn9 (by omega))⟩ (by omega) 0 i o (Or.inl rfl)) mV_X5_answers qM_X5_110 rfl h4 rfl rfl hl9.1 (Nat.le_of_ble_eq_true rfl) ⟨⟨Nat.le_of_ble_eq_true rfl, Nat.le_of_ble_eq_true rfl⟩, Nat.le_of_ble_eq_true rfl, Nat.le_of_ble_eq_true rfl⟩ dX5_comesRequest_86 (fun E ce q9 f46 H locs hPX hw hS hce hcv hcl => ?_) (fun v f46 H locs hP hw hS => ?_)
              · exact hPX.elim
              · obtain ⟨ev9, h48, k49⟩ := hP
                have h48L := h48
                obtain ⟨gQ_n47, gS_n47, gL_n47, gR_n47, gT_n47, gZ_n47, gI_n47, gH_n47, gN_n47, gK_n47, gJ_n47, gU_n47, gO_n47, k_dQ_n47, k_dS_n47, k_dL_n47, k_dR_n47, k_dT_n47, k_dZ_n47, k_dI_n47, k_dH_n47, k_dN_n47, k_dK_n47, k_dJ_n47, k_dU_n47, k_dO_n47, hHd9_n47, hMn9_n47⟩ := id h48
                subst ev9
                refine W.eq (g2 := F0 m 89 ls []) rfl ?_
                exact hp_vret B0 hw hS hr ⟨Nat.le_of_ble_eq_true rfl, Nat.le_of_ble_eq_true rfl⟩ dX5_comesRequest_89 (⟨rfl, ⟨_, _, _, _, _, _, _, _, _, _, _, _, _, k_dQ_n47, k_dS_n47, k_dL_n47, k_dR_n47, k_dT_n47, k_dZ_n47, k_dI_n47, k_dH_n47, k_dN_n47, k_dK_n47, k_dJ_n47, k_dU_n47, k_dO_n47, hHd9_n47, (hMn.mono hMn9_n47 (by omega))⟩, ((show hEq [dQ, dS, dL, dR, dT, dZ, dI, dH, dN, dK, dJ, dU, dO] f f2 from (by rw [ef2]; exact hEq.up (List.mem_cons_of_mem _ (List.mem_cons_of_mem _ (List.mem_cons_of_mem _ (List.mem_cons_of_mem _ (List.mem_cons_of_mem _ List.mem_cons_self))))))).tr (show hEq [dQ, dS, dL, dR, dT, dZ, dI, dH, dN, dK, dJ, dU, dO] f2 f46 from (hEq.mono k49 (fun _ h9 => h9))))⟩)
          · refine lv_aload_n hx hb dX5_comesRequest_59 rfl (lv_at hl9 0 rfl) ?_
            refine hp_get B0 hw 5 rfl in_X5 h4 5 (by decide) qF_X5_22 rfl dX5_comesRequest_60 ?_
            refine lv_iload_n hx hb dX5_comesRequest_63 rfl (lv_at hl9 1 rfl) ?_
            refine lv_iconst (v := 1) hx hb dX5_comesRequest_64 (by decide) ?_
            refine hp_iast B0 hw hS h7 (by unfold vp_in; decide) dX5_comesRequest_65 (fun H locs f50 ef50 hw hS => ?_)
            have h51 : f50 dS = some (.inl (cI G, 2, .inl (upd gS (0 : Int32).toNatClampNeg 1))) := by rw [ef50, va_up_self]
            refine lv_aload_n hx hb dX5_comesRequest_66 rfl (lv_at hl9 0 rfl) ?_
            refine lv_iload_n hx hb dX5_comesRequest_67 rfl (lv_at hl9 1 rfl) ?_
            have n53 : mo ≠ dS := hne k_mo k_dS (Nat.ne_of_beq_eq_false rfl)
            have h52 : f50 mo = some (.inr (5, [.int vth, .ref dW, .ref dA, .ref dQ, .ref dM, .ref dS, .ref dL, .ref dR, .ref dT, .ref dZ, .ref dI, .ref dH, .ref dN, .ref dK, .ref dJ, .ref dU, .ref dO, .int vpk, .int vpc, .ref dF, .ref dP, .ref dE, .ref dX, .ref dY, .int vnx, .int vgv, .ref dG])) := by rw [ef50, va_up_ne _ _ n53]; exact h4
            have h54 : f2 dM = some (.inl (cI G, 2, .inl gM)) := by rw [ef2, va_up_ne _ _ nd_dM_dZ]; exact k_dM
            have h55 : f50 dM = some (.inl (cI G, 2, .inl gM)) := by rw [ef50, va_up_ne _ _ nd_dM_dS]; exact h54
            have n57 : dA ≠ dZ := hneL k_dA k_dZ (Nat.ne_of_beq_eq_false rfl)
            have h56 : f2 dA = some (.inl (cI G, 12, .inl gA)) := by rw [ef2, va_up_ne _ _ n57]; exact k_dA
            have n59 : dA ≠ dS := hneL k_dA k_dS (Nat.ne_of_beq_eq_false rfl)
            have h58 : f50 dA = some (.inl (cI G, 12, .inl gA)) := by rw [ef50, va_up_ne _ _ n59]; exact h56
            have n61 : dQ ≠ dZ := hneL k_dQ k_dZ (Nat.ne_of_beq_eq_false rfl)
            have h60 : f2 dQ = some (.inl (cI G, 12, .inl gQ)) := by rw [ef2, va_up_ne _ _ n61]; exact k_dQ
            have n63 : dQ ≠ dS := hneL k_dQ k_dS (Nat.ne_of_beq_eq_false rfl)
            have h62 : f50 dQ = some (.inl (cI G, 12, .inl gQ)) := by rw [ef50, va_up_ne _ _ n63]; exact h60
            have h64 : f2 dL = some (.inl (cI G, 2, .inl gL)) := by rw [ef2, va_up_ne _ _ nd_dL_dZ]; exact k_dL
            have h65 : f50 dL = some (.inl (cI G, 2, .inl gL)) := by rw [ef50, va_up_ne _ _ (Ne.symm nd_dS_dL)]; exact h64
            have h66 : f2 dR = some (.inl (cI G, 2, .inl gR)) := by rw [ef2, va_up_ne _ _ nd_dR_dZ]; exact k_dR
            have h67 : f50 dR = some (.inl (cI G, 2, .inl gR)) := by rw [ef50, va_up_ne _ _ (Ne.symm nd_dS_dR)]; exact h66
            have h68 : f2 dT = some (.inl (cI G, 2, .inl gT)) := by rw [ef2, va_up_ne _ _ nd_dT_dZ]; exact k_dT
            have h69 : f50 dT = some (.inl (cI G, 2, .inl gT)) := by rw [ef50, va_up_ne _ _ (Ne.symm nd_dS_dT)]; exact h68
            have h70 : f50 dZ = some (.inl (cZ G, 2, .inl (upd gZ (0 : Int32).toNatClampNeg (vp_nar .boolean 0)))) := by rw [ef50, va_up_ne _ _ (Ne.symm nd_dS_dZ)]; exact h3
            have h71 : f2 dI = some (.inl (cI G, 2, .inl gI)) := by rw [ef2, va_up_ne _ _ (Ne.symm nd_dZ_dI)]; exact k_dI
            have h72 : f50 dI = some (.inl (cI G, 2, .inl gI)) := by rw [ef50, va_up_ne _ _ (Ne.symm nd_dS_dI)]; exact h71
            have h73 : f2 dH = some (.inl (cI G, 2, .inl gH)) := by rw [ef2, va_up_ne _ _ (Ne.symm nd_dZ_dH)]; exact k_dH
            have h74 : f50 dH = some (.inl (cI G, 2, .inl gH)) := by rw [ef50, va_up_ne _ _ (Ne.symm nd_dS_dH)]; exact h73
            have h75 : f2 dN = some (.inl (cI G, 2, .inl gN)) := by rw [ef2, va_up_ne _ _ (Ne.symm nd_dZ_dN)]; exact k_dN
            have h76 : f50 dN = some (.inl (cI G, 2, .inl gN)) := by rw [ef50, va_up_ne _ _ (Ne.symm nd_dS_dN)]; exact h75
            have n78 : dK ≠ dZ := hneL k_dK k_dZ (Nat.ne_of_beq_eq_false rfl)
            have h77 : f2 dK = some (.inl (cI G, 2048, .inl gK)) := by rw [ef2, va_up_ne _ _ n78]; exact k_dK
            have n80 : dK ≠ dS := hneL k_dK k_dS (Nat.ne_of_beq_eq_false rfl)
            have h79 : f50 dK = some (.inl (cI G, 2048, .inl gK)) := by rw [ef50, va_up_ne _ _ n80]; exact h77
            have n82 : dJ ≠ dZ := hneL k_dJ k_dZ (Nat.ne_of_beq_eq_false rfl)
            have h81 : f2 dJ = some (.inl (cI G, 2048, .inl gJ)) := by rw [ef2, va_up_ne _ _ n82]; exact k_dJ
            have n84 : dJ ≠ dS := hneL k_dJ k_dS (Nat.ne_of_beq_eq_false rfl)
            have h83 : f50 dJ = some (.inl (cI G, 2048, .inl gJ)) := by rw [ef50, va_up_ne _ _ n84]; exact h81
            have n86 : dU ≠ dZ := hneL k_dU k_dZ (Nat.ne_of_beq_eq_false rfl)
            have h85 : f2 dU = some (.inl (cI G, 2048, .inl gU)) := by rw [ef2, va_up_ne _ _ n86]; exact k_dU
            have n88 : dU ≠ dS := hneL k_dU k_dS (Nat.ne_of_beq_eq_false rfl)
            have h87 : f50 dU = some (.inl (cI G, 2048, .inl gU)) := by rw [ef50, va_up_ne _ _ n88]; exact h85
            have n90 : dO ≠ dZ := hneL k_dO k_dZ (Nat.ne_of_beq_eq_false rfl)
            have h89 : f2 dO = some (.inl (cI G, 2048, .inl gO)) := by rw [ef2, va_up_ne _ _ n90]; exact k_dO
            have n92 : dO ≠ dS := hneL k_dO k_dS (Nat.ne_of_beq_eq_false rfl)
            have h91 : f50 dO = some (.inl (cI G, 2048, .inl gO)) := by rw [ef50, va_up_ne _ _ n92]; exact h89
            refine hp_V (ci := 5) (As := [.int 0]) (rest := []) B0 hw hS (c_W5_begs hl G f50 mo dW dA dQ dM dS dL dR dT dZ dI dH dN dK dJ dU dO dF dP dE dX dY dG vth vpk vpc vnx vgv h52 hND gM gA h55 h58 hSA B ⟨_, _, _, _, _, _, _, _, _, _, _, _, _, h62, h51, h65, h67, h69, h70, h72, h74, h76, h79, h83, h87, h91, hHd9, (hMn.mono hMn9 (by omega))⟩ (by omega) 0 (Or.inl rfl)) mV_X5_begs qM_X5_107 rfl h52 rfl rfl hl9.1 (Nat.le_of_ble_eq_true rfl) ⟨⟨Nat.le_of_ble_eq_true rfl, Nat.le_of_ble_eq_true rfl⟩, Nat.le_of_ble_eq_true rfl, Nat.le_of_ble_eq_true rfl⟩ dX5_comesRequest_68 (fun E ce q9 f93 H locs hPX hw hS hce hcv hcl => ?_) (fun v f93 H locs hP hw hS => ?_)
            · exact hPX.elim
            · obtain ⟨hv9, hr9⟩ := hP
              rcases hv9 with ev9 | ev9
              · have hP := And.intro ev9 hr9
                obtain ⟨ev8, h95, k96⟩ := hP
                have h95L := h95
                obtain ⟨gQ_n94, gS_n94, gL_n94, gR_n94, gT_n94, gZ_n94, gI_n94, gH_n94, gN_n94, gK_n94, gJ_n94, gU_n94, gO_n94, k_dQ_n94, k_dS_n94, k_dL_n94, k_dR_n94, k_dT_n94, k_dZ_n94, k_dI_n94, k_dH_n94, k_dN_n94, k_dK_n94, k_dJ_n94, k_dU_n94, k_dO_n94, hHd9_n94, hMn9_n94⟩ := id h95
                subst ev8
                refine W.eq (g2 := F0 m 71 ls [.int 0]) rfl ?_
                refine lv_pop hx hb dX5_comesRequest_71 rfl ?_
                refine lv_aload_n hx hb dX5_comesRequest_72 rfl (lv_at hl9 0 rfl) ?_
                have n98 : mo ≠ dO := hne k_mo k_dO (Nat.ne_of_beq_eq_false rfl)
                have n99 : mo ≠ dU := hne k_mo k_dU (Nat.ne_of_beq_eq_false rfl)
                have n100 : mo ≠ dJ := hne k_mo k_dJ (Nat.ne_of_beq_eq_false rfl)
                have n101 : mo ≠ dK := hne k_mo k_dK (Nat.ne_of_beq_eq_false rfl)
                have n102 : mo ≠ dN := hne k_mo k_dN (Nat.ne_of_beq_eq_false rfl)
                have n103 : mo ≠ dH := hne k_mo k_dH (Nat.ne_of_beq_eq_false rfl)
                have n104 : mo ≠ dI := hne k_mo k_dI (Nat.ne_of_beq_eq_false rfl)
                have n105 : mo ≠ dT := hne k_mo k_dT (Nat.ne_of_beq_eq_false rfl)
                have n106 : mo ≠ dR := hne k_mo k_dR (Nat.ne_of_beq_eq_false rfl)
                have n107 : mo ≠ dL := hne k_mo k_dL (Nat.ne_of_beq_eq_false rfl)
                have n108 : mo ≠ dQ := hne k_mo k_dQ (Nat.ne_of_beq_eq_false rfl)
                have h97 : f93 mo = some (.inr (5, [.int vth, .ref dW, .ref dA, .ref dQ, .ref dM, .ref dS, .ref dL, .ref dR, .ref dT, .ref dZ, .ref dI, .ref dH, .ref dN, .ref dK, .ref dJ, .ref dU, .ref dO, .int vpk, .int vpc, .ref dF, .ref dP, .ref dE, .ref dX, .ref dY, .int vnx, .int vgv, .ref dG])) := (hEq.k k96) _ _ h52 (ninc n108 (ninc n53 (ninc n107 (ninc n106 (ninc n105 (ninc n5 (ninc n104 (ninc n103 (ninc n102 (ninc n101 (ninc n100 (ninc n99 (ninc n98 nin0)))))))))))))
                refine hp_get B0 hw 5 rfl in_X5 h97 5 (by decide) qF_X5_22 rfl dX5_comesRequest_73 ?_
                refine lv_iload_n hx hb dX5_comesRequest_76 rfl (lv_at hl9 1 rfl) ?_
                refine hp_iald B0 hw k_dS_n94 (by unfold vp_in; decide) dX5_comesRequest_77 ?_
                refine lv_if_eq (tgt := 89) hx hb dX5_comesRequest_78 (by decide) (fun c109 => ?_) (fun c109 => ?_)
                · exact hp_vret B0 hw hS hr ⟨Nat.le_of_ble_eq_true rfl, Nat.le_of_ble_eq_true rfl⟩ dX5_comesRequest_89 (⟨rfl, ⟨_, _, _, _, _, _, _, _, _, _, _, _, _, k_dQ_n94, k_dS_n94, k_dL_n94, k_dR_n94, k_dT_n94, k_dZ_n94, k_dI_n94, k_dH_n94, k_dN_n94, k_dK_n94, k_dJ_n94, k_dU_n94, k_dO_n94, hHd9_n94, (hMn.mono hMn9_n94 (by omega))⟩, ((show hEq [dQ, dS, dL, dR, dT, dZ, dI, dH, dN, dK, dJ, dU, dO] f f2 from (by rw [ef2]; exact hEq.up (List.mem_cons_of_mem _ (List.mem_cons_of_mem _ (List.mem_cons_of_mem _ (List.mem_cons_of_mem _ (List.mem_cons_of_mem _ List.mem_cons_self))))))).tr ((show hEq [dQ, dS, dL, dR, dT, dZ, dI, dH, dN, dK, dJ, dU, dO] f2 f50 from (by rw [ef50]; exact hEq.up (List.mem_cons_of_mem _ List.mem_cons_self))).tr (show hEq [dQ, dS, dL, dR, dT, dZ, dI, dH, dN, dK, dJ, dU, dO] f50 f93 from (hEq.mono k96 (fun _ h9 => h9)))))⟩)
                · refine lv_aload_n hx hb dX5_comesRequest_81 rfl (lv_at hl9 0 rfl) ?_
                  refine lv_iload_n hx hb dX5_comesRequest_82 rfl (lv_at hl9 1 rfl) ?_
                  refine lv_iload_n hx hb dX5_comesRequest_83 rfl (lv_at hl9 2 rfl) ?_
                  refine lv_iload hx hb dX5_comesRequest_84 (lv_at hl9 4 rfl) ?_
                  have n111 : dM ≠ dO := hneL k_dM k_dO (Nat.ne_of_beq_eq_false rfl)
                  have n112 : dM ≠ dU := hneL k_dM k_dU (Nat.ne_of_beq_eq_false rfl)
                  have n113 : dM ≠ dJ := hneL k_dM k_dJ (Nat.ne_of_beq_eq_false rfl)
                  have n114 : dM ≠ dK := hneL k_dM k_dK (Nat.ne_of_beq_eq_false rfl)
                  have n115 : dM ≠ dQ := hneL k_dM k_dQ (Nat.ne_of_beq_eq_false rfl)
                  have h110 : f93 dM = some (.inl (cI G, 2, .inl gM)) := (hEq.k k96) _ _ h55 (ninc n115 (ninc nd_dM_dS (ninc nd_dM_dL (ninc nd_dM_dR (ninc nd_dM_dT (ninc nd_dM_dZ (ninc nd_dM_dI (ninc nd_dM_dH (ninc nd_dM_dN (ninc n114 (ninc n113 (ninc n112 (ninc n111 nin0)))))))))))))
                  have n117 : dA ≠ dO := hneL k_dA k_dO (Nat.ne_of_beq_eq_false rfl)
                  have n118 : dA ≠ dU := hneL k_dA k_dU (Nat.ne_of_beq_eq_false rfl)
                  have n119 : dA ≠ dJ := hneL k_dA k_dJ (Nat.ne_of_beq_eq_false rfl)
                  have n120 : dA ≠ dK := hneL k_dA k_dK (Nat.ne_of_beq_eq_false rfl)
                  have n121 : dA ≠ dN := hneL k_dA k_dN (Nat.ne_of_beq_eq_false rfl)
                  have n122 : dA ≠ dH := hneL k_dA k_dH (Nat.ne_of_beq_eq_false rfl)
                  have n123 : dA ≠ dI := hneL k_dA k_dI (Nat.ne_of_beq_eq_false rfl)
                  have n124 : dA ≠ dT := hneL k_dA k_dT (Nat.ne_of_beq_eq_false rfl)
                  have n125 : dA ≠ dR := hneL k_dA k_dR (Nat.ne_of_beq_eq_false rfl)
                  have n126 : dA ≠ dL := hneL k_dA k_dL (Nat.ne_of_beq_eq_false rfl)
                  have h116 : f93 dA = some (.inl (cI G, 12, .inl gA)) := (hEq.k k96) _ _ h58 (ninc nd_dA_dQ (ninc n59 (ninc n126 (ninc n125 (ninc n124 (ninc n57 (ninc n123 (ninc n122 (ninc n121 (ninc n120 (ninc n119 (ninc n118 (ninc n117 nin0)))))))))))))
                  refine hp_V (ci := 5) (As := [.int 0, .int i, .int o]) (rest := []) B0 hw hS (c_W5_answers hl G f93 mo dW dA dQ dM dS dL dR dT dZ dI dH dN dK dJ dU dO dF dP dE dX dY dG vth vpk vpc vnx vgv h97 hND gM gA h110 h116 hSA (B + 1) ⟨_, _, _, _, _, _, _, _, _, _, _, _, _, k_dQ_n94, k_dS_n94, k_dL_n94, k_dR_n94, k_dT_n94, k_dZ_n94, k_dI_n94, k_dH_n94, k_dN_n94, k_dK_n94, k_dJ_n94, k_dU_n94, k_dO_n94, hHd9_n94, (hMn.mono hMn9_n94 (by omega))⟩ (by omega) 0 i o (Or.inl rfl)) mV_X5_answers qM_X5_110 rfl h97 rfl rfl hl9.1 (Nat.le_of_ble_eq_true rfl) ⟨⟨Nat.le_of_ble_eq_true rfl, Nat.le_of_ble_eq_true rfl⟩, Nat.le_of_ble_eq_true rfl, Nat.le_of_ble_eq_true rfl⟩ dX5_comesRequest_86 (fun E ce q9 f127 H locs hPX hw hS hce hcv hcl => ?_) (fun v f127 H locs hP hw hS => ?_)
                  · exact hPX.elim
                  · obtain ⟨ev9, h129, k130⟩ := hP
                    have h129L := h129
                    obtain ⟨gQ_n128, gS_n128, gL_n128, gR_n128, gT_n128, gZ_n128, gI_n128, gH_n128, gN_n128, gK_n128, gJ_n128, gU_n128, gO_n128, k_dQ_n128, k_dS_n128, k_dL_n128, k_dR_n128, k_dT_n128, k_dZ_n128, k_dI_n128, k_dH_n128, k_dN_n128, k_dK_n128, k_dJ_n128, k_dU_n128, k_dO_n128, hHd9_n128, hMn9_n128⟩ := id h129
                    subst ev9
                    refine W.eq (g2 := F0 m 89 ls []) rfl ?_
                    exact hp_vret B0 hw hS hr ⟨Nat.le_of_ble_eq_true rfl, Nat.le_of_ble_eq_true rfl⟩ dX5_comesRequest_89 (⟨rfl, ⟨_, _, _, _, _, _, _, _, _, _, _, _, _, k_dQ_n128, k_dS_n128, k_dL_n128, k_dR_n128, k_dT_n128, k_dZ_n128, k_dI_n128, k_dH_n128, k_dN_n128, k_dK_n128, k_dJ_n128, k_dU_n128, k_dO_n128, hHd9_n128, (hMn.mono hMn9_n128 (by omega))⟩, ((show hEq [dQ, dS, dL, dR, dT, dZ, dI, dH, dN, dK, dJ, dU, dO] f f2 from (by rw [ef2]; exact hEq.up (List.mem_cons_of_mem _ (List.mem_cons_of_mem _ (List.mem_cons_of_mem _ (List.mem_cons_of_mem _ (List.mem_cons_of_mem _ List.mem_cons_self))))))).tr ((show hEq [dQ, dS, dL, dR, dT, dZ, dI, dH, dN, dK, dJ, dU, dO] f2 f50 from (by rw [ef50]; exact hEq.up (List.mem_cons_of_mem _ List.mem_cons_self))).tr ((show hEq [dQ, dS, dL, dR, dT, dZ, dI, dH, dN, dK, dJ, dU, dO] f50 f93 from (hEq.mono k96 (fun _ h9 => h9))).tr (show hEq [dQ, dS, dL, dR, dT, dZ, dI, dH, dN, dK, dJ, dU, dO] f93 f127 from (hEq.mono k130 (fun _ h9 => h9))))))⟩)
              · have hP := And.intro ev9 hr9
                obtain ⟨ev8, h132, k133⟩ := hP
                have h132L := h132
                obtain ⟨gQ_n131, gS_n131, gL_n131, gR_n131, gT_n131, gZ_n131, gI_n131, gH_n131, gN_n131, gK_n131, gJ_n131, gU_n131, gO_n131, k_dQ_n131, k_dS_n131, k_dL_n131, k_dR_n131, k_dT_n131, k_dZ_n131, k_dI_n131, k_dH_n131, k_dN_n131, k_dK_n131, k_dJ_n131, k_dU_n131, k_dO_n131, hHd9_n131, hMn9_n131⟩ := id h132
                subst ev8
                refine W.eq (g2 := F0 m 71 ls [.int 1]) rfl ?_
                refine lv_pop hx hb dX5_comesRequest_71 rfl ?_
                refine lv_aload_n hx hb dX5_comesRequest_72 rfl (lv_at hl9 0 rfl) ?_
                have n135 : mo ≠ dO := hne k_mo k_dO (Nat.ne_of_beq_eq_false rfl)
                have n136 : mo ≠ dU := hne k_mo k_dU (Nat.ne_of_beq_eq_false rfl)
                have n137 : mo ≠ dJ := hne k_mo k_dJ (Nat.ne_of_beq_eq_false rfl)
                have n138 : mo ≠ dK := hne k_mo k_dK (Nat.ne_of_beq_eq_false rfl)
                have n139 : mo ≠ dN := hne k_mo k_dN (Nat.ne_of_beq_eq_false rfl)
                have n140 : mo ≠ dH := hne k_mo k_dH (Nat.ne_of_beq_eq_false rfl)
                have n141 : mo ≠ dI := hne k_mo k_dI (Nat.ne_of_beq_eq_false rfl)
                have n142 : mo ≠ dT := hne k_mo k_dT (Nat.ne_of_beq_eq_false rfl)
                have n143 : mo ≠ dR := hne k_mo k_dR (Nat.ne_of_beq_eq_false rfl)
                have n144 : mo ≠ dL := hne k_mo k_dL (Nat.ne_of_beq_eq_false rfl)
                have n145 : mo ≠ dQ := hne k_mo k_dQ (Nat.ne_of_beq_eq_false rfl)
                have h134 : f93 mo = some (.inr (5, [.int vth, .ref dW, .ref dA, .ref dQ, .ref dM, .ref dS, .ref dL, .ref dR, .ref dT, .ref dZ, .ref dI, .ref dH, .ref dN, .ref dK, .ref dJ, .ref dU, .ref dO, .int vpk, .int vpc, .ref dF, .ref dP, .ref dE, .ref dX, .ref dY, .int vnx, .int vgv, .ref dG])) := (hEq.k k133) _ _ h52 (ninc n145 (ninc n53 (ninc n144 (ninc n143 (ninc n142 (ninc n5 (ninc n141 (ninc n140 (ninc n139 (ninc n138 (ninc n137 (ninc n136 (ninc n135 nin0)))))))))))))
                refine hp_get B0 hw 5 rfl in_X5 h134 5 (by decide) qF_X5_22 rfl dX5_comesRequest_73 ?_
                refine lv_iload_n hx hb dX5_comesRequest_76 rfl (lv_at hl9 1 rfl) ?_
                refine hp_iald B0 hw k_dS_n131 (by unfold vp_in; decide) dX5_comesRequest_77 ?_
                refine lv_if_eq (tgt := 89) hx hb dX5_comesRequest_78 (by decide) (fun c146 => ?_) (fun c146 => ?_)
                · exact hp_vret B0 hw hS hr ⟨Nat.le_of_ble_eq_true rfl, Nat.le_of_ble_eq_true rfl⟩ dX5_comesRequest_89 (⟨rfl, ⟨_, _, _, _, _, _, _, _, _, _, _, _, _, k_dQ_n131, k_dS_n131, k_dL_n131, k_dR_n131, k_dT_n131, k_dZ_n131, k_dI_n131, k_dH_n131, k_dN_n131, k_dK_n131, k_dJ_n131, k_dU_n131, k_dO_n131, hHd9_n131, (hMn.mono hMn9_n131 (by omega))⟩, ((show hEq [dQ, dS, dL, dR, dT, dZ, dI, dH, dN, dK, dJ, dU, dO] f f2 from (by rw [ef2]; exact hEq.up (List.mem_cons_of_mem _ (List.mem_cons_of_mem _ (List.mem_cons_of_mem _ (List.mem_cons_of_mem _ (List.mem_cons_of_mem _ List.mem_cons_self))))))).tr ((show hEq [dQ, dS, dL, dR, dT, dZ, dI, dH, dN, dK, dJ, dU, dO] f2 f50 from (by rw [ef50]; exact hEq.up (List.mem_cons_of_mem _ List.mem_cons_self))).tr (show hEq [dQ, dS, dL, dR, dT, dZ, dI, dH, dN, dK, dJ, dU, dO] f50 f93 from (hEq.mono k133 (fun _ h9 => h9)))))⟩)
                · refine lv_aload_n hx hb dX5_comesRequest_81 rfl (lv_at hl9 0 rfl) ?_
                  refine lv_iload_n hx hb dX5_comesRequest_82 rfl (lv_at hl9 1 rfl) ?_
                  refine lv_iload_n hx hb dX5_comesRequest_83 rfl (lv_at hl9 2 rfl) ?_
                  refine lv_iload hx hb dX5_comesRequest_84 (lv_at hl9 4 rfl) ?_
                  have n148 : dM ≠ dO := hneL k_dM k_dO (Nat.ne_of_beq_eq_false rfl)
                  have n149 : dM ≠ dU := hneL k_dM k_dU (Nat.ne_of_beq_eq_false rfl)
                  have n150 : dM ≠ dJ := hneL k_dM k_dJ (Nat.ne_of_beq_eq_false rfl)
                  have n151 : dM ≠ dK := hneL k_dM k_dK (Nat.ne_of_beq_eq_false rfl)
                  have n152 : dM ≠ dQ := hneL k_dM k_dQ (Nat.ne_of_beq_eq_false rfl)
                  have h147 : f93 dM = some (.inl (cI G, 2, .inl gM)) := (hEq.k k133) _ _ h55 (ninc n152 (ninc nd_dM_dS (ninc nd_dM_dL (ninc nd_dM_dR (ninc nd_dM_dT (ninc nd_dM_dZ (ninc nd_dM_dI (ninc nd_dM_dH (ninc nd_dM_dN (ninc n151 (ninc n150 (ninc n149 (ninc n148 nin0)))))))))))))
                  have n154 : dA ≠ dO := hneL k_dA k_dO (Nat.ne_of_beq_eq_false rfl)
                  have n155 : dA ≠ dU := hneL k_dA k_dU (Nat.ne_of_beq_eq_false rfl)
                  have n156 : dA ≠ dJ := hneL k_dA k_dJ (Nat.ne_of_beq_eq_false rfl)
                  have n157 : dA ≠ dK := hneL k_dA k_dK (Nat.ne_of_beq_eq_false rfl)
                  have n158 : dA ≠ dN := hneL k_dA k_dN (Nat.ne_of_beq_eq_false rfl)
                  have n159 : dA ≠ dH := hneL k_dA k_dH (Nat.ne_of_beq_eq_false rfl)
                  have n160 : dA ≠ dI := hneL k_dA k_dI (Nat.ne_of_beq_eq_false rfl)
                  have n161 : dA ≠ dT := hneL k_dA k_dT (Nat.ne_of_beq_eq_false rfl)
                  have n162 : dA ≠ dR := hneL k_dA k_dR (Nat.ne_of_beq_eq_false rfl)
                  have n163 : dA ≠ dL := hneL k_dA k_dL (Nat.ne_of_beq_eq_false rfl)
                  have h153 : f93 dA = some (.inl (cI G, 12, .inl gA)) := (hEq.k k133) _ _ h58 (ninc nd_dA_dQ (ninc n59 (ninc n163 (ninc n162 (ninc n161 (ninc n57 (ninc n160 (ninc n159 (ninc n158 (ninc n157 (ninc n156 (ninc n155 (ninc n154 nin0)))))))))))))
                  refine hp_V (ci := 5) (As := [.int 0, .int i, .int o]) (rest := []) B0 hw hS (c_W5_answers hl G f93 mo dW dA dQ dM dS dL dR dT dZ dI dH dN dK dJ dU dO dF dP dE dX dY dG vth vpk vpc vnx vgv h134 hND gM gA h147 h153 hSA (B + 1) ⟨_, _, _, _, _, _, _, _, _, _, _, _, _, k_dQ_n131, k_dS_n131, k_dL_n131, k_dR_n131, k_dT_n131, k_dZ_n131, k_dI_n131, k_dH_n131, k_dN_n131, k_dK_n131, k_dJ_n131, k_dU_n131, k_dO_n131, hHd9_n131, (hMn.mono hMn9_n131 (by omega))⟩ (by omega) 0 i o (Or.inl rfl)) mV_X5_answers qM_X5_110 rfl h134 rfl rfl hl9.1 (Nat.le_of_ble_eq_true rfl) ⟨⟨Nat.le_of_ble_eq_true rfl, Nat.le_of_ble_eq_true rfl⟩, Nat.le_of_ble_eq_true rfl, Nat.le_of_ble_eq_true rfl⟩ dX5_comesRequest_86 (fun E ce q9 f164 H locs hPX hw hS hce hcv hcl => ?_) (fun v f164 H locs hP hw hS => ?_)
                  · exact hPX.elim
                  · obtain ⟨ev9, h166, k167⟩ := hP
                    have h166L := h166
                    obtain ⟨gQ_n165, gS_n165, gL_n165, gR_n165, gT_n165, gZ_n165, gI_n165, gH_n165, gN_n165, gK_n165, gJ_n165, gU_n165, gO_n165, k_dQ_n165, k_dS_n165, k_dL_n165, k_dR_n165, k_dT_n165, k_dZ_n165, k_dI_n165, k_dH_n165, k_dN_n165, k_dK_n165, k_dJ_n165, k_dU_n165, k_dO_n165, hHd9_n165, hMn9_n165⟩ := id h166
                    subst ev9
                    refine W.eq (g2 := F0 m 89 ls []) rfl ?_
                    exact hp_vret B0 hw hS hr ⟨Nat.le_of_ble_eq_true rfl, Nat.le_of_ble_eq_true rfl⟩ dX5_comesRequest_89 (⟨rfl, ⟨_, _, _, _, _, _, _, _, _, _, _, _, _, k_dQ_n165, k_dS_n165, k_dL_n165, k_dR_n165, k_dT_n165, k_dZ_n165, k_dI_n165, k_dH_n165, k_dN_n165, k_dK_n165, k_dJ_n165, k_dU_n165, k_dO_n165, hHd9_n165, (hMn.mono hMn9_n165 (by omega))⟩, ((show hEq [dQ, dS, dL, dR, dT, dZ, dI, dH, dN, dK, dJ, dU, dO] f f2 from (by rw [ef2]; exact hEq.up (List.mem_cons_of_mem _ (List.mem_cons_of_mem _ (List.mem_cons_of_mem _ (List.mem_cons_of_mem _ (List.mem_cons_of_mem _ List.mem_cons_self))))))).tr ((show hEq [dQ, dS, dL, dR, dT, dZ, dI, dH, dN, dK, dJ, dU, dO] f2 f50 from (by rw [ef50]; exact hEq.up (List.mem_cons_of_mem _ List.mem_cons_self))).tr ((show hEq [dQ, dS, dL, dR, dT, dZ, dI, dH, dN, dK, dJ, dU, dO] f50 f93 from (hEq.mono k133 (fun _ h9 => h9))).tr (show hEq [dQ, dS, dL, dR, dT, dZ, dI, dH, dN, dK, dJ, dU, dO] f93 f164 from (hEq.mono k167 (fun _ h9 => h9))))))⟩)
        · refine lv_aload_n hx hb dX5_comesRequest_40 rfl (lv_at hl9 0 rfl) ?_
          refine lv_iload_n hx hb dX5_comesRequest_41 rfl (lv_at hl9 1 rfl) ?_
          refine lv_iconst (v := 4) hx hb dX5_comesRequest_42 (by decide) ?_
          refine lv_iconst (v := 0) hx hb dX5_comesRequest_43 (by decide) ?_
          refine lv_iconst (v := 0) hx hb dX5_comesRequest_44 (by decide) ?_
          have h168 : f2 dM = some (.inl (cI G, 2, .inl gM)) := by rw [ef2, va_up_ne _ _ nd_dM_dZ]; exact k_dM
          have n170 : dA ≠ dZ := hneL k_dA k_dZ (Nat.ne_of_beq_eq_false rfl)
          have h169 : f2 dA = some (.inl (cI G, 12, .inl gA)) := by rw [ef2, va_up_ne _ _ n170]; exact k_dA
          have n172 : dQ ≠ dZ := hneL k_dQ k_dZ (Nat.ne_of_beq_eq_false rfl)
          have h171 : f2 dQ = some (.inl (cI G, 12, .inl gQ)) := by rw [ef2, va_up_ne _ _ n172]; exact k_dQ
          have h173 : f2 dL = some (.inl (cI G, 2, .inl gL)) := by rw [ef2, va_up_ne _ _ nd_dL_dZ]; exact k_dL
          have h174 : f2 dR = some (.inl (cI G, 2, .inl gR)) := by rw [ef2, va_up_ne _ _ nd_dR_dZ]; exact k_dR
          have h175 : f2 dT = some (.inl (cI G, 2, .inl gT)) := by rw [ef2, va_up_ne _ _ nd_dT_dZ]; exact k_dT
          have h176 : f2 dI = some (.inl (cI G, 2, .inl gI)) := by rw [ef2, va_up_ne _ _ (Ne.symm nd_dZ_dI)]; exact k_dI
          have h177 : f2 dH = some (.inl (cI G, 2, .inl gH)) := by rw [ef2, va_up_ne _ _ (Ne.symm nd_dZ_dH)]; exact k_dH
          have h178 : f2 dN = some (.inl (cI G, 2, .inl gN)) := by rw [ef2, va_up_ne _ _ (Ne.symm nd_dZ_dN)]; exact k_dN
          have n180 : dK ≠ dZ := hneL k_dK k_dZ (Nat.ne_of_beq_eq_false rfl)
          have h179 : f2 dK = some (.inl (cI G, 2048, .inl gK)) := by rw [ef2, va_up_ne _ _ n180]; exact k_dK
          have n182 : dJ ≠ dZ := hneL k_dJ k_dZ (Nat.ne_of_beq_eq_false rfl)
          have h181 : f2 dJ = some (.inl (cI G, 2048, .inl gJ)) := by rw [ef2, va_up_ne _ _ n182]; exact k_dJ
          have n184 : dU ≠ dZ := hneL k_dU k_dZ (Nat.ne_of_beq_eq_false rfl)
          have h183 : f2 dU = some (.inl (cI G, 2048, .inl gU)) := by rw [ef2, va_up_ne _ _ n184]; exact k_dU
          have n186 : dO ≠ dZ := hneL k_dO k_dZ (Nat.ne_of_beq_eq_false rfl)
          have h185 : f2 dO = some (.inl (cI G, 2048, .inl gO)) := by rw [ef2, va_up_ne _ _ n186]; exact k_dO
          refine hp_V (ci := 5) (As := [.int 0, .int 4, .int 0, .int 0]) (rest := []) B0 hw hS (c_W5_sends hl G f2 mo dW dA dQ dM dS dL dR dT dZ dI dH dN dK dJ dU dO dF dP dE dX dY dG vth vpk vpc vnx vgv h4 hND gM gA h168 h169 hSA B ⟨_, _, _, _, _, _, _, _, _, _, _, _, _, h171, h7, h173, h174, h175, h3, h176, h177, h178, h179, h181, h183, h185, hHd9, (hMn.mono hMn9 (by omega))⟩ (by omega) 0 4 0 0 (Or.inl rfl)) mV_X5_sends qM_X5_96 rfl h4 rfl rfl hl9.1 (Nat.le_of_ble_eq_true rfl) ⟨⟨Nat.le_of_ble_eq_true rfl, Nat.le_of_ble_eq_true rfl⟩, Nat.le_of_ble_eq_true rfl, Nat.le_of_ble_eq_true rfl⟩ dX5_comesRequest_45 (fun E ce q9 f187 H locs hPX hw hS hce hcv hcl => ?_) (fun v f187 H locs hP hw hS => ?_)
          · exact hPX.elim
          · obtain ⟨ev9, h189, k190⟩ := hP
            have h189L := h189
            obtain ⟨gQ_n188, gS_n188, gL_n188, gR_n188, gT_n188, gZ_n188, gI_n188, gH_n188, gN_n188, gK_n188, gJ_n188, gU_n188, gO_n188, k_dQ_n188, k_dS_n188, k_dL_n188, k_dR_n188, k_dT_n188, k_dZ_n188, k_dI_n188, k_dH_n188, k_dN_n188, k_dK_n188, k_dJ_n188, k_dU_n188, k_dO_n188, hHd9_n188, hMn9_n188⟩ := id h189
            subst ev9
            refine W.eq (g2 := F0 m 48 ls []) rfl ?_
            exact hp_vret B0 hw hS hr ⟨Nat.le_of_ble_eq_true rfl, Nat.le_of_ble_eq_true rfl⟩ dX5_comesRequest_48 (⟨rfl, ⟨_, _, _, _, _, _, _, _, _, _, _, _, _, k_dQ_n188, k_dS_n188, k_dL_n188, k_dR_n188, k_dT_n188, k_dZ_n188, k_dI_n188, k_dH_n188, k_dN_n188, k_dK_n188, k_dJ_n188, k_dU_n188, k_dO_n188, hHd9_n188, (hMn.mono hMn9_n188 (by omega))⟩, ((show hEq [dQ, dS, dL, dR, dT, dZ, dI, dH, dN, dK, dJ, dU, dO] f f2 from (by rw [ef2]; exact hEq.up (List.mem_cons_of_mem _ (List.mem_cons_of_mem _ (List.mem_cons_of_mem _ (List.mem_cons_of_mem _ (List.mem_cons_of_mem _ List.mem_cons_self))))))).tr (show hEq [dQ, dS, dL, dR, dT, dZ, dI, dH, dN, dK, dJ, dU, dO] f2 f187 from (hEq.mono k190 (fun _ h9 => h9))))⟩)
      · have n192 : dQ ≠ dZ := hneL k_dQ k_dZ (Nat.ne_of_beq_eq_false rfl)
        have h191 : f2 dQ = some (.inl (cI G, 12, .inl gQ)) := by rw [ef2, va_up_ne _ _ n192]; exact k_dQ
        have h193 : f2 dS = some (.inl (cI G, 2, .inl gS)) := by rw [ef2, va_up_ne _ _ nd_dS_dZ]; exact k_dS
        have h194 : f2 dL = some (.inl (cI G, 2, .inl gL)) := by rw [ef2, va_up_ne _ _ nd_dL_dZ]; exact k_dL
        have h195 : f2 dR = some (.inl (cI G, 2, .inl gR)) := by rw [ef2, va_up_ne _ _ nd_dR_dZ]; exact k_dR
        have h196 : f2 dT = some (.inl (cI G, 2, .inl gT)) := by rw [ef2, va_up_ne _ _ nd_dT_dZ]; exact k_dT
        have h197 : f2 dI = some (.inl (cI G, 2, .inl gI)) := by rw [ef2, va_up_ne _ _ (Ne.symm nd_dZ_dI)]; exact k_dI
        have h198 : f2 dH = some (.inl (cI G, 2, .inl gH)) := by rw [ef2, va_up_ne _ _ (Ne.symm nd_dZ_dH)]; exact k_dH
        have h199 : f2 dN = some (.inl (cI G, 2, .inl gN)) := by rw [ef2, va_up_ne _ _ (Ne.symm nd_dZ_dN)]; exact k_dN
        have n201 : dK ≠ dZ := hneL k_dK k_dZ (Nat.ne_of_beq_eq_false rfl)
        have h200 : f2 dK = some (.inl (cI G, 2048, .inl gK)) := by rw [ef2, va_up_ne _ _ n201]; exact k_dK
        have n203 : dJ ≠ dZ := hneL k_dJ k_dZ (Nat.ne_of_beq_eq_false rfl)
        have h202 : f2 dJ = some (.inl (cI G, 2048, .inl gJ)) := by rw [ef2, va_up_ne _ _ n203]; exact k_dJ
        have n205 : dU ≠ dZ := hneL k_dU k_dZ (Nat.ne_of_beq_eq_false rfl)
        have h204 : f2 dU = some (.inl (cI G, 2048, .inl gU)) := by rw [ef2, va_up_ne _ _ n205]; exact k_dU
        have n207 : dO ≠ dZ := hneL k_dO k_dZ (Nat.ne_of_beq_eq_false rfl)
        have h206 : f2 dO = some (.inl (cI G, 2048, .inl gO)) := by rw [ef2, va_up_ne _ _ n207]; exact k_dO
        exact hp_vret B0 hw hS hr ⟨Nat.le_of_ble_eq_true rfl, Nat.le_of_ble_eq_true rfl⟩ dX5_comesRequest_30 (⟨rfl, ⟨_, _, _, _, _, _, _, _, _, _, _, _, _, h191, h193, h194, h195, h196, h3, h197, h198, h199, h200, h202, h204, h206, hHd9, (hMn.mono hMn9 (by omega))⟩, (show hEq [dQ, dS, dL, dR, dT, dZ, dI, dH, dN, dK, dJ, dU, dO] f f2 from (by rw [ef2]; exact hEq.up (List.mem_cons_of_mem _ (List.mem_cons_of_mem _ (List.mem_cons_of_mem _ (List.mem_cons_of_mem _ (List.mem_cons_of_mem _ List.mem_cons_self)))))))⟩)
    · refine lv_iconst (v := 1) hx hb dX5_comesRequest_15 (by decide) ?_
      refine lv_goto (tgt := 20) hx hb dX5_comesRequest_16 (by decide) ?_
      refine hp_zast B0 hw hS k_dZ (by unfold vp_in; decide) dX5_comesRequest_20 (fun H locs f208 ef208 hw hS => ?_)
      have h209 : f208 dZ = some (.inl (cZ G, 2, .inl (upd gZ (0 : Int32).toNatClampNeg (vp_nar .boolean 1)))) := by rw [ef208, va_up_self]
      refine lv_aload_n hx hb dX5_comesRequest_21 rfl (lv_at hl9 0 rfl) ?_
      have n211 : mo ≠ dZ := hne k_mo k_dZ (Nat.ne_of_beq_eq_false rfl)
      have h210 : f208 mo = some (.inr (5, [.int vth, .ref dW, .ref dA, .ref dQ, .ref dM, .ref dS, .ref dL, .ref dR, .ref dT, .ref dZ, .ref dI, .ref dH, .ref dN, .ref dK, .ref dJ, .ref dU, .ref dO, .int vpk, .int vpc, .ref dF, .ref dP, .ref dE, .ref dX, .ref dY, .int vnx, .int vgv, .ref dG])) := by rw [ef208, va_up_ne _ _ n211]; exact k_mo
      refine hp_get B0 hw 5 rfl in_X5 h210 9 (by decide) qF_X5_34 rfl dX5_comesRequest_22 ?_
      refine lv_iload_n hx hb dX5_comesRequest_25 rfl (lv_at hl9 1 rfl) ?_
      refine hp_zald B0 hw h209 (by unfold vp_in; decide) dX5_comesRequest_26 ?_
      refine lv_if_eq (tgt := 31) hx hb dX5_comesRequest_27 (by decide) (fun c212 => ?_) (fun c212 => ?_)
      · refine lv_aload_n hx hb dX5_comesRequest_31 rfl (lv_at hl9 0 rfl) ?_
        refine hp_get B0 hw 5 rfl in_X5 h210 5 (by decide) qF_X5_22 rfl dX5_comesRequest_32 ?_
        refine lv_iload_n hx hb dX5_comesRequest_35 rfl (lv_at hl9 1 rfl) ?_
        have h213 : f208 dS = some (.inl (cI G, 2, .inl gS)) := by rw [ef208, va_up_ne _ _ nd_dS_dZ]; exact k_dS
        refine hp_iald B0 hw h213 (by unfold vp_in; decide) dX5_comesRequest_36 ?_
        refine lv_if_ne (tgt := 49) hx hb dX5_comesRequest_37 (by decide) (fun c214 => ?_) (fun c214 => ?_)
        · refine lv_aload_n hx hb dX5_comesRequest_49 rfl (lv_at hl9 0 rfl) ?_
          refine hp_get B0 hw 5 rfl in_X5 h210 5 (by decide) qF_X5_22 rfl dX5_comesRequest_50 ?_
          refine lv_iload_n hx hb dX5_comesRequest_53 rfl (lv_at hl9 1 rfl) ?_
          refine hp_iald B0 hw h213 (by unfold vp_in; decide) dX5_comesRequest_54 ?_
          refine lv_iconst (v := 4) hx hb dX5_comesRequest_55 (by decide) ?_
          refine lv_icmp_ne (tgt := 72) hx hb dX5_comesRequest_56 (by decide) (fun c215 => ?_) (fun c215 => ?_)
          · refine lv_aload_n hx hb dX5_comesRequest_72 rfl (lv_at hl9 0 rfl) ?_
            refine hp_get B0 hw 5 rfl in_X5 h210 5 (by decide) qF_X5_22 rfl dX5_comesRequest_73 ?_
            refine lv_iload_n hx hb dX5_comesRequest_76 rfl (lv_at hl9 1 rfl) ?_
            refine hp_iald B0 hw h213 (by unfold vp_in; decide) dX5_comesRequest_77 ?_
            refine lv_if_eq (tgt := 89) hx hb dX5_comesRequest_78 (by decide) (fun c216 => ?_) (fun c216 => ?_)
            · have n218 : dQ ≠ dZ := hneL k_dQ k_dZ (Nat.ne_of_beq_eq_false rfl)
              have h217 : f208 dQ = some (.inl (cI G, 12, .inl gQ)) := by rw [ef208, va_up_ne _ _ n218]; exact k_dQ
              have h219 : f208 dL = some (.inl (cI G, 2, .inl gL)) := by rw [ef208, va_up_ne _ _ nd_dL_dZ]; exact k_dL
              have h220 : f208 dR = some (.inl (cI G, 2, .inl gR)) := by rw [ef208, va_up_ne _ _ nd_dR_dZ]; exact k_dR
              have h221 : f208 dT = some (.inl (cI G, 2, .inl gT)) := by rw [ef208, va_up_ne _ _ nd_dT_dZ]; exact k_dT
              have h222 : f208 dI = some (.inl (cI G, 2, .inl gI)) := by rw [ef208, va_up_ne _ _ (Ne.symm nd_dZ_dI)]; exact k_dI
              have h223 : f208 dH = some (.inl (cI G, 2, .inl gH)) := by rw [ef208, va_up_ne _ _ (Ne.symm nd_dZ_dH)]; exact k_dH
              have h224 : f208 dN = some (.inl (cI G, 2, .inl gN)) := by rw [ef208, va_up_ne _ _ (Ne.symm nd_dZ_dN)]; exact k_dN
              have n226 : dK ≠ dZ := hneL k_dK k_dZ (Nat.ne_of_beq_eq_false rfl)
              have h225 : f208 dK = some (.inl (cI G, 2048, .inl gK)) := by rw [ef208, va_up_ne _ _ n226]; exact k_dK
              have n228 : dJ ≠ dZ := hneL k_dJ k_dZ (Nat.ne_of_beq_eq_false rfl)
              have h227 : f208 dJ = some (.inl (cI G, 2048, .inl gJ)) := by rw [ef208, va_up_ne _ _ n228]; exact k_dJ
              have n230 : dU ≠ dZ := hneL k_dU k_dZ (Nat.ne_of_beq_eq_false rfl)
              have h229 : f208 dU = some (.inl (cI G, 2048, .inl gU)) := by rw [ef208, va_up_ne _ _ n230]; exact k_dU
              have n232 : dO ≠ dZ := hneL k_dO k_dZ (Nat.ne_of_beq_eq_false rfl)
              have h231 : f208 dO = some (.inl (cI G, 2048, .inl gO)) := by rw [ef208, va_up_ne _ _ n232]; exact k_dO
              exact hp_vret B0 hw hS hr ⟨Nat.le_of_ble_eq_true rfl, Nat.le_of_ble_eq_true rfl⟩ dX5_comesRequest_89 (⟨rfl, ⟨_, _, _, _, _, _, _, _, _, _, _, _, _, h217, h213, h219, h220, h221, h209, h222, h223, h224, h225, h227, h229, h231, hHd9, (hMn.mono hMn9 (by omega))⟩, (show hEq [dQ, dS, dL, dR, dT, dZ, dI, dH, dN, dK, dJ, dU, dO] f f208 from (by rw [ef208]; exact hEq.up (List.mem_cons_of_mem _ (List.mem_cons_of_mem _ (List.mem_cons_of_mem _ (List.mem_cons_of_mem _ (List.mem_cons_of_mem _ List.mem_cons_self)))))))⟩)
            · refine lv_aload_n hx hb dX5_comesRequest_81 rfl (lv_at hl9 0 rfl) ?_
              refine lv_iload_n hx hb dX5_comesRequest_82 rfl (lv_at hl9 1 rfl) ?_
              refine lv_iload_n hx hb dX5_comesRequest_83 rfl (lv_at hl9 2 rfl) ?_
              refine lv_iload hx hb dX5_comesRequest_84 (lv_at hl9 4 rfl) ?_
              have h233 : f208 dM = some (.inl (cI G, 2, .inl gM)) := by rw [ef208, va_up_ne _ _ nd_dM_dZ]; exact k_dM
              have n235 : dA ≠ dZ := hneL k_dA k_dZ (Nat.ne_of_beq_eq_false rfl)
              have h234 : f208 dA = some (.inl (cI G, 12, .inl gA)) := by rw [ef208, va_up_ne _ _ n235]; exact k_dA
              have n237 : dQ ≠ dZ := hneL k_dQ k_dZ (Nat.ne_of_beq_eq_false rfl)
              have h236 : f208 dQ = some (.inl (cI G, 12, .inl gQ)) := by rw [ef208, va_up_ne _ _ n237]; exact k_dQ
              have h238 : f208 dL = some (.inl (cI G, 2, .inl gL)) := by rw [ef208, va_up_ne _ _ nd_dL_dZ]; exact k_dL
              have h239 : f208 dR = some (.inl (cI G, 2, .inl gR)) := by rw [ef208, va_up_ne _ _ nd_dR_dZ]; exact k_dR
              have h240 : f208 dT = some (.inl (cI G, 2, .inl gT)) := by rw [ef208, va_up_ne _ _ nd_dT_dZ]; exact k_dT
              have h241 : f208 dI = some (.inl (cI G, 2, .inl gI)) := by rw [ef208, va_up_ne _ _ (Ne.symm nd_dZ_dI)]; exact k_dI
              have h242 : f208 dH = some (.inl (cI G, 2, .inl gH)) := by rw [ef208, va_up_ne _ _ (Ne.symm nd_dZ_dH)]; exact k_dH
              have h243 : f208 dN = some (.inl (cI G, 2, .inl gN)) := by rw [ef208, va_up_ne _ _ (Ne.symm nd_dZ_dN)]; exact k_dN
              have n245 : dK ≠ dZ := hneL k_dK k_dZ (Nat.ne_of_beq_eq_false rfl)
              have h244 : f208 dK = some (.inl (cI G, 2048, .inl gK)) := by rw [ef208, va_up_ne _ _ n245]; exact k_dK
              have n247 : dJ ≠ dZ := hneL k_dJ k_dZ (Nat.ne_of_beq_eq_false rfl)
              have h246 : f208 dJ = some (.inl (cI G, 2048, .inl gJ)) := by rw [ef208, va_up_ne _ _ n247]; exact k_dJ
              have n249 : dU ≠ dZ := hneL k_dU k_dZ (Nat.ne_of_beq_eq_false rfl)
              have h248 : f208 dU = some (.inl (cI G, 2048, .inl gU)) := by rw [ef208, va_up_ne _ _ n249]; exact k_dU
              have n251 : dO ≠ dZ := hneL k_dO k_dZ (Nat.ne_of_beq_eq_false rfl)
              have h250 : f208 dO = some (.inl (cI G, 2048, .inl gO)) := by rw [ef208, va_up_ne _ _ n251]; exact k_dO
              refine hp_V (ci := 5) (As := [.int 0, .int i, .int o]) (rest := []) B0 hw hS (c_W5_answers hl G f208 mo dW dA dQ dM dS dL dR dT dZ dI dH dN dK dJ dU dO dF dP dE dX dY dG vth vpk vpc vnx vgv h210 hND gM gA h233 h234 hSA B ⟨_, _, _, _, _, _, _, _, _, _, _, _, _, h236, h213, h238, h239, h240, h209, h241, h242, h243, h244, h246, h248, h250, hHd9, (hMn.mono hMn9 (by omega))⟩ (by omega) 0 i o (Or.inl rfl)) mV_X5_answers qM_X5_110 rfl h210 rfl rfl hl9.1 (Nat.le_of_ble_eq_true rfl) ⟨⟨Nat.le_of_ble_eq_true rfl, Nat.le_of_ble_eq_true rfl⟩, Nat.le_of_ble_eq_true rfl, Nat.le_of_ble_eq_true rfl⟩ dX5_comesRequest_86 (fun E ce q9 f252 H locs hPX hw hS hce hcv hcl => ?_) (fun v f252 H locs hP hw hS => ?_)
              · exact hPX.elim
              · obtain ⟨ev9, h254, k255⟩ := hP
                have h254L := h254
                obtain ⟨gQ_n253, gS_n253, gL_n253, gR_n253, gT_n253, gZ_n253, gI_n253, gH_n253, gN_n253, gK_n253, gJ_n253, gU_n253, gO_n253, k_dQ_n253, k_dS_n253, k_dL_n253, k_dR_n253, k_dT_n253, k_dZ_n253, k_dI_n253, k_dH_n253, k_dN_n253, k_dK_n253, k_dJ_n253, k_dU_n253, k_dO_n253, hHd9_n253, hMn9_n253⟩ := id h254
                subst ev9
                refine W.eq (g2 := F0 m 89 ls []) rfl ?_
                exact hp_vret B0 hw hS hr ⟨Nat.le_of_ble_eq_true rfl, Nat.le_of_ble_eq_true rfl⟩ dX5_comesRequest_89 (⟨rfl, ⟨_, _, _, _, _, _, _, _, _, _, _, _, _, k_dQ_n253, k_dS_n253, k_dL_n253, k_dR_n253, k_dT_n253, k_dZ_n253, k_dI_n253, k_dH_n253, k_dN_n253, k_dK_n253, k_dJ_n253, k_dU_n253, k_dO_n253, hHd9_n253, (hMn.mono hMn9_n253 (by omega))⟩, ((show hEq [dQ, dS, dL, dR, dT, dZ, dI, dH, dN, dK, dJ, dU, dO] f f208 from (by rw [ef208]; exact hEq.up (List.mem_cons_of_mem _ (List.mem_cons_of_mem _ (List.mem_cons_of_mem _ (List.mem_cons_of_mem _ (List.mem_cons_of_mem _ List.mem_cons_self))))))).tr (show hEq [dQ, dS, dL, dR, dT, dZ, dI, dH, dN, dK, dJ, dU, dO] f208 f252 from (hEq.mono k255 (fun _ h9 => h9))))⟩)
          · refine lv_aload_n hx hb dX5_comesRequest_59 rfl (lv_at hl9 0 rfl) ?_
            refine hp_get B0 hw 5 rfl in_X5 h210 5 (by decide) qF_X5_22 rfl dX5_comesRequest_60 ?_
            refine lv_iload_n hx hb dX5_comesRequest_63 rfl (lv_at hl9 1 rfl) ?_
            refine lv_iconst (v := 1) hx hb dX5_comesRequest_64 (by decide) ?_
            refine hp_iast B0 hw hS h213 (by unfold vp_in; decide) dX5_comesRequest_65 (fun H locs f256 ef256 hw hS => ?_)
            have h257 : f256 dS = some (.inl (cI G, 2, .inl (upd gS (0 : Int32).toNatClampNeg 1))) := by rw [ef256, va_up_self]
            refine lv_aload_n hx hb dX5_comesRequest_66 rfl (lv_at hl9 0 rfl) ?_
            refine lv_iload_n hx hb dX5_comesRequest_67 rfl (lv_at hl9 1 rfl) ?_
            have n259 : mo ≠ dS := hne k_mo k_dS (Nat.ne_of_beq_eq_false rfl)
            have h258 : f256 mo = some (.inr (5, [.int vth, .ref dW, .ref dA, .ref dQ, .ref dM, .ref dS, .ref dL, .ref dR, .ref dT, .ref dZ, .ref dI, .ref dH, .ref dN, .ref dK, .ref dJ, .ref dU, .ref dO, .int vpk, .int vpc, .ref dF, .ref dP, .ref dE, .ref dX, .ref dY, .int vnx, .int vgv, .ref dG])) := by rw [ef256, va_up_ne _ _ n259]; exact h210
            have h260 : f208 dM = some (.inl (cI G, 2, .inl gM)) := by rw [ef208, va_up_ne _ _ nd_dM_dZ]; exact k_dM
            have h261 : f256 dM = some (.inl (cI G, 2, .inl gM)) := by rw [ef256, va_up_ne _ _ nd_dM_dS]; exact h260
            have n263 : dA ≠ dZ := hneL k_dA k_dZ (Nat.ne_of_beq_eq_false rfl)
            have h262 : f208 dA = some (.inl (cI G, 12, .inl gA)) := by rw [ef208, va_up_ne _ _ n263]; exact k_dA
            have n265 : dA ≠ dS := hneL k_dA k_dS (Nat.ne_of_beq_eq_false rfl)
            have h264 : f256 dA = some (.inl (cI G, 12, .inl gA)) := by rw [ef256, va_up_ne _ _ n265]; exact h262
            have n267 : dQ ≠ dZ := hneL k_dQ k_dZ (Nat.ne_of_beq_eq_false rfl)
            have h266 : f208 dQ = some (.inl (cI G, 12, .inl gQ)) := by rw [ef208, va_up_ne _ _ n267]; exact k_dQ
            have n269 : dQ ≠ dS := hneL k_dQ k_dS (Nat.ne_of_beq_eq_false rfl)
            have h268 : f256 dQ = some (.inl (cI G, 12, .inl gQ)) := by rw [ef256, va_up_ne _ _ n269]; exact h266
            have h270 : f208 dL = some (.inl (cI G, 2, .inl gL)) := by rw [ef208, va_up_ne _ _ nd_dL_dZ]; exact k_dL
            have h271 : f256 dL = some (.inl (cI G, 2, .inl gL)) := by rw [ef256, va_up_ne _ _ (Ne.symm nd_dS_dL)]; exact h270
            have h272 : f208 dR = some (.inl (cI G, 2, .inl gR)) := by rw [ef208, va_up_ne _ _ nd_dR_dZ]; exact k_dR
            have h273 : f256 dR = some (.inl (cI G, 2, .inl gR)) := by rw [ef256, va_up_ne _ _ (Ne.symm nd_dS_dR)]; exact h272
            have h274 : f208 dT = some (.inl (cI G, 2, .inl gT)) := by rw [ef208, va_up_ne _ _ nd_dT_dZ]; exact k_dT
            have h275 : f256 dT = some (.inl (cI G, 2, .inl gT)) := by rw [ef256, va_up_ne _ _ (Ne.symm nd_dS_dT)]; exact h274
            have h276 : f256 dZ = some (.inl (cZ G, 2, .inl (upd gZ (0 : Int32).toNatClampNeg (vp_nar .boolean 1)))) := by rw [ef256, va_up_ne _ _ (Ne.symm nd_dS_dZ)]; exact h209
            have h277 : f208 dI = some (.inl (cI G, 2, .inl gI)) := by rw [ef208, va_up_ne _ _ (Ne.symm nd_dZ_dI)]; exact k_dI
            have h278 : f256 dI = some (.inl (cI G, 2, .inl gI)) := by rw [ef256, va_up_ne _ _ (Ne.symm nd_dS_dI)]; exact h277
            have h279 : f208 dH = some (.inl (cI G, 2, .inl gH)) := by rw [ef208, va_up_ne _ _ (Ne.symm nd_dZ_dH)]; exact k_dH
            have h280 : f256 dH = some (.inl (cI G, 2, .inl gH)) := by rw [ef256, va_up_ne _ _ (Ne.symm nd_dS_dH)]; exact h279
            have h281 : f208 dN = some (.inl (cI G, 2, .inl gN)) := by rw [ef208, va_up_ne _ _ (Ne.symm nd_dZ_dN)]; exact k_dN
            have h282 : f256 dN = some (.inl (cI G, 2, .inl gN)) := by rw [ef256, va_up_ne _ _ (Ne.symm nd_dS_dN)]; exact h281
            have n284 : dK ≠ dZ := hneL k_dK k_dZ (Nat.ne_of_beq_eq_false rfl)
            have h283 : f208 dK = some (.inl (cI G, 2048, .inl gK)) := by rw [ef208, va_up_ne _ _ n284]; exact k_dK
            have n286 : dK ≠ dS := hneL k_dK k_dS (Nat.ne_of_beq_eq_false rfl)
            have h285 : f256 dK = some (.inl (cI G, 2048, .inl gK)) := by rw [ef256, va_up_ne _ _ n286]; exact h283
            have n288 : dJ ≠ dZ := hneL k_dJ k_dZ (Nat.ne_of_beq_eq_false rfl)
            have h287 : f208 dJ = some (.inl (cI G, 2048, .inl gJ)) := by rw [ef208, va_up_ne _ _ n288]; exact k_dJ
            have n290 : dJ ≠ dS := hneL k_dJ k_dS (Nat.ne_of_beq_eq_false rfl)
            have h289 : f256 dJ = some (.inl (cI G, 2048, .inl gJ)) := by rw [ef256, va_up_ne _ _ n290]; exact h287
            have n292 : dU ≠ dZ := hneL k_dU k_dZ (Nat.ne_of_beq_eq_false rfl)
            have h291 : f208 dU = some (.inl (cI G, 2048, .inl gU)) := by rw [ef208, va_up_ne _ _ n292]; exact k_dU
            have n294 : dU ≠ dS := hneL k_dU k_dS (Nat.ne_of_beq_eq_false rfl)
            have h293 : f256 dU = some (.inl (cI G, 2048, .inl gU)) := by rw [ef256, va_up_ne _ _ n294]; exact h291
            have n296 : dO ≠ dZ := hneL k_dO k_dZ (Nat.ne_of_beq_eq_false rfl)
            have h295 : f208 dO = some (.inl (cI G, 2048, .inl gO)) := by rw [ef208, va_up_ne _ _ n296]; exact k_dO
            have n298 : dO ≠ dS := hneL k_dO k_dS (Nat.ne_of_beq_eq_false rfl)
            have h297 : f256 dO = some (.inl (cI G, 2048, .inl gO)) := by rw [ef256, va_up_ne _ _ n298]; exact h295
            refine hp_V (ci := 5) (As := [.int 0]) (rest := []) B0 hw hS (c_W5_begs hl G f256 mo dW dA dQ dM dS dL dR dT dZ dI dH dN dK dJ dU dO dF dP dE dX dY dG vth vpk vpc vnx vgv h258 hND gM gA h261 h264 hSA B ⟨_, _, _, _, _, _, _, _, _, _, _, _, _, h268, h257, h271, h273, h275, h276, h278, h280, h282, h285, h289, h293, h297, hHd9, (hMn.mono hMn9 (by omega))⟩ (by omega) 0 (Or.inl rfl)) mV_X5_begs qM_X5_107 rfl h258 rfl rfl hl9.1 (Nat.le_of_ble_eq_true rfl) ⟨⟨Nat.le_of_ble_eq_true rfl, Nat.le_of_ble_eq_true rfl⟩, Nat.le_of_ble_eq_true rfl, Nat.le_of_ble_eq_true rfl⟩ dX5_comesRequest_68 (fun E ce q9 f299 H locs hPX hw hS hce hcv hcl => ?_) (fun v f299 H locs hP hw hS => ?_)
            · exact hPX.elim
            · obtain ⟨hv9, hr9⟩ := hP
              rcases hv9 with ev9 | ev9
              · have hP := And.intro ev9 hr9
                obtain ⟨ev8, h301, k302⟩ := hP
                have h301L := h301
                obtain ⟨gQ_n300, gS_n300, gL_n300, gR_n300, gT_n300, gZ_n300, gI_n300, gH_n300, gN_n300, gK_n300, gJ_n300, gU_n300, gO_n300, k_dQ_n300, k_dS_n300, k_dL_n300, k_dR_n300, k_dT_n300, k_dZ_n300, k_dI_n300, k_dH_n300, k_dN_n300, k_dK_n300, k_dJ_n300, k_dU_n300, k_dO_n300, hHd9_n300, hMn9_n300⟩ := id h301
                subst ev8
                refine W.eq (g2 := F0 m 71 ls [.int 0]) rfl ?_
                refine lv_pop hx hb dX5_comesRequest_71 rfl ?_
                refine lv_aload_n hx hb dX5_comesRequest_72 rfl (lv_at hl9 0 rfl) ?_
                have n304 : mo ≠ dO := hne k_mo k_dO (Nat.ne_of_beq_eq_false rfl)
                have n305 : mo ≠ dU := hne k_mo k_dU (Nat.ne_of_beq_eq_false rfl)
                have n306 : mo ≠ dJ := hne k_mo k_dJ (Nat.ne_of_beq_eq_false rfl)
                have n307 : mo ≠ dK := hne k_mo k_dK (Nat.ne_of_beq_eq_false rfl)
                have n308 : mo ≠ dN := hne k_mo k_dN (Nat.ne_of_beq_eq_false rfl)
                have n309 : mo ≠ dH := hne k_mo k_dH (Nat.ne_of_beq_eq_false rfl)
                have n310 : mo ≠ dI := hne k_mo k_dI (Nat.ne_of_beq_eq_false rfl)
                have n311 : mo ≠ dT := hne k_mo k_dT (Nat.ne_of_beq_eq_false rfl)
                have n312 : mo ≠ dR := hne k_mo k_dR (Nat.ne_of_beq_eq_false rfl)
                have n313 : mo ≠ dL := hne k_mo k_dL (Nat.ne_of_beq_eq_false rfl)
                have n314 : mo ≠ dQ := hne k_mo k_dQ (Nat.ne_of_beq_eq_false rfl)
                have h303 : f299 mo = some (.inr (5, [.int vth, .ref dW, .ref dA, .ref dQ, .ref dM, .ref dS, .ref dL, .ref dR, .ref dT, .ref dZ, .ref dI, .ref dH, .ref dN, .ref dK, .ref dJ, .ref dU, .ref dO, .int vpk, .int vpc, .ref dF, .ref dP, .ref dE, .ref dX, .ref dY, .int vnx, .int vgv, .ref dG])) := (hEq.k k302) _ _ h258 (ninc n314 (ninc n259 (ninc n313 (ninc n312 (ninc n311 (ninc n211 (ninc n310 (ninc n309 (ninc n308 (ninc n307 (ninc n306 (ninc n305 (ninc n304 nin0)))))))))))))
                refine hp_get B0 hw 5 rfl in_X5 h303 5 (by decide) qF_X5_22 rfl dX5_comesRequest_73 ?_
                refine lv_iload_n hx hb dX5_comesRequest_76 rfl (lv_at hl9 1 rfl) ?_
                refine hp_iald B0 hw k_dS_n300 (by unfold vp_in; decide) dX5_comesRequest_77 ?_
                refine lv_if_eq (tgt := 89) hx hb dX5_comesRequest_78 (by decide) (fun c315 => ?_) (fun c315 => ?_)
                · exact hp_vret B0 hw hS hr ⟨Nat.le_of_ble_eq_true rfl, Nat.le_of_ble_eq_true rfl⟩ dX5_comesRequest_89 (⟨rfl, ⟨_, _, _, _, _, _, _, _, _, _, _, _, _, k_dQ_n300, k_dS_n300, k_dL_n300, k_dR_n300, k_dT_n300, k_dZ_n300, k_dI_n300, k_dH_n300, k_dN_n300, k_dK_n300, k_dJ_n300, k_dU_n300, k_dO_n300, hHd9_n300, (hMn.mono hMn9_n300 (by omega))⟩, ((show hEq [dQ, dS, dL, dR, dT, dZ, dI, dH, dN, dK, dJ, dU, dO] f f208 from (by rw [ef208]; exact hEq.up (List.mem_cons_of_mem _ (List.mem_cons_of_mem _ (List.mem_cons_of_mem _ (List.mem_cons_of_mem _ (List.mem_cons_of_mem _ List.mem_cons_self))))))).tr ((show hEq [dQ, dS, dL, dR, dT, dZ, dI, dH, dN, dK, dJ, dU, dO] f208 f256 from (by rw [ef256]; exact hEq.up (List.mem_cons_of_mem _ List.mem_cons_self))).tr (show hEq [dQ, dS, dL, dR, dT, dZ, dI, dH, dN, dK, dJ, dU, dO] f256 f299 from (hEq.mono k302 (fun _ h9 => h9)))))⟩)
                · refine lv_aload_n hx hb dX5_comesRequest_81 rfl (lv_at hl9 0 rfl) ?_
                  refine lv_iload_n hx hb dX5_comesRequest_82 rfl (lv_at hl9 1 rfl) ?_
                  refine lv_iload_n hx hb dX5_comesRequest_83 rfl (lv_at hl9 2 rfl) ?_
                  refine lv_iload hx hb dX5_comesRequest_84 (lv_at hl9 4 rfl) ?_
                  have n317 : dM ≠ dO := hneL k_dM k_dO (Nat.ne_of_beq_eq_false rfl)
                  have n318 : dM ≠ dU := hneL k_dM k_dU (Nat.ne_of_beq_eq_false rfl)
                  have n319 : dM ≠ dJ := hneL k_dM k_dJ (Nat.ne_of_beq_eq_false rfl)
                  have n320 : dM ≠ dK := hneL k_dM k_dK (Nat.ne_of_beq_eq_false rfl)
                  have n321 : dM ≠ dQ := hneL k_dM k_dQ (Nat.ne_of_beq_eq_false rfl)
                  have h316 : f299 dM = some (.inl (cI G, 2, .inl gM)) := (hEq.k k302) _ _ h261 (ninc n321 (ninc nd_dM_dS (ninc nd_dM_dL (ninc nd_dM_dR (ninc nd_dM_dT (ninc nd_dM_dZ (ninc nd_dM_dI (ninc nd_dM_dH (ninc nd_dM_dN (ninc n320 (ninc n319 (ninc n318 (ninc n317 nin0)))))))))))))
                  have n323 : dA ≠ dO := hneL k_dA k_dO (Nat.ne_of_beq_eq_false rfl)
                  have n324 : dA ≠ dU := hneL k_dA k_dU (Nat.ne_of_beq_eq_false rfl)
                  have n325 : dA ≠ dJ := hneL k_dA k_dJ (Nat.ne_of_beq_eq_false rfl)
                  have n326 : dA ≠ dK := hneL k_dA k_dK (Nat.ne_of_beq_eq_false rfl)
                  have n327 : dA ≠ dN := hneL k_dA k_dN (Nat.ne_of_beq_eq_false rfl)
                  have n328 : dA ≠ dH := hneL k_dA k_dH (Nat.ne_of_beq_eq_false rfl)
                  have n329 : dA ≠ dI := hneL k_dA k_dI (Nat.ne_of_beq_eq_false rfl)
                  have n330 : dA ≠ dT := hneL k_dA k_dT (Nat.ne_of_beq_eq_false rfl)
                  have n331 : dA ≠ dR := hneL k_dA k_dR (Nat.ne_of_beq_eq_false rfl)
                  have n332 : dA ≠ dL := hneL k_dA k_dL (Nat.ne_of_beq_eq_false rfl)
                  have h322 : f299 dA = some (.inl (cI G, 12, .inl gA)) := (hEq.k k302) _ _ h264 (ninc nd_dA_dQ (ninc n265 (ninc n332 (ninc n331 (ninc n330 (ninc n263 (ninc n329 (ninc n328 (ninc n327 (ninc n326 (ninc n325 (ninc n324 (ninc n323 nin0)))))))))))))
                  refine hp_V (ci := 5) (As := [.int 0, .int i, .int o]) (rest := []) B0 hw hS (c_W5_answers hl G f299 mo dW dA dQ dM dS dL dR dT dZ dI dH dN dK dJ dU dO dF dP dE dX dY dG vth vpk vpc vnx vgv h303 hND gM gA h316 h322 hSA (B + 1) ⟨_, _, _, _, _, _, _, _, _, _, _, _, _, k_dQ_n300, k_dS_n300, k_dL_n300, k_dR_n300, k_dT_n300, k_dZ_n300, k_dI_n300, k_dH_n300, k_dN_n300, k_dK_n300, k_dJ_n300, k_dU_n300, k_dO_n300, hHd9_n300, (hMn.mono hMn9_n300 (by omega))⟩ (by omega) 0 i o (Or.inl rfl)) mV_X5_answers qM_X5_110 rfl h303 rfl rfl hl9.1 (Nat.le_of_ble_eq_true rfl) ⟨⟨Nat.le_of_ble_eq_true rfl, Nat.le_of_ble_eq_true rfl⟩, Nat.le_of_ble_eq_true rfl, Nat.le_of_ble_eq_true rfl⟩ dX5_comesRequest_86 (fun E ce q9 f333 H locs hPX hw hS hce hcv hcl => ?_) (fun v f333 H locs hP hw hS => ?_)
                  · exact hPX.elim
                  · obtain ⟨ev9, h335, k336⟩ := hP
                    have h335L := h335
                    obtain ⟨gQ_n334, gS_n334, gL_n334, gR_n334, gT_n334, gZ_n334, gI_n334, gH_n334, gN_n334, gK_n334, gJ_n334, gU_n334, gO_n334, k_dQ_n334, k_dS_n334, k_dL_n334, k_dR_n334, k_dT_n334, k_dZ_n334, k_dI_n334, k_dH_n334, k_dN_n334, k_dK_n334, k_dJ_n334, k_dU_n334, k_dO_n334, hHd9_n334, hMn9_n334⟩ := id h335
                    subst ev9
                    refine W.eq (g2 := F0 m 89 ls []) rfl ?_
                    exact hp_vret B0 hw hS hr ⟨Nat.le_of_ble_eq_true rfl, Nat.le_of_ble_eq_true rfl⟩ dX5_comesRequest_89 (⟨rfl, ⟨_, _, _, _, _, _, _, _, _, _, _, _, _, k_dQ_n334, k_dS_n334, k_dL_n334, k_dR_n334, k_dT_n334, k_dZ_n334, k_dI_n334, k_dH_n334, k_dN_n334, k_dK_n334, k_dJ_n334, k_dU_n334, k_dO_n334, hHd9_n334, (hMn.mono hMn9_n334 (by omega))⟩, ((show hEq [dQ, dS, dL, dR, dT, dZ, dI, dH, dN, dK, dJ, dU, dO] f f208 from (by rw [ef208]; exact hEq.up (List.mem_cons_of_mem _ (List.mem_cons_of_mem _ (List.mem_cons_of_mem _ (List.mem_cons_of_mem _ (List.mem_cons_of_mem _ List.mem_cons_self))))))).tr ((show hEq [dQ, dS, dL, dR, dT, dZ, dI, dH, dN, dK, dJ, dU, dO] f208 f256 from (by rw [ef256]; exact hEq.up (List.mem_cons_of_mem _ List.mem_cons_self))).tr ((show hEq [dQ, dS, dL, dR, dT, dZ, dI, dH, dN, dK, dJ, dU, dO] f256 f299 from (hEq.mono k302 (fun _ h9 => h9))).tr (show hEq [dQ, dS, dL, dR, dT, dZ, dI, dH, dN, dK, dJ, dU, dO] f299 f333 from (hEq.mono k336 (fun _ h9 => h9))))))⟩)
              · have hP := And.intro ev9 hr9
                obtain ⟨ev8, h338, k339⟩ := hP
                have h338L := h338
                obtain ⟨gQ_n337, gS_n337, gL_n337, gR_n337, gT_n337, gZ_n337, gI_n337, gH_n337, gN_n337, gK_n337, gJ_n337, gU_n337, gO_n337, k_dQ_n337, k_dS_n337, k_dL_n337, k_dR_n337, k_dT_n337, k_dZ_n337, k_dI_n337, k_dH_n337, k_dN_n337, k_dK_n337, k_dJ_n337, k_dU_n337, k_dO_n337, hHd9_n337, hMn9_n337⟩ := id h338
                subst ev8
                refine W.eq (g2 := F0 m 71 ls [.int 1]) rfl ?_
                refine lv_pop hx hb dX5_comesRequest_71 rfl ?_
                refine lv_aload_n hx hb dX5_comesRequest_72 rfl (lv_at hl9 0 rfl) ?_
                have n341 : mo ≠ dO := hne k_mo k_dO (Nat.ne_of_beq_eq_false rfl)
                have n342 : mo ≠ dU := hne k_mo k_dU (Nat.ne_of_beq_eq_false rfl)
                have n343 : mo ≠ dJ := hne k_mo k_dJ (Nat.ne_of_beq_eq_false rfl)
                have n344 : mo ≠ dK := hne k_mo k_dK (Nat.ne_of_beq_eq_false rfl)
                have n345 : mo ≠ dN := hne k_mo k_dN (Nat.ne_of_beq_eq_false rfl)
                have n346 : mo ≠ dH := hne k_mo k_dH (Nat.ne_of_beq_eq_false rfl)
                have n347 : mo ≠ dI := hne k_mo k_dI (Nat.ne_of_beq_eq_false rfl)
                have n348 : mo ≠ dT := hne k_mo k_dT (Nat.ne_of_beq_eq_false rfl)
                have n349 : mo ≠ dR := hne k_mo k_dR (Nat.ne_of_beq_eq_false rfl)
                have n350 : mo ≠ dL := hne k_mo k_dL (Nat.ne_of_beq_eq_false rfl)
                have n351 : mo ≠ dQ := hne k_mo k_dQ (Nat.ne_of_beq_eq_false rfl)
                have h340 : f299 mo = some (.inr (5, [.int vth, .ref dW, .ref dA, .ref dQ, .ref dM, .ref dS, .ref dL, .ref dR, .ref dT, .ref dZ, .ref dI, .ref dH, .ref dN, .ref dK, .ref dJ, .ref dU, .ref dO, .int vpk, .int vpc, .ref dF, .ref dP, .ref dE, .ref dX, .ref dY, .int vnx, .int vgv, .ref dG])) := (hEq.k k339) _ _ h258 (ninc n351 (ninc n259 (ninc n350 (ninc n349 (ninc n348 (ninc n211 (ninc n347 (ninc n346 (ninc n345 (ninc n344 (ninc n343 (ninc n342 (ninc n341 nin0)))))))))))))
                refine hp_get B0 hw 5 rfl in_X5 h340 5 (by decide) qF_X5_22 rfl dX5_comesRequest_73 ?_
                refine lv_iload_n hx hb dX5_comesRequest_76 rfl (lv_at hl9 1 rfl) ?_
                refine hp_iald B0 hw k_dS_n337 (by unfold vp_in; decide) dX5_comesRequest_77 ?_
                refine lv_if_eq (tgt := 89) hx hb dX5_comesRequest_78 (by decide) (fun c352 => ?_) (fun c352 => ?_)
                · exact hp_vret B0 hw hS hr ⟨Nat.le_of_ble_eq_true rfl, Nat.le_of_ble_eq_true rfl⟩ dX5_comesRequest_89 (⟨rfl, ⟨_, _, _, _, _, _, _, _, _, _, _, _, _, k_dQ_n337, k_dS_n337, k_dL_n337, k_dR_n337, k_dT_n337, k_dZ_n337, k_dI_n337, k_dH_n337, k_dN_n337, k_dK_n337, k_dJ_n337, k_dU_n337, k_dO_n337, hHd9_n337, (hMn.mono hMn9_n337 (by omega))⟩, ((show hEq [dQ, dS, dL, dR, dT, dZ, dI, dH, dN, dK, dJ, dU, dO] f f208 from (by rw [ef208]; exact hEq.up (List.mem_cons_of_mem _ (List.mem_cons_of_mem _ (List.mem_cons_of_mem _ (List.mem_cons_of_mem _ (List.mem_cons_of_mem _ List.mem_cons_self))))))).tr ((show hEq [dQ, dS, dL, dR, dT, dZ, dI, dH, dN, dK, dJ, dU, dO] f208 f256 from (by rw [ef256]; exact hEq.up (List.mem_cons_of_mem _ List.mem_cons_self))).tr (show hEq [dQ, dS, dL, dR, dT, dZ, dI, dH, dN, dK, dJ, dU, dO] f256 f299 from (hEq.mono k339 (fun _ h9 => h9)))))⟩)
                · refine lv_aload_n hx hb dX5_comesRequest_81 rfl (lv_at hl9 0 rfl) ?_
                  refine lv_iload_n hx hb dX5_comesRequest_82 rfl (lv_at hl9 1 rfl) ?_
                  refine lv_iload_n hx hb dX5_comesRequest_83 rfl (lv_at hl9 2 rfl) ?_
                  refine lv_iload hx hb dX5_comesRequest_84 (lv_at hl9 4 rfl) ?_
                  have n354 : dM ≠ dO := hneL k_dM k_dO (Nat.ne_of_beq_eq_false rfl)
                  have n355 : dM ≠ dU := hneL k_dM k_dU (Nat.ne_of_beq_eq_false rfl)
                  have n356 : dM ≠ dJ := hneL k_dM k_dJ (Nat.ne_of_beq_eq_false rfl)
                  have n357 : dM ≠ dK := hneL k_dM k_dK (Nat.ne_of_beq_eq_false rfl)
                  have n358 : dM ≠ dQ := hneL k_dM k_dQ (Nat.ne_of_beq_eq_false rfl)
                  have h353 : f299 dM = some (.inl (cI G, 2, .inl gM)) := (hEq.k k339) _ _ h261 (ninc n358 (ninc nd_dM_dS (ninc nd_dM_dL (ninc nd_dM_dR (ninc nd_dM_dT (ninc nd_dM_dZ (ninc nd_dM_dI (ninc nd_dM_dH (ninc nd_dM_dN (ninc n357 (ninc n356 (ninc n355 (ninc n354 nin0)))))))))))))
                  have n360 : dA ≠ dO := hneL k_dA k_dO (Nat.ne_of_beq_eq_false rfl)
                  have n361 : dA ≠ dU := hneL k_dA k_dU (Nat.ne_of_beq_eq_false rfl)
                  have n362 : dA ≠ dJ := hneL k_dA k_dJ (Nat.ne_of_beq_eq_false rfl)
                  have n363 : dA ≠ dK := hneL k_dA k_dK (Nat.ne_of_beq_eq_false rfl)
                  have n364 : dA ≠ dN := hneL k_dA k_dN (Nat.ne_of_beq_eq_false rfl)
                  have n365 : dA ≠ dH := hneL k_dA k_dH (Nat.ne_of_beq_eq_false rfl)
                  have n366 : dA ≠ dI := hneL k_dA k_dI (Nat.ne_of_beq_eq_false rfl)
                  have n367 : dA ≠ dT := hneL k_dA k_dT (Nat.ne_of_beq_eq_false rfl)
                  have n368 : dA ≠ dR := hneL k_dA k_dR (Nat.ne_of_beq_eq_false rfl)
                  have n369 : dA ≠ dL := hneL k_dA k_dL (Nat.ne_of_beq_eq_false rfl)
                  have h359 : f299 dA = some (.inl (cI G, 12, .inl gA)) := (hEq.k k339) _ _ h264 (ninc nd_dA_dQ (ninc n265 (ninc n369 (ninc n368 (ninc n367 (ninc n263 (ninc n366 (ninc n365 (ninc n364 (ninc n363 (ninc n362 (ninc n361 (ninc n360 nin0)))))))))))))
                  refine hp_V (ci := 5) (As := [.int 0, .int i, .int o]) (rest := []) B0 hw hS (c_W5_answers hl G f299 mo dW dA dQ dM dS dL dR dT dZ dI dH dN dK dJ dU dO dF dP dE dX dY dG vth vpk vpc vnx vgv h340 hND gM gA h353 h359 hSA (B + 1) ⟨_, _, _, _, _, _, _, _, _, _, _, _, _, k_dQ_n337, k_dS_n337, k_dL_n337, k_dR_n337, k_dT_n337, k_dZ_n337, k_dI_n337, k_dH_n337, k_dN_n337, k_dK_n337, k_dJ_n337, k_dU_n337, k_dO_n337, hHd9_n337, (hMn.mono hMn9_n337 (by omega))⟩ (by omega) 0 i o (Or.inl rfl)) mV_X5_answers qM_X5_110 rfl h340 rfl rfl hl9.1 (Nat.le_of_ble_eq_true rfl) ⟨⟨Nat.le_of_ble_eq_true rfl, Nat.le_of_ble_eq_true rfl⟩, Nat.le_of_ble_eq_true rfl, Nat.le_of_ble_eq_true rfl⟩ dX5_comesRequest_86 (fun E ce q9 f370 H locs hPX hw hS hce hcv hcl => ?_) (fun v f370 H locs hP hw hS => ?_)
                  · exact hPX.elim
                  · obtain ⟨ev9, h372, k373⟩ := hP
                    have h372L := h372
                    obtain ⟨gQ_n371, gS_n371, gL_n371, gR_n371, gT_n371, gZ_n371, gI_n371, gH_n371, gN_n371, gK_n371, gJ_n371, gU_n371, gO_n371, k_dQ_n371, k_dS_n371, k_dL_n371, k_dR_n371, k_dT_n371, k_dZ_n371, k_dI_n371, k_dH_n371, k_dN_n371, k_dK_n371, k_dJ_n371, k_dU_n371, k_dO_n371, hHd9_n371, hMn9_n371⟩ := id h372
                    subst ev9
                    refine W.eq (g2 := F0 m 89 ls []) rfl ?_
                    exact hp_vret B0 hw hS hr ⟨Nat.le_of_ble_eq_true rfl, Nat.le_of_ble_eq_true rfl⟩ dX5_comesRequest_89 (⟨rfl, ⟨_, _, _, _, _, _, _, _, _, _, _, _, _, k_dQ_n371, k_dS_n371, k_dL_n371, k_dR_n371, k_dT_n371, k_dZ_n371, k_dI_n371, k_dH_n371, k_dN_n371, k_dK_n371, k_dJ_n371, k_dU_n371, k_dO_n371, hHd9_n371, (hMn.mono hMn9_n371 (by omega))⟩, ((show hEq [dQ, dS, dL, dR, dT, dZ, dI, dH, dN, dK, dJ, dU, dO] f f208 from (by rw [ef208]; exact hEq.up (List.mem_cons_of_mem _ (List.mem_cons_of_mem _ (List.mem_cons_of_mem _ (List.mem_cons_of_mem _ (List.mem_cons_of_mem _ List.mem_cons_self))))))).tr ((show hEq [dQ, dS, dL, dR, dT, dZ, dI, dH, dN, dK, dJ, dU, dO] f208 f256 from (by rw [ef256]; exact hEq.up (List.mem_cons_of_mem _ List.mem_cons_self))).tr ((show hEq [dQ, dS, dL, dR, dT, dZ, dI, dH, dN, dK, dJ, dU, dO] f256 f299 from (hEq.mono k339 (fun _ h9 => h9))).tr (show hEq [dQ, dS, dL, dR, dT, dZ, dI, dH, dN, dK, dJ, dU, dO] f299 f370 from (hEq.mono k373 (fun _ h9 => h9))))))⟩)
        · refine lv_aload_n hx hb dX5_comesRequest_40 rfl (lv_at hl9 0 rfl) ?_
          refine lv_iload_n hx hb dX5_comesRequest_41 rfl (lv_at hl9 1 rfl) ?_
          refine lv_iconst (v := 4) hx hb dX5_comesRequest_42 (by decide) ?_
          refine lv_iconst (v := 0) hx hb dX5_comesRequest_43 (by decide) ?_
          refine lv_iconst (v := 0) hx hb dX5_comesRequest_44 (by decide) ?_
          have h374 : f208 dM = some (.inl (cI G, 2, .inl gM)) := by rw [ef208, va_up_ne _ _ nd_dM_dZ]; exact k_dM
          have n376 : dA ≠ dZ := hneL k_dA k_dZ (Nat.ne_of_beq_eq_false rfl)
          have h375 : f208 dA = some (.inl (cI G, 12, .inl gA)) := by rw [ef208, va_up_ne _ _ n376]; exact k_dA
          have n378 : dQ ≠ dZ := hneL k_dQ k_dZ (Nat.ne_of_beq_eq_false rfl)
          have h377 : f208 dQ = some (.inl (cI G, 12, .inl gQ)) := by rw [ef208, va_up_ne _ _ n378]; exact k_dQ
          have h379 : f208 dL = some (.inl (cI G, 2, .inl gL)) := by rw [ef208, va_up_ne _ _ nd_dL_dZ]; exact k_dL
          have h380 : f208 dR = some (.inl (cI G, 2, .inl gR)) := by rw [ef208, va_up_ne _ _ nd_dR_dZ]; exact k_dR
          have h381 : f208 dT = some (.inl (cI G, 2, .inl gT)) := by rw [ef208, va_up_ne _ _ nd_dT_dZ]; exact k_dT
          have h382 : f208 dI = some (.inl (cI G, 2, .inl gI)) := by rw [ef208, va_up_ne _ _ (Ne.symm nd_dZ_dI)]; exact k_dI
          have h383 : f208 dH = some (.inl (cI G, 2, .inl gH)) := by rw [ef208, va_up_ne _ _ (Ne.symm nd_dZ_dH)]; exact k_dH
          have h384 : f208 dN = some (.inl (cI G, 2, .inl gN)) := by rw [ef208, va_up_ne _ _ (Ne.symm nd_dZ_dN)]; exact k_dN
          have n386 : dK ≠ dZ := hneL k_dK k_dZ (Nat.ne_of_beq_eq_false rfl)
          have h385 : f208 dK = some (.inl (cI G, 2048, .inl gK)) := by rw [ef208, va_up_ne _ _ n386]; exact k_dK
          have n388 : dJ ≠ dZ := hneL k_dJ k_dZ (Nat.ne_of_beq_eq_false rfl)
          have h387 : f208 dJ = some (.inl (cI G, 2048, .inl gJ)) := by rw [ef208, va_up_ne _ _ n388]; exact k_dJ
          have n390 : dU ≠ dZ := hneL k_dU k_dZ (Nat.ne_of_beq_eq_false rfl)
          have h389 : f208 dU = some (.inl (cI G, 2048, .inl gU)) := by rw [ef208, va_up_ne _ _ n390]; exact k_dU
          have n392 : dO ≠ dZ := hneL k_dO k_dZ (Nat.ne_of_beq_eq_false rfl)
          have h391 : f208 dO = some (.inl (cI G, 2048, .inl gO)) := by rw [ef208, va_up_ne _ _ n392]; exact k_dO
          refine hp_V (ci := 5) (As := [.int 0, .int 4, .int 0, .int 0]) (rest := []) B0 hw hS (c_W5_sends hl G f208 mo dW dA dQ dM dS dL dR dT dZ dI dH dN dK dJ dU dO dF dP dE dX dY dG vth vpk vpc vnx vgv h210 hND gM gA h374 h375 hSA B ⟨_, _, _, _, _, _, _, _, _, _, _, _, _, h377, h213, h379, h380, h381, h209, h382, h383, h384, h385, h387, h389, h391, hHd9, (hMn.mono hMn9 (by omega))⟩ (by omega) 0 4 0 0 (Or.inl rfl)) mV_X5_sends qM_X5_96 rfl h210 rfl rfl hl9.1 (Nat.le_of_ble_eq_true rfl) ⟨⟨Nat.le_of_ble_eq_true rfl, Nat.le_of_ble_eq_true rfl⟩, Nat.le_of_ble_eq_true rfl, Nat.le_of_ble_eq_true rfl⟩ dX5_comesRequest_45 (fun E ce q9 f393 H locs hPX hw hS hce hcv hcl => ?_) (fun v f393 H locs hP hw hS => ?_)
          · exact hPX.elim
          · obtain ⟨ev9, h395, k396⟩ := hP
            have h395L := h395
            obtain ⟨gQ_n394, gS_n394, gL_n394, gR_n394, gT_n394, gZ_n394, gI_n394, gH_n394, gN_n394, gK_n394, gJ_n394, gU_n394, gO_n394, k_dQ_n394, k_dS_n394, k_dL_n394, k_dR_n394, k_dT_n394, k_dZ_n394, k_dI_n394, k_dH_n394, k_dN_n394, k_dK_n394, k_dJ_n394, k_dU_n394, k_dO_n394, hHd9_n394, hMn9_n394⟩ := id h395
            subst ev9
            refine W.eq (g2 := F0 m 48 ls []) rfl ?_
            exact hp_vret B0 hw hS hr ⟨Nat.le_of_ble_eq_true rfl, Nat.le_of_ble_eq_true rfl⟩ dX5_comesRequest_48 (⟨rfl, ⟨_, _, _, _, _, _, _, _, _, _, _, _, _, k_dQ_n394, k_dS_n394, k_dL_n394, k_dR_n394, k_dT_n394, k_dZ_n394, k_dI_n394, k_dH_n394, k_dN_n394, k_dK_n394, k_dJ_n394, k_dU_n394, k_dO_n394, hHd9_n394, (hMn.mono hMn9_n394 (by omega))⟩, ((show hEq [dQ, dS, dL, dR, dT, dZ, dI, dH, dN, dK, dJ, dU, dO] f f208 from (by rw [ef208]; exact hEq.up (List.mem_cons_of_mem _ (List.mem_cons_of_mem _ (List.mem_cons_of_mem _ (List.mem_cons_of_mem _ (List.mem_cons_of_mem _ List.mem_cons_self))))))).tr (show hEq [dQ, dS, dL, dR, dT, dZ, dI, dH, dN, dK, dJ, dU, dO] f208 f393 from (hEq.mono k396 (fun _ h9 => h9))))⟩)
      · have n398 : dQ ≠ dZ := hneL k_dQ k_dZ (Nat.ne_of_beq_eq_false rfl)
        have h397 : f208 dQ = some (.inl (cI G, 12, .inl gQ)) := by rw [ef208, va_up_ne _ _ n398]; exact k_dQ
        have h399 : f208 dS = some (.inl (cI G, 2, .inl gS)) := by rw [ef208, va_up_ne _ _ nd_dS_dZ]; exact k_dS
        have h400 : f208 dL = some (.inl (cI G, 2, .inl gL)) := by rw [ef208, va_up_ne _ _ nd_dL_dZ]; exact k_dL
        have h401 : f208 dR = some (.inl (cI G, 2, .inl gR)) := by rw [ef208, va_up_ne _ _ nd_dR_dZ]; exact k_dR
        have h402 : f208 dT = some (.inl (cI G, 2, .inl gT)) := by rw [ef208, va_up_ne _ _ nd_dT_dZ]; exact k_dT
        have h403 : f208 dI = some (.inl (cI G, 2, .inl gI)) := by rw [ef208, va_up_ne _ _ (Ne.symm nd_dZ_dI)]; exact k_dI
        have h404 : f208 dH = some (.inl (cI G, 2, .inl gH)) := by rw [ef208, va_up_ne _ _ (Ne.symm nd_dZ_dH)]; exact k_dH
        have h405 : f208 dN = some (.inl (cI G, 2, .inl gN)) := by rw [ef208, va_up_ne _ _ (Ne.symm nd_dZ_dN)]; exact k_dN
        have n407 : dK ≠ dZ := hneL k_dK k_dZ (Nat.ne_of_beq_eq_false rfl)
        have h406 : f208 dK = some (.inl (cI G, 2048, .inl gK)) := by rw [ef208, va_up_ne _ _ n407]; exact k_dK
        have n409 : dJ ≠ dZ := hneL k_dJ k_dZ (Nat.ne_of_beq_eq_false rfl)
        have h408 : f208 dJ = some (.inl (cI G, 2048, .inl gJ)) := by rw [ef208, va_up_ne _ _ n409]; exact k_dJ
        have n411 : dU ≠ dZ := hneL k_dU k_dZ (Nat.ne_of_beq_eq_false rfl)
        have h410 : f208 dU = some (.inl (cI G, 2048, .inl gU)) := by rw [ef208, va_up_ne _ _ n411]; exact k_dU
        have n413 : dO ≠ dZ := hneL k_dO k_dZ (Nat.ne_of_beq_eq_false rfl)
        have h412 : f208 dO = some (.inl (cI G, 2048, .inl gO)) := by rw [ef208, va_up_ne _ _ n413]; exact k_dO
        exact hp_vret B0 hw hS hr ⟨Nat.le_of_ble_eq_true rfl, Nat.le_of_ble_eq_true rfl⟩ dX5_comesRequest_30 (⟨rfl, ⟨_, _, _, _, _, _, _, _, _, _, _, _, _, h397, h399, h400, h401, h402, h209, h403, h404, h405, h406, h408, h410, h412, hHd9, (hMn.mono hMn9 (by omega))⟩, (show hEq [dQ, dS, dL, dR, dT, dZ, dI, dH, dN, dK, dJ, dU, dO] f f208 from (by rw [ef208]; exact hEq.up (List.mem_cons_of_mem _ (List.mem_cons_of_mem _ (List.mem_cons_of_mem _ (List.mem_cons_of_mem _ (List.mem_cons_of_mem _ List.mem_cons_self)))))))⟩)
  · refine lv_aload_n hx hb dX5_comesRequest_0 rfl (lv_at hl9 0 rfl) ?_
    refine hp_get B0 hw 5 rfl in_X5 k_mo 9 (by decide) qF_X5_34 rfl dX5_comesRequest_1 ?_
    refine lv_iload_n hx hb dX5_comesRequest_4 rfl (lv_at hl9 1 rfl) ?_
    refine lv_iload_n hx hb dX5_comesRequest_5 rfl (lv_at hl9 3 rfl) ?_
    refine lv_aload_n hx hb dX5_comesRequest_6 rfl (lv_at hl9 0 rfl) ?_
    refine hp_get B0 hw 5 rfl in_X5 k_mo 4 (by decide) qF_X5_19 rfl dX5_comesRequest_7 ?_
    refine lv_iload_n hx hb dX5_comesRequest_10 rfl (lv_at hl9 1 rfl) ?_
    refine hp_iald B0 hw k_dM (by unfold vp_in; decide) dX5_comesRequest_11 ?_
    refine lv_icmp_ne (tgt := 19) hx hb dX5_comesRequest_12 (by decide) (fun c414 => ?_) (fun c414 => ?_)
    · refine lv_iconst (v := 0) hx hb dX5_comesRequest_19 (by decide) ?_
      refine hp_zast B0 hw hS k_dZ (by unfold vp_in; decide) dX5_comesRequest_20 (fun H locs f415 ef415 hw hS => ?_)
      have h416 : f415 dZ = some (.inl (cZ G, 2, .inl (upd gZ (1 : Int32).toNatClampNeg (vp_nar .boolean 0)))) := by rw [ef415, va_up_self]
      refine lv_aload_n hx hb dX5_comesRequest_21 rfl (lv_at hl9 0 rfl) ?_
      have n418 : mo ≠ dZ := hne k_mo k_dZ (Nat.ne_of_beq_eq_false rfl)
      have h417 : f415 mo = some (.inr (5, [.int vth, .ref dW, .ref dA, .ref dQ, .ref dM, .ref dS, .ref dL, .ref dR, .ref dT, .ref dZ, .ref dI, .ref dH, .ref dN, .ref dK, .ref dJ, .ref dU, .ref dO, .int vpk, .int vpc, .ref dF, .ref dP, .ref dE, .ref dX, .ref dY, .int vnx, .int vgv, .ref dG])) := by rw [ef415, va_up_ne _ _ n418]; exact k_mo
      refine hp_get B0 hw 5 rfl in_X5 h417 9 (by decide) qF_X5_34 rfl dX5_comesRequest_22 ?_
      refine lv_iload_n hx hb dX5_comesRequest_25 rfl (lv_at hl9 1 rfl) ?_
      refine hp_zald B0 hw h416 (by unfold vp_in; decide) dX5_comesRequest_26 ?_
      refine lv_if_eq (tgt := 31) hx hb dX5_comesRequest_27 (by decide) (fun c419 => ?_) (fun c419 => ?_)
      · refine lv_aload_n hx hb dX5_comesRequest_31 rfl (lv_at hl9 0 rfl) ?_
        refine hp_get B0 hw 5 rfl in_X5 h417 5 (by decide) qF_X5_22 rfl dX5_comesRequest_32 ?_
        refine lv_iload_n hx hb dX5_comesRequest_35 rfl (lv_at hl9 1 rfl) ?_
        have h420 : f415 dS = some (.inl (cI G, 2, .inl gS)) := by rw [ef415, va_up_ne _ _ nd_dS_dZ]; exact k_dS
        refine hp_iald B0 hw h420 (by unfold vp_in; decide) dX5_comesRequest_36 ?_
        refine lv_if_ne (tgt := 49) hx hb dX5_comesRequest_37 (by decide) (fun c421 => ?_) (fun c421 => ?_)
        · refine lv_aload_n hx hb dX5_comesRequest_49 rfl (lv_at hl9 0 rfl) ?_
          refine hp_get B0 hw 5 rfl in_X5 h417 5 (by decide) qF_X5_22 rfl dX5_comesRequest_50 ?_
          refine lv_iload_n hx hb dX5_comesRequest_53 rfl (lv_at hl9 1 rfl) ?_
          refine hp_iald B0 hw h420 (by unfold vp_in; decide) dX5_comesRequest_54 ?_
          refine lv_iconst (v := 4) hx hb dX5_comesRequest_55 (by decide) ?_
          refine lv_icmp_ne (tgt := 72) hx hb dX5_comesRequest_56 (by decide) (fun c422 => ?_) (fun c422 => ?_)
          · refine lv_aload_n hx hb dX5_comesRequest_72 rfl (lv_at hl9 0 rfl) ?_
            refine hp_get B0 hw 5 rfl in_X5 h417 5 (by decide) qF_X5_22 rfl dX5_comesRequest_73 ?_
            refine lv_iload_n hx hb dX5_comesRequest_76 rfl (lv_at hl9 1 rfl) ?_
            refine hp_iald B0 hw h420 (by unfold vp_in; decide) dX5_comesRequest_77 ?_
            refine lv_if_eq (tgt := 89) hx hb dX5_comesRequest_78 (by decide) (fun c423 => ?_) (fun c423 => ?_)
            · have n425 : dQ ≠ dZ := hneL k_dQ k_dZ (Nat.ne_of_beq_eq_false rfl)
              have h424 : f415 dQ = some (.inl (cI G, 12, .inl gQ)) := by rw [ef415, va_up_ne _ _ n425]; exact k_dQ
              have h426 : f415 dL = some (.inl (cI G, 2, .inl gL)) := by rw [ef415, va_up_ne _ _ nd_dL_dZ]; exact k_dL
              have h427 : f415 dR = some (.inl (cI G, 2, .inl gR)) := by rw [ef415, va_up_ne _ _ nd_dR_dZ]; exact k_dR
              have h428 : f415 dT = some (.inl (cI G, 2, .inl gT)) := by rw [ef415, va_up_ne _ _ nd_dT_dZ]; exact k_dT
              have h429 : f415 dI = some (.inl (cI G, 2, .inl gI)) := by rw [ef415, va_up_ne _ _ (Ne.symm nd_dZ_dI)]; exact k_dI
              have h430 : f415 dH = some (.inl (cI G, 2, .inl gH)) := by rw [ef415, va_up_ne _ _ (Ne.symm nd_dZ_dH)]; exact k_dH
              have h431 : f415 dN = some (.inl (cI G, 2, .inl gN)) := by rw [ef415, va_up_ne _ _ (Ne.symm nd_dZ_dN)]; exact k_dN
              have n433 : dK ≠ dZ := hneL k_dK k_dZ (Nat.ne_of_beq_eq_false rfl)
              have h432 : f415 dK = some (.inl (cI G, 2048, .inl gK)) := by rw [ef415, va_up_ne _ _ n433]; exact k_dK
              have n435 : dJ ≠ dZ := hneL k_dJ k_dZ (Nat.ne_of_beq_eq_false rfl)
              have h434 : f415 dJ = some (.inl (cI G, 2048, .inl gJ)) := by rw [ef415, va_up_ne _ _ n435]; exact k_dJ
              have n437 : dU ≠ dZ := hneL k_dU k_dZ (Nat.ne_of_beq_eq_false rfl)
              have h436 : f415 dU = some (.inl (cI G, 2048, .inl gU)) := by rw [ef415, va_up_ne _ _ n437]; exact k_dU
              have n439 : dO ≠ dZ := hneL k_dO k_dZ (Nat.ne_of_beq_eq_false rfl)
              have h438 : f415 dO = some (.inl (cI G, 2048, .inl gO)) := by rw [ef415, va_up_ne _ _ n439]; exact k_dO
              exact hp_vret B0 hw hS hr ⟨Nat.le_of_ble_eq_true rfl, Nat.le_of_ble_eq_true rfl⟩ dX5_comesRequest_89 (⟨rfl, ⟨_, _, _, _, _, _, _, _, _, _, _, _, _, h424, h420, h426, h427, h428, h416, h429, h430, h431, h432, h434, h436, h438, hHd9, (hMn.mono hMn9 (by omega))⟩, (show hEq [dQ, dS, dL, dR, dT, dZ, dI, dH, dN, dK, dJ, dU, dO] f f415 from (by rw [ef415]; exact hEq.up (List.mem_cons_of_mem _ (List.mem_cons_of_mem _ (List.mem_cons_of_mem _ (List.mem_cons_of_mem _ (List.mem_cons_of_mem _ List.mem_cons_self)))))))⟩)
            · refine lv_aload_n hx hb dX5_comesRequest_81 rfl (lv_at hl9 0 rfl) ?_
              refine lv_iload_n hx hb dX5_comesRequest_82 rfl (lv_at hl9 1 rfl) ?_
              refine lv_iload_n hx hb dX5_comesRequest_83 rfl (lv_at hl9 2 rfl) ?_
              refine lv_iload hx hb dX5_comesRequest_84 (lv_at hl9 4 rfl) ?_
              have h440 : f415 dM = some (.inl (cI G, 2, .inl gM)) := by rw [ef415, va_up_ne _ _ nd_dM_dZ]; exact k_dM
              have n442 : dA ≠ dZ := hneL k_dA k_dZ (Nat.ne_of_beq_eq_false rfl)
              have h441 : f415 dA = some (.inl (cI G, 12, .inl gA)) := by rw [ef415, va_up_ne _ _ n442]; exact k_dA
              have n444 : dQ ≠ dZ := hneL k_dQ k_dZ (Nat.ne_of_beq_eq_false rfl)
              have h443 : f415 dQ = some (.inl (cI G, 12, .inl gQ)) := by rw [ef415, va_up_ne _ _ n444]; exact k_dQ
              have h445 : f415 dL = some (.inl (cI G, 2, .inl gL)) := by rw [ef415, va_up_ne _ _ nd_dL_dZ]; exact k_dL
              have h446 : f415 dR = some (.inl (cI G, 2, .inl gR)) := by rw [ef415, va_up_ne _ _ nd_dR_dZ]; exact k_dR
              have h447 : f415 dT = some (.inl (cI G, 2, .inl gT)) := by rw [ef415, va_up_ne _ _ nd_dT_dZ]; exact k_dT
              have h448 : f415 dI = some (.inl (cI G, 2, .inl gI)) := by rw [ef415, va_up_ne _ _ (Ne.symm nd_dZ_dI)]; exact k_dI
              have h449 : f415 dH = some (.inl (cI G, 2, .inl gH)) := by rw [ef415, va_up_ne _ _ (Ne.symm nd_dZ_dH)]; exact k_dH
              have h450 : f415 dN = some (.inl (cI G, 2, .inl gN)) := by rw [ef415, va_up_ne _ _ (Ne.symm nd_dZ_dN)]; exact k_dN
              have n452 : dK ≠ dZ := hneL k_dK k_dZ (Nat.ne_of_beq_eq_false rfl)
              have h451 : f415 dK = some (.inl (cI G, 2048, .inl gK)) := by rw [ef415, va_up_ne _ _ n452]; exact k_dK
              have n454 : dJ ≠ dZ := hneL k_dJ k_dZ (Nat.ne_of_beq_eq_false rfl)
              have h453 : f415 dJ = some (.inl (cI G, 2048, .inl gJ)) := by rw [ef415, va_up_ne _ _ n454]; exact k_dJ
              have n456 : dU ≠ dZ := hneL k_dU k_dZ (Nat.ne_of_beq_eq_false rfl)
              have h455 : f415 dU = some (.inl (cI G, 2048, .inl gU)) := by rw [ef415, va_up_ne _ _ n456]; exact k_dU
              have n458 : dO ≠ dZ := hneL k_dO k_dZ (Nat.ne_of_beq_eq_false rfl)
              have h457 : f415 dO = some (.inl (cI G, 2048, .inl gO)) := by rw [ef415, va_up_ne _ _ n458]; exact k_dO
              refine hp_V (ci := 5) (As := [.int 1, .int i, .int o]) (rest := []) B0 hw hS (c_W5_answers hl G f415 mo dW dA dQ dM dS dL dR dT dZ dI dH dN dK dJ dU dO dF dP dE dX dY dG vth vpk vpc vnx vgv h417 hND gM gA h440 h441 hSA B ⟨_, _, _, _, _, _, _, _, _, _, _, _, _, h443, h420, h445, h446, h447, h416, h448, h449, h450, h451, h453, h455, h457, hHd9, (hMn.mono hMn9 (by omega))⟩ (by omega) 1 i o (Or.inr rfl)) mV_X5_answers qM_X5_110 rfl h417 rfl rfl hl9.1 (Nat.le_of_ble_eq_true rfl) ⟨⟨Nat.le_of_ble_eq_true rfl, Nat.le_of_ble_eq_true rfl⟩, Nat.le_of_ble_eq_true rfl, Nat.le_of_ble_eq_true rfl⟩ dX5_comesRequest_86 (fun E ce q9 f459 H locs hPX hw hS hce hcv hcl => ?_) (fun v f459 H locs hP hw hS => ?_)
              · exact hPX.elim
              · obtain ⟨ev9, h461, k462⟩ := hP
                have h461L := h461
                obtain ⟨gQ_n460, gS_n460, gL_n460, gR_n460, gT_n460, gZ_n460, gI_n460, gH_n460, gN_n460, gK_n460, gJ_n460, gU_n460, gO_n460, k_dQ_n460, k_dS_n460, k_dL_n460, k_dR_n460, k_dT_n460, k_dZ_n460, k_dI_n460, k_dH_n460, k_dN_n460, k_dK_n460, k_dJ_n460, k_dU_n460, k_dO_n460, hHd9_n460, hMn9_n460⟩ := id h461
                subst ev9
                refine W.eq (g2 := F0 m 89 ls []) rfl ?_
                exact hp_vret B0 hw hS hr ⟨Nat.le_of_ble_eq_true rfl, Nat.le_of_ble_eq_true rfl⟩ dX5_comesRequest_89 (⟨rfl, ⟨_, _, _, _, _, _, _, _, _, _, _, _, _, k_dQ_n460, k_dS_n460, k_dL_n460, k_dR_n460, k_dT_n460, k_dZ_n460, k_dI_n460, k_dH_n460, k_dN_n460, k_dK_n460, k_dJ_n460, k_dU_n460, k_dO_n460, hHd9_n460, (hMn.mono hMn9_n460 (by omega))⟩, ((show hEq [dQ, dS, dL, dR, dT, dZ, dI, dH, dN, dK, dJ, dU, dO] f f415 from (by rw [ef415]; exact hEq.up (List.mem_cons_of_mem _ (List.mem_cons_of_mem _ (List.mem_cons_of_mem _ (List.mem_cons_of_mem _ (List.mem_cons_of_mem _ List.mem_cons_self))))))).tr (show hEq [dQ, dS, dL, dR, dT, dZ, dI, dH, dN, dK, dJ, dU, dO] f415 f459 from (hEq.mono k462 (fun _ h9 => h9))))⟩)
          · refine lv_aload_n hx hb dX5_comesRequest_59 rfl (lv_at hl9 0 rfl) ?_
            refine hp_get B0 hw 5 rfl in_X5 h417 5 (by decide) qF_X5_22 rfl dX5_comesRequest_60 ?_
            refine lv_iload_n hx hb dX5_comesRequest_63 rfl (lv_at hl9 1 rfl) ?_
            refine lv_iconst (v := 1) hx hb dX5_comesRequest_64 (by decide) ?_
            refine hp_iast B0 hw hS h420 (by unfold vp_in; decide) dX5_comesRequest_65 (fun H locs f463 ef463 hw hS => ?_)
            have h464 : f463 dS = some (.inl (cI G, 2, .inl (upd gS (1 : Int32).toNatClampNeg 1))) := by rw [ef463, va_up_self]
            refine lv_aload_n hx hb dX5_comesRequest_66 rfl (lv_at hl9 0 rfl) ?_
            refine lv_iload_n hx hb dX5_comesRequest_67 rfl (lv_at hl9 1 rfl) ?_
            have n466 : mo ≠ dS := hne k_mo k_dS (Nat.ne_of_beq_eq_false rfl)
            have h465 : f463 mo = some (.inr (5, [.int vth, .ref dW, .ref dA, .ref dQ, .ref dM, .ref dS, .ref dL, .ref dR, .ref dT, .ref dZ, .ref dI, .ref dH, .ref dN, .ref dK, .ref dJ, .ref dU, .ref dO, .int vpk, .int vpc, .ref dF, .ref dP, .ref dE, .ref dX, .ref dY, .int vnx, .int vgv, .ref dG])) := by rw [ef463, va_up_ne _ _ n466]; exact h417
            have h467 : f415 dM = some (.inl (cI G, 2, .inl gM)) := by rw [ef415, va_up_ne _ _ nd_dM_dZ]; exact k_dM
            have h468 : f463 dM = some (.inl (cI G, 2, .inl gM)) := by rw [ef463, va_up_ne _ _ nd_dM_dS]; exact h467
            have n470 : dA ≠ dZ := hneL k_dA k_dZ (Nat.ne_of_beq_eq_false rfl)
            have h469 : f415 dA = some (.inl (cI G, 12, .inl gA)) := by rw [ef415, va_up_ne _ _ n470]; exact k_dA
            have n472 : dA ≠ dS := hneL k_dA k_dS (Nat.ne_of_beq_eq_false rfl)
            have h471 : f463 dA = some (.inl (cI G, 12, .inl gA)) := by rw [ef463, va_up_ne _ _ n472]; exact h469
            have n474 : dQ ≠ dZ := hneL k_dQ k_dZ (Nat.ne_of_beq_eq_false rfl)
            have h473 : f415 dQ = some (.inl (cI G, 12, .inl gQ)) := by rw [ef415, va_up_ne _ _ n474]; exact k_dQ
            have n476 : dQ ≠ dS := hneL k_dQ k_dS (Nat.ne_of_beq_eq_false rfl)
            have h475 : f463 dQ = some (.inl (cI G, 12, .inl gQ)) := by rw [ef463, va_up_ne _ _ n476]; exact h473
            have h477 : f415 dL = some (.inl (cI G, 2, .inl gL)) := by rw [ef415, va_up_ne _ _ nd_dL_dZ]; exact k_dL
            have h478 : f463 dL = some (.inl (cI G, 2, .inl gL)) := by rw [ef463, va_up_ne _ _ (Ne.symm nd_dS_dL)]; exact h477
            have h479 : f415 dR = some (.inl (cI G, 2, .inl gR)) := by rw [ef415, va_up_ne _ _ nd_dR_dZ]; exact k_dR
            have h480 : f463 dR = some (.inl (cI G, 2, .inl gR)) := by rw [ef463, va_up_ne _ _ (Ne.symm nd_dS_dR)]; exact h479
            have h481 : f415 dT = some (.inl (cI G, 2, .inl gT)) := by rw [ef415, va_up_ne _ _ nd_dT_dZ]; exact k_dT
            have h482 : f463 dT = some (.inl (cI G, 2, .inl gT)) := by rw [ef463, va_up_ne _ _ (Ne.symm nd_dS_dT)]; exact h481
            have h483 : f463 dZ = some (.inl (cZ G, 2, .inl (upd gZ (1 : Int32).toNatClampNeg (vp_nar .boolean 0)))) := by rw [ef463, va_up_ne _ _ (Ne.symm nd_dS_dZ)]; exact h416
            have h484 : f415 dI = some (.inl (cI G, 2, .inl gI)) := by rw [ef415, va_up_ne _ _ (Ne.symm nd_dZ_dI)]; exact k_dI
            have h485 : f463 dI = some (.inl (cI G, 2, .inl gI)) := by rw [ef463, va_up_ne _ _ (Ne.symm nd_dS_dI)]; exact h484
            have h486 : f415 dH = some (.inl (cI G, 2, .inl gH)) := by rw [ef415, va_up_ne _ _ (Ne.symm nd_dZ_dH)]; exact k_dH
            have h487 : f463 dH = some (.inl (cI G, 2, .inl gH)) := by rw [ef463, va_up_ne _ _ (Ne.symm nd_dS_dH)]; exact h486
            have h488 : f415 dN = some (.inl (cI G, 2, .inl gN)) := by rw [ef415, va_up_ne _ _ (Ne.symm nd_dZ_dN)]; exact k_dN
            have h489 : f463 dN = some (.inl (cI G, 2, .inl gN)) := by rw [ef463, va_up_ne _ _ (Ne.symm nd_dS_dN)]; exact h488
            have n491 : dK ≠ dZ := hneL k_dK k_dZ (Nat.ne_of_beq_eq_false rfl)
            have h490 : f415 dK = some (.inl (cI G, 2048, .inl gK)) := by rw [ef415, va_up_ne _ _ n491]; exact k_dK
            have n493 : dK ≠ dS := hneL k_dK k_dS (Nat.ne_of_beq_eq_false rfl)
            have h492 : f463 dK = some (.inl (cI G, 2048, .inl gK)) := by rw [ef463, va_up_ne _ _ n493]; exact h490
            have n495 : dJ ≠ dZ := hneL k_dJ k_dZ (Nat.ne_of_beq_eq_false rfl)
            have h494 : f415 dJ = some (.inl (cI G, 2048, .inl gJ)) := by rw [ef415, va_up_ne _ _ n495]; exact k_dJ
            have n497 : dJ ≠ dS := hneL k_dJ k_dS (Nat.ne_of_beq_eq_false rfl)
            have h496 : f463 dJ = some (.inl (cI G, 2048, .inl gJ)) := by rw [ef463, va_up_ne _ _ n497]; exact h494
            have n499 : dU ≠ dZ := hneL k_dU k_dZ (Nat.ne_of_beq_eq_false rfl)
            have h498 : f415 dU = some (.inl (cI G, 2048, .inl gU)) := by rw [ef415, va_up_ne _ _ n499]; exact k_dU
            have n501 : dU ≠ dS := hneL k_dU k_dS (Nat.ne_of_beq_eq_false rfl)
            have h500 : f463 dU = some (.inl (cI G, 2048, .inl gU)) := by rw [ef463, va_up_ne _ _ n501]; exact h498
            have n503 : dO ≠ dZ := hneL k_dO k_dZ (Nat.ne_of_beq_eq_false rfl)
            have h502 : f415 dO = some (.inl (cI G, 2048, .inl gO)) := by rw [ef415, va_up_ne _ _ n503]; exact k_dO
            have n505 : dO ≠ dS := hneL k_dO k_dS (Nat.ne_of_beq_eq_false rfl)
            have h504 : f463 dO = some (.inl (cI G, 2048, .inl gO)) := by rw [ef463, va_up_ne _ _ n505]; exact h502
            refine hp_V (ci := 5) (As := [.int 1]) (rest := []) B0 hw hS (c_W5_begs hl G f463 mo dW dA dQ dM dS dL dR dT dZ dI dH dN dK dJ dU dO dF dP dE dX dY dG vth vpk vpc vnx vgv h465 hND gM gA h468 h471 hSA B ⟨_, _, _, _, _, _, _, _, _, _, _, _, _, h475, h464, h478, h480, h482, h483, h485, h487, h489, h492, h496, h500, h504, hHd9, (hMn.mono hMn9 (by omega))⟩ (by omega) 1 (Or.inr rfl)) mV_X5_begs qM_X5_107 rfl h465 rfl rfl hl9.1 (Nat.le_of_ble_eq_true rfl) ⟨⟨Nat.le_of_ble_eq_true rfl, Nat.le_of_ble_eq_true rfl⟩, Nat.le_of_ble_eq_true rfl, Nat.le_of_ble_eq_true rfl⟩ dX5_comesRequest_68 (fun E ce q9 f506 H locs hPX hw hS hce hcv hcl => ?_) (fun v f506 H locs hP hw hS => ?_)
            · exact hPX.elim
            · obtain ⟨hv9, hr9⟩ := hP
              rcases hv9 with ev9 | ev9
              · have hP := And.intro ev9 hr9
                obtain ⟨ev8, h508, k509⟩ := hP
                have h508L := h508
                obtain ⟨gQ_n507, gS_n507, gL_n507, gR_n507, gT_n507, gZ_n507, gI_n507, gH_n507, gN_n507, gK_n507, gJ_n507, gU_n507, gO_n507, k_dQ_n507, k_dS_n507, k_dL_n507, k_dR_n507, k_dT_n507, k_dZ_n507, k_dI_n507, k_dH_n507, k_dN_n507, k_dK_n507, k_dJ_n507, k_dU_n507, k_dO_n507, hHd9_n507, hMn9_n507⟩ := id h508
                subst ev8
                refine W.eq (g2 := F0 m 71 ls [.int 0]) rfl ?_
                refine lv_pop hx hb dX5_comesRequest_71 rfl ?_
                refine lv_aload_n hx hb dX5_comesRequest_72 rfl (lv_at hl9 0 rfl) ?_
                have n511 : mo ≠ dO := hne k_mo k_dO (Nat.ne_of_beq_eq_false rfl)
                have n512 : mo ≠ dU := hne k_mo k_dU (Nat.ne_of_beq_eq_false rfl)
                have n513 : mo ≠ dJ := hne k_mo k_dJ (Nat.ne_of_beq_eq_false rfl)
                have n514 : mo ≠ dK := hne k_mo k_dK (Nat.ne_of_beq_eq_false rfl)
                have n515 : mo ≠ dN := hne k_mo k_dN (Nat.ne_of_beq_eq_false rfl)
                have n516 : mo ≠ dH := hne k_mo k_dH (Nat.ne_of_beq_eq_false rfl)
                have n517 : mo ≠ dI := hne k_mo k_dI (Nat.ne_of_beq_eq_false rfl)
                have n518 : mo ≠ dT := hne k_mo k_dT (Nat.ne_of_beq_eq_false rfl)
                have n519 : mo ≠ dR := hne k_mo k_dR (Nat.ne_of_beq_eq_false rfl)
                have n520 : mo ≠ dL := hne k_mo k_dL (Nat.ne_of_beq_eq_false rfl)
                have n521 : mo ≠ dQ := hne k_mo k_dQ (Nat.ne_of_beq_eq_false rfl)
                have h510 : f506 mo = some (.inr (5, [.int vth, .ref dW, .ref dA, .ref dQ, .ref dM, .ref dS, .ref dL, .ref dR, .ref dT, .ref dZ, .ref dI, .ref dH, .ref dN, .ref dK, .ref dJ, .ref dU, .ref dO, .int vpk, .int vpc, .ref dF, .ref dP, .ref dE, .ref dX, .ref dY, .int vnx, .int vgv, .ref dG])) := (hEq.k k509) _ _ h465 (ninc n521 (ninc n466 (ninc n520 (ninc n519 (ninc n518 (ninc n418 (ninc n517 (ninc n516 (ninc n515 (ninc n514 (ninc n513 (ninc n512 (ninc n511 nin0)))))))))))))
                refine hp_get B0 hw 5 rfl in_X5 h510 5 (by decide) qF_X5_22 rfl dX5_comesRequest_73 ?_
                refine lv_iload_n hx hb dX5_comesRequest_76 rfl (lv_at hl9 1 rfl) ?_
                refine hp_iald B0 hw k_dS_n507 (by unfold vp_in; decide) dX5_comesRequest_77 ?_
                refine lv_if_eq (tgt := 89) hx hb dX5_comesRequest_78 (by decide) (fun c522 => ?_) (fun c522 => ?_)
                · exact hp_vret B0 hw hS hr ⟨Nat.le_of_ble_eq_true rfl, Nat.le_of_ble_eq_true rfl⟩ dX5_comesRequest_89 (⟨rfl, ⟨_, _, _, _, _, _, _, _, _, _, _, _, _, k_dQ_n507, k_dS_n507, k_dL_n507, k_dR_n507, k_dT_n507, k_dZ_n507, k_dI_n507, k_dH_n507, k_dN_n507, k_dK_n507, k_dJ_n507, k_dU_n507, k_dO_n507, hHd9_n507, (hMn.mono hMn9_n507 (by omega))⟩, ((show hEq [dQ, dS, dL, dR, dT, dZ, dI, dH, dN, dK, dJ, dU, dO] f f415 from (by rw [ef415]; exact hEq.up (List.mem_cons_of_mem _ (List.mem_cons_of_mem _ (List.mem_cons_of_mem _ (List.mem_cons_of_mem _ (List.mem_cons_of_mem _ List.mem_cons_self))))))).tr ((show hEq [dQ, dS, dL, dR, dT, dZ, dI, dH, dN, dK, dJ, dU, dO] f415 f463 from (by rw [ef463]; exact hEq.up (List.mem_cons_of_mem _ List.mem_cons_self))).tr (show hEq [dQ, dS, dL, dR, dT, dZ, dI, dH, dN, dK, dJ, dU, dO] f463 f506 from (hEq.mono k509 (fun _ h9 => h9)))))⟩)
                · refine lv_aload_n hx hb dX5_comesRequest_81 rfl (lv_at hl9 0 rfl) ?_
                  refine lv_iload_n hx hb dX5_comesRequest_82 rfl (lv_at hl9 1 rfl) ?_
                  refine lv_iload_n hx hb dX5_comesRequest_83 rfl (lv_at hl9 2 rfl) ?_
                  refine lv_iload hx hb dX5_comesRequest_84 (lv_at hl9 4 rfl) ?_
                  have n524 : dM ≠ dO := hneL k_dM k_dO (Nat.ne_of_beq_eq_false rfl)
                  have n525 : dM ≠ dU := hneL k_dM k_dU (Nat.ne_of_beq_eq_false rfl)
                  have n526 : dM ≠ dJ := hneL k_dM k_dJ (Nat.ne_of_beq_eq_false rfl)
                  have n527 : dM ≠ dK := hneL k_dM k_dK (Nat.ne_of_beq_eq_false rfl)
                  have n528 : dM ≠ dQ := hneL k_dM k_dQ (Nat.ne_of_beq_eq_false rfl)
                  have h523 : f506 dM = some (.inl (cI G, 2, .inl gM)) := (hEq.k k509) _ _ h468 (ninc n528 (ninc nd_dM_dS (ninc nd_dM_dL (ninc nd_dM_dR (ninc nd_dM_dT (ninc nd_dM_dZ (ninc nd_dM_dI (ninc nd_dM_dH (ninc nd_dM_dN (ninc n527 (ninc n526 (ninc n525 (ninc n524 nin0)))))))))))))
                  have n530 : dA ≠ dO := hneL k_dA k_dO (Nat.ne_of_beq_eq_false rfl)
                  have n531 : dA ≠ dU := hneL k_dA k_dU (Nat.ne_of_beq_eq_false rfl)
                  have n532 : dA ≠ dJ := hneL k_dA k_dJ (Nat.ne_of_beq_eq_false rfl)
                  have n533 : dA ≠ dK := hneL k_dA k_dK (Nat.ne_of_beq_eq_false rfl)
                  have n534 : dA ≠ dN := hneL k_dA k_dN (Nat.ne_of_beq_eq_false rfl)
                  have n535 : dA ≠ dH := hneL k_dA k_dH (Nat.ne_of_beq_eq_false rfl)
                  have n536 : dA ≠ dI := hneL k_dA k_dI (Nat.ne_of_beq_eq_false rfl)
                  have n537 : dA ≠ dT := hneL k_dA k_dT (Nat.ne_of_beq_eq_false rfl)
                  have n538 : dA ≠ dR := hneL k_dA k_dR (Nat.ne_of_beq_eq_false rfl)
                  have n539 : dA ≠ dL := hneL k_dA k_dL (Nat.ne_of_beq_eq_false rfl)
                  have h529 : f506 dA = some (.inl (cI G, 12, .inl gA)) := (hEq.k k509) _ _ h471 (ninc nd_dA_dQ (ninc n472 (ninc n539 (ninc n538 (ninc n537 (ninc n470 (ninc n536 (ninc n535 (ninc n534 (ninc n533 (ninc n532 (ninc n531 (ninc n530 nin0)))))))))))))
                  refine hp_V (ci := 5) (As := [.int 1, .int i, .int o]) (rest := []) B0 hw hS (c_W5_answers hl G f506 mo dW dA dQ dM dS dL dR dT dZ dI dH dN dK dJ dU dO dF dP dE dX dY dG vth vpk vpc vnx vgv h510 hND gM gA h523 h529 hSA (B + 1) ⟨_, _, _, _, _, _, _, _, _, _, _, _, _, k_dQ_n507, k_dS_n507, k_dL_n507, k_dR_n507, k_dT_n507, k_dZ_n507, k_dI_n507, k_dH_n507, k_dN_n507, k_dK_n507, k_dJ_n507, k_dU_n507, k_dO_n507, hHd9_n507, (hMn.mono hMn9_n507 (by omega))⟩ (by omega) 1 i o (Or.inr rfl)) mV_X5_answers qM_X5_110 rfl h510 rfl rfl hl9.1 (Nat.le_of_ble_eq_true rfl) ⟨⟨Nat.le_of_ble_eq_true rfl, Nat.le_of_ble_eq_true rfl⟩, Nat.le_of_ble_eq_true rfl, Nat.le_of_ble_eq_true rfl⟩ dX5_comesRequest_86 (fun E ce q9 f540 H locs hPX hw hS hce hcv hcl => ?_) (fun v f540 H locs hP hw hS => ?_)
                  · exact hPX.elim
                  · obtain ⟨ev9, h542, k543⟩ := hP
                    have h542L := h542
                    obtain ⟨gQ_n541, gS_n541, gL_n541, gR_n541, gT_n541, gZ_n541, gI_n541, gH_n541, gN_n541, gK_n541, gJ_n541, gU_n541, gO_n541, k_dQ_n541, k_dS_n541, k_dL_n541, k_dR_n541, k_dT_n541, k_dZ_n541, k_dI_n541, k_dH_n541, k_dN_n541, k_dK_n541, k_dJ_n541, k_dU_n541, k_dO_n541, hHd9_n541, hMn9_n541⟩ := id h542
                    subst ev9
                    refine W.eq (g2 := F0 m 89 ls []) rfl ?_
                    exact hp_vret B0 hw hS hr ⟨Nat.le_of_ble_eq_true rfl, Nat.le_of_ble_eq_true rfl⟩ dX5_comesRequest_89 (⟨rfl, ⟨_, _, _, _, _, _, _, _, _, _, _, _, _, k_dQ_n541, k_dS_n541, k_dL_n541, k_dR_n541, k_dT_n541, k_dZ_n541, k_dI_n541, k_dH_n541, k_dN_n541, k_dK_n541, k_dJ_n541, k_dU_n541, k_dO_n541, hHd9_n541, (hMn.mono hMn9_n541 (by omega))⟩, ((show hEq [dQ, dS, dL, dR, dT, dZ, dI, dH, dN, dK, dJ, dU, dO] f f415 from (by rw [ef415]; exact hEq.up (List.mem_cons_of_mem _ (List.mem_cons_of_mem _ (List.mem_cons_of_mem _ (List.mem_cons_of_mem _ (List.mem_cons_of_mem _ List.mem_cons_self))))))).tr ((show hEq [dQ, dS, dL, dR, dT, dZ, dI, dH, dN, dK, dJ, dU, dO] f415 f463 from (by rw [ef463]; exact hEq.up (List.mem_cons_of_mem _ List.mem_cons_self))).tr ((show hEq [dQ, dS, dL, dR, dT, dZ, dI, dH, dN, dK, dJ, dU, dO] f463 f506 from (hEq.mono k509 (fun _ h9 => h9))).tr (show hEq [dQ, dS, dL, dR, dT, dZ, dI, dH, dN, dK, dJ, dU, dO] f506 f540 from (hEq.mono k543 (fun _ h9 => h9))))))⟩)
              · have hP := And.intro ev9 hr9
                obtain ⟨ev8, h545, k546⟩ := hP
                have h545L := h545
                obtain ⟨gQ_n544, gS_n544, gL_n544, gR_n544, gT_n544, gZ_n544, gI_n544, gH_n544, gN_n544, gK_n544, gJ_n544, gU_n544, gO_n544, k_dQ_n544, k_dS_n544, k_dL_n544, k_dR_n544, k_dT_n544, k_dZ_n544, k_dI_n544, k_dH_n544, k_dN_n544, k_dK_n544, k_dJ_n544, k_dU_n544, k_dO_n544, hHd9_n544, hMn9_n544⟩ := id h545
                subst ev8
                refine W.eq (g2 := F0 m 71 ls [.int 1]) rfl ?_
                refine lv_pop hx hb dX5_comesRequest_71 rfl ?_
                refine lv_aload_n hx hb dX5_comesRequest_72 rfl (lv_at hl9 0 rfl) ?_
                have n548 : mo ≠ dO := hne k_mo k_dO (Nat.ne_of_beq_eq_false rfl)
                have n549 : mo ≠ dU := hne k_mo k_dU (Nat.ne_of_beq_eq_false rfl)
                have n550 : mo ≠ dJ := hne k_mo k_dJ (Nat.ne_of_beq_eq_false rfl)
                have n551 : mo ≠ dK := hne k_mo k_dK (Nat.ne_of_beq_eq_false rfl)
                have n552 : mo ≠ dN := hne k_mo k_dN (Nat.ne_of_beq_eq_false rfl)
                have n553 : mo ≠ dH := hne k_mo k_dH (Nat.ne_of_beq_eq_false rfl)
                have n554 : mo ≠ dI := hne k_mo k_dI (Nat.ne_of_beq_eq_false rfl)
                have n555 : mo ≠ dT := hne k_mo k_dT (Nat.ne_of_beq_eq_false rfl)
                have n556 : mo ≠ dR := hne k_mo k_dR (Nat.ne_of_beq_eq_false rfl)
                have n557 : mo ≠ dL := hne k_mo k_dL (Nat.ne_of_beq_eq_false rfl)
                have n558 : mo ≠ dQ := hne k_mo k_dQ (Nat.ne_of_beq_eq_false rfl)
                have h547 : f506 mo = some (.inr (5, [.int vth, .ref dW, .ref dA, .ref dQ, .ref dM, .ref dS, .ref dL, .ref dR, .ref dT, .ref dZ, .ref dI, .ref dH, .ref dN, .ref dK, .ref dJ, .ref dU, .ref dO, .int vpk, .int vpc, .ref dF, .ref dP, .ref dE, .ref dX, .ref dY, .int vnx, .int vgv, .ref dG])) := (hEq.k k546) _ _ h465 (ninc n558 (ninc n466 (ninc n557 (ninc n556 (ninc n555 (ninc n418 (ninc n554 (ninc n553 (ninc n552 (ninc n551 (ninc n550 (ninc n549 (ninc n548 nin0)))))))))))))
                refine hp_get B0 hw 5 rfl in_X5 h547 5 (by decide) qF_X5_22 rfl dX5_comesRequest_73 ?_
                refine lv_iload_n hx hb dX5_comesRequest_76 rfl (lv_at hl9 1 rfl) ?_
                refine hp_iald B0 hw k_dS_n544 (by unfold vp_in; decide) dX5_comesRequest_77 ?_
                refine lv_if_eq (tgt := 89) hx hb dX5_comesRequest_78 (by decide) (fun c559 => ?_) (fun c559 => ?_)
                · exact hp_vret B0 hw hS hr ⟨Nat.le_of_ble_eq_true rfl, Nat.le_of_ble_eq_true rfl⟩ dX5_comesRequest_89 (⟨rfl, ⟨_, _, _, _, _, _, _, _, _, _, _, _, _, k_dQ_n544, k_dS_n544, k_dL_n544, k_dR_n544, k_dT_n544, k_dZ_n544, k_dI_n544, k_dH_n544, k_dN_n544, k_dK_n544, k_dJ_n544, k_dU_n544, k_dO_n544, hHd9_n544, (hMn.mono hMn9_n544 (by omega))⟩, ((show hEq [dQ, dS, dL, dR, dT, dZ, dI, dH, dN, dK, dJ, dU, dO] f f415 from (by rw [ef415]; exact hEq.up (List.mem_cons_of_mem _ (List.mem_cons_of_mem _ (List.mem_cons_of_mem _ (List.mem_cons_of_mem _ (List.mem_cons_of_mem _ List.mem_cons_self))))))).tr ((show hEq [dQ, dS, dL, dR, dT, dZ, dI, dH, dN, dK, dJ, dU, dO] f415 f463 from (by rw [ef463]; exact hEq.up (List.mem_cons_of_mem _ List.mem_cons_self))).tr (show hEq [dQ, dS, dL, dR, dT, dZ, dI, dH, dN, dK, dJ, dU, dO] f463 f506 from (hEq.mono k546 (fun _ h9 => h9)))))⟩)
                · refine lv_aload_n hx hb dX5_comesRequest_81 rfl (lv_at hl9 0 rfl) ?_
                  refine lv_iload_n hx hb dX5_comesRequest_82 rfl (lv_at hl9 1 rfl) ?_
                  refine lv_iload_n hx hb dX5_comesRequest_83 rfl (lv_at hl9 2 rfl) ?_
                  refine lv_iload hx hb dX5_comesRequest_84 (lv_at hl9 4 rfl) ?_
                  have n561 : dM ≠ dO := hneL k_dM k_dO (Nat.ne_of_beq_eq_false rfl)
                  have n562 : dM ≠ dU := hneL k_dM k_dU (Nat.ne_of_beq_eq_false rfl)
                  have n563 : dM ≠ dJ := hneL k_dM k_dJ (Nat.ne_of_beq_eq_false rfl)
                  have n564 : dM ≠ dK := hneL k_dM k_dK (Nat.ne_of_beq_eq_false rfl)
                  have n565 : dM ≠ dQ := hneL k_dM k_dQ (Nat.ne_of_beq_eq_false rfl)
                  have h560 : f506 dM = some (.inl (cI G, 2, .inl gM)) := (hEq.k k546) _ _ h468 (ninc n565 (ninc nd_dM_dS (ninc nd_dM_dL (ninc nd_dM_dR (ninc nd_dM_dT (ninc nd_dM_dZ (ninc nd_dM_dI (ninc nd_dM_dH (ninc nd_dM_dN (ninc n564 (ninc n563 (ninc n562 (ninc n561 nin0)))))))))))))
                  have n567 : dA ≠ dO := hneL k_dA k_dO (Nat.ne_of_beq_eq_false rfl)
                  have n568 : dA ≠ dU := hneL k_dA k_dU (Nat.ne_of_beq_eq_false rfl)
                  have n569 : dA ≠ dJ := hneL k_dA k_dJ (Nat.ne_of_beq_eq_false rfl)
                  have n570 : dA ≠ dK := hneL k_dA k_dK (Nat.ne_of_beq_eq_false rfl)
                  have n571 : dA ≠ dN := hneL k_dA k_dN (Nat.ne_of_beq_eq_false rfl)
                  have n572 : dA ≠ dH := hneL k_dA k_dH (Nat.ne_of_beq_eq_false rfl)
                  have n573 : dA ≠ dI := hneL k_dA k_dI (Nat.ne_of_beq_eq_false rfl)
                  have n574 : dA ≠ dT := hneL k_dA k_dT (Nat.ne_of_beq_eq_false rfl)
                  have n575 : dA ≠ dR := hneL k_dA k_dR (Nat.ne_of_beq_eq_false rfl)
                  have n576 : dA ≠ dL := hneL k_dA k_dL (Nat.ne_of_beq_eq_false rfl)
                  have h566 : f506 dA = some (.inl (cI G, 12, .inl gA)) := (hEq.k k546) _ _ h471 (ninc nd_dA_dQ (ninc n472 (ninc n576 (ninc n575 (ninc n574 (ninc n470 (ninc n573 (ninc n572 (ninc n571 (ninc n570 (ninc n569 (ninc n568 (ninc n567 nin0)))))))))))))
                  refine hp_V (ci := 5) (As := [.int 1, .int i, .int o]) (rest := []) B0 hw hS (c_W5_answers hl G f506 mo dW dA dQ dM dS dL dR dT dZ dI dH dN dK dJ dU dO dF dP dE dX dY dG vth vpk vpc vnx vgv h547 hND gM gA h560 h566 hSA (B + 1) ⟨_, _, _, _, _, _, _, _, _, _, _, _, _, k_dQ_n544, k_dS_n544, k_dL_n544, k_dR_n544, k_dT_n544, k_dZ_n544, k_dI_n544, k_dH_n544, k_dN_n544, k_dK_n544, k_dJ_n544, k_dU_n544, k_dO_n544, hHd9_n544, (hMn.mono hMn9_n544 (by omega))⟩ (by omega) 1 i o (Or.inr rfl)) mV_X5_answers qM_X5_110 rfl h547 rfl rfl hl9.1 (Nat.le_of_ble_eq_true rfl) ⟨⟨Nat.le_of_ble_eq_true rfl, Nat.le_of_ble_eq_true rfl⟩, Nat.le_of_ble_eq_true rfl, Nat.le_of_ble_eq_true rfl⟩ dX5_comesRequest_86 (fun E ce q9 f577 H locs hPX hw hS hce hcv hcl => ?_) (fun v f577 H locs hP hw hS => ?_)
                  · exact hPX.elim
                  · obtain ⟨ev9, h579, k580⟩ := hP
                    have h579L := h579
                    obtain ⟨gQ_n578, gS_n578, gL_n578, gR_n578, gT_n578, gZ_n578, gI_n578, gH_n578, gN_n578, gK_n578, gJ_n578, gU_n578, gO_n578, k_dQ_n578, k_dS_n578, k_dL_n578, k_dR_n578, k_dT_n578, k_dZ_n578, k_dI_n578, k_dH_n578, k_dN_n578, k_dK_n578, k_dJ_n578, k_dU_n578, k_dO_n578, hHd9_n578, hMn9_n578⟩ := id h579
                    subst ev9
                    refine W.eq (g2 := F0 m 89 ls []) rfl ?_
                    exact hp_vret B0 hw hS hr ⟨Nat.le_of_ble_eq_true rfl, Nat.le_of_ble_eq_true rfl⟩ dX5_comesRequest_89 (⟨rfl, ⟨_, _, _, _, _, _, _, _, _, _, _, _, _, k_dQ_n578, k_dS_n578, k_dL_n578, k_dR_n578, k_dT_n578, k_dZ_n578, k_dI_n578, k_dH_n578, k_dN_n578, k_dK_n578, k_dJ_n578, k_dU_n578, k_dO_n578, hHd9_n578, (hMn.mono hMn9_n578 (by omega))⟩, ((show hEq [dQ, dS, dL, dR, dT, dZ, dI, dH, dN, dK, dJ, dU, dO] f f415 from (by rw [ef415]; exact hEq.up (List.mem_cons_of_mem _ (List.mem_cons_of_mem _ (List.mem_cons_of_mem _ (List.mem_cons_of_mem _ (List.mem_cons_of_mem _ List.mem_cons_self))))))).tr ((show hEq [dQ, dS, dL, dR, dT, dZ, dI, dH, dN, dK, dJ, dU, dO] f415 f463 from (by rw [ef463]; exact hEq.up (List.mem_cons_of_mem _ List.mem_cons_self))).tr ((show hEq [dQ, dS, dL, dR, dT, dZ, dI, dH, dN, dK, dJ, dU, dO] f463 f506 from (hEq.mono k546 (fun _ h9 => h9))).tr (show hEq [dQ, dS, dL, dR, dT, dZ, dI, dH, dN, dK, dJ, dU, dO] f506 f577 from (hEq.mono k580 (fun _ h9 => h9))))))⟩)
        · refine lv_aload_n hx hb dX5_comesRequest_40 rfl (lv_at hl9 0 rfl) ?_
          refine lv_iload_n hx hb dX5_comesRequest_41 rfl (lv_at hl9 1 rfl) ?_
          refine lv_iconst (v := 4) hx hb dX5_comesRequest_42 (by decide) ?_
          refine lv_iconst (v := 0) hx hb dX5_comesRequest_43 (by decide) ?_
          refine lv_iconst (v := 0) hx hb dX5_comesRequest_44 (by decide) ?_
          have h581 : f415 dM = some (.inl (cI G, 2, .inl gM)) := by rw [ef415, va_up_ne _ _ nd_dM_dZ]; exact k_dM
          have n583 : dA ≠ dZ := hneL k_dA k_dZ (Nat.ne_of_beq_eq_false rfl)
          have h582 : f415 dA = some (.inl (cI G, 12, .inl gA)) := by rw [ef415, va_up_ne _ _ n583]; exact k_dA
          have n585 : dQ ≠ dZ := hneL k_dQ k_dZ (Nat.ne_of_beq_eq_false rfl)
          have h584 : f415 dQ = some (.inl (cI G, 12, .inl gQ)) := by rw [ef415, va_up_ne _ _ n585]; exact k_dQ
          have h586 : f415 dL = some (.inl (cI G, 2, .inl gL)) := by rw [ef415, va_up_ne _ _ nd_dL_dZ]; exact k_dL
          have h587 : f415 dR = some (.inl (cI G, 2, .inl gR)) := by rw [ef415, va_up_ne _ _ nd_dR_dZ]; exact k_dR
          have h588 : f415 dT = some (.inl (cI G, 2, .inl gT)) := by rw [ef415, va_up_ne _ _ nd_dT_dZ]; exact k_dT
          have h589 : f415 dI = some (.inl (cI G, 2, .inl gI)) := by rw [ef415, va_up_ne _ _ (Ne.symm nd_dZ_dI)]; exact k_dI
          have h590 : f415 dH = some (.inl (cI G, 2, .inl gH)) := by rw [ef415, va_up_ne _ _ (Ne.symm nd_dZ_dH)]; exact k_dH
          have h591 : f415 dN = some (.inl (cI G, 2, .inl gN)) := by rw [ef415, va_up_ne _ _ (Ne.symm nd_dZ_dN)]; exact k_dN
          have n593 : dK ≠ dZ := hneL k_dK k_dZ (Nat.ne_of_beq_eq_false rfl)
          have h592 : f415 dK = some (.inl (cI G, 2048, .inl gK)) := by rw [ef415, va_up_ne _ _ n593]; exact k_dK
          have n595 : dJ ≠ dZ := hneL k_dJ k_dZ (Nat.ne_of_beq_eq_false rfl)
          have h594 : f415 dJ = some (.inl (cI G, 2048, .inl gJ)) := by rw [ef415, va_up_ne _ _ n595]; exact k_dJ
          have n597 : dU ≠ dZ := hneL k_dU k_dZ (Nat.ne_of_beq_eq_false rfl)
          have h596 : f415 dU = some (.inl (cI G, 2048, .inl gU)) := by rw [ef415, va_up_ne _ _ n597]; exact k_dU
          have n599 : dO ≠ dZ := hneL k_dO k_dZ (Nat.ne_of_beq_eq_false rfl)
          have h598 : f415 dO = some (.inl (cI G, 2048, .inl gO)) := by rw [ef415, va_up_ne _ _ n599]; exact k_dO
          refine hp_V (ci := 5) (As := [.int 1, .int 4, .int 0, .int 0]) (rest := []) B0 hw hS (c_W5_sends hl G f415 mo dW dA dQ dM dS dL dR dT dZ dI dH dN dK dJ dU dO dF dP dE dX dY dG vth vpk vpc vnx vgv h417 hND gM gA h581 h582 hSA B ⟨_, _, _, _, _, _, _, _, _, _, _, _, _, h584, h420, h586, h587, h588, h416, h589, h590, h591, h592, h594, h596, h598, hHd9, (hMn.mono hMn9 (by omega))⟩ (by omega) 1 4 0 0 (Or.inr rfl)) mV_X5_sends qM_X5_96 rfl h417 rfl rfl hl9.1 (Nat.le_of_ble_eq_true rfl) ⟨⟨Nat.le_of_ble_eq_true rfl, Nat.le_of_ble_eq_true rfl⟩, Nat.le_of_ble_eq_true rfl, Nat.le_of_ble_eq_true rfl⟩ dX5_comesRequest_45 (fun E ce q9 f600 H locs hPX hw hS hce hcv hcl => ?_) (fun v f600 H locs hP hw hS => ?_)
          · exact hPX.elim
          · obtain ⟨ev9, h602, k603⟩ := hP
            have h602L := h602
            obtain ⟨gQ_n601, gS_n601, gL_n601, gR_n601, gT_n601, gZ_n601, gI_n601, gH_n601, gN_n601, gK_n601, gJ_n601, gU_n601, gO_n601, k_dQ_n601, k_dS_n601, k_dL_n601, k_dR_n601, k_dT_n601, k_dZ_n601, k_dI_n601, k_dH_n601, k_dN_n601, k_dK_n601, k_dJ_n601, k_dU_n601, k_dO_n601, hHd9_n601, hMn9_n601⟩ := id h602
            subst ev9
            refine W.eq (g2 := F0 m 48 ls []) rfl ?_
            exact hp_vret B0 hw hS hr ⟨Nat.le_of_ble_eq_true rfl, Nat.le_of_ble_eq_true rfl⟩ dX5_comesRequest_48 (⟨rfl, ⟨_, _, _, _, _, _, _, _, _, _, _, _, _, k_dQ_n601, k_dS_n601, k_dL_n601, k_dR_n601, k_dT_n601, k_dZ_n601, k_dI_n601, k_dH_n601, k_dN_n601, k_dK_n601, k_dJ_n601, k_dU_n601, k_dO_n601, hHd9_n601, (hMn.mono hMn9_n601 (by omega))⟩, ((show hEq [dQ, dS, dL, dR, dT, dZ, dI, dH, dN, dK, dJ, dU, dO] f f415 from (by rw [ef415]; exact hEq.up (List.mem_cons_of_mem _ (List.mem_cons_of_mem _ (List.mem_cons_of_mem _ (List.mem_cons_of_mem _ (List.mem_cons_of_mem _ List.mem_cons_self))))))).tr (show hEq [dQ, dS, dL, dR, dT, dZ, dI, dH, dN, dK, dJ, dU, dO] f415 f600 from (hEq.mono k603 (fun _ h9 => h9))))⟩)
      · have n605 : dQ ≠ dZ := hneL k_dQ k_dZ (Nat.ne_of_beq_eq_false rfl)
        have h604 : f415 dQ = some (.inl (cI G, 12, .inl gQ)) := by rw [ef415, va_up_ne _ _ n605]; exact k_dQ
        have h606 : f415 dS = some (.inl (cI G, 2, .inl gS)) := by rw [ef415, va_up_ne _ _ nd_dS_dZ]; exact k_dS
        have h607 : f415 dL = some (.inl (cI G, 2, .inl gL)) := by rw [ef415, va_up_ne _ _ nd_dL_dZ]; exact k_dL
        have h608 : f415 dR = some (.inl (cI G, 2, .inl gR)) := by rw [ef415, va_up_ne _ _ nd_dR_dZ]; exact k_dR
        have h609 : f415 dT = some (.inl (cI G, 2, .inl gT)) := by rw [ef415, va_up_ne _ _ nd_dT_dZ]; exact k_dT
        have h610 : f415 dI = some (.inl (cI G, 2, .inl gI)) := by rw [ef415, va_up_ne _ _ (Ne.symm nd_dZ_dI)]; exact k_dI
        have h611 : f415 dH = some (.inl (cI G, 2, .inl gH)) := by rw [ef415, va_up_ne _ _ (Ne.symm nd_dZ_dH)]; exact k_dH
        have h612 : f415 dN = some (.inl (cI G, 2, .inl gN)) := by rw [ef415, va_up_ne _ _ (Ne.symm nd_dZ_dN)]; exact k_dN
        have n614 : dK ≠ dZ := hneL k_dK k_dZ (Nat.ne_of_beq_eq_false rfl)
        have h613 : f415 dK = some (.inl (cI G, 2048, .inl gK)) := by rw [ef415, va_up_ne _ _ n614]; exact k_dK
        have n616 : dJ ≠ dZ := hneL k_dJ k_dZ (Nat.ne_of_beq_eq_false rfl)
        have h615 : f415 dJ = some (.inl (cI G, 2048, .inl gJ)) := by rw [ef415, va_up_ne _ _ n616]; exact k_dJ
        have n618 : dU ≠ dZ := hneL k_dU k_dZ (Nat.ne_of_beq_eq_false rfl)
        have h617 : f415 dU = some (.inl (cI G, 2048, .inl gU)) := by rw [ef415, va_up_ne _ _ n618]; exact k_dU
        have n620 : dO ≠ dZ := hneL k_dO k_dZ (Nat.ne_of_beq_eq_false rfl)
        have h619 : f415 dO = some (.inl (cI G, 2048, .inl gO)) := by rw [ef415, va_up_ne _ _ n620]; exact k_dO
        exact hp_vret B0 hw hS hr ⟨Nat.le_of_ble_eq_true rfl, Nat.le_of_ble_eq_true rfl⟩ dX5_comesRequest_30 (⟨rfl, ⟨_, _, _, _, _, _, _, _, _, _, _, _, _, h604, h606, h607, h608, h609, h416, h610, h611, h612, h613, h615, h617, h619, hHd9, (hMn.mono hMn9 (by omega))⟩, (show hEq [dQ, dS, dL, dR, dT, dZ, dI, dH, dN, dK, dJ, dU, dO] f f415 from (by rw [ef415]; exact hEq.up (List.mem_cons_of_mem _ (List.mem_cons_of_mem _ (List.mem_cons_of_mem _ (List.mem_cons_of_mem _ (List.mem_cons_of_mem _ List.mem_cons_self)))))))⟩)
    · refine lv_iconst (v := 1) hx hb dX5_comesRequest_15 (by decide) ?_
      refine lv_goto (tgt := 20) hx hb dX5_comesRequest_16 (by decide) ?_
      refine hp_zast B0 hw hS k_dZ (by unfold vp_in; decide) dX5_comesRequest_20 (fun H locs f621 ef621 hw hS => ?_)
      have h622 : f621 dZ = some (.inl (cZ G, 2, .inl (upd gZ (1 : Int32).toNatClampNeg (vp_nar .boolean 1)))) := by rw [ef621, va_up_self]
      refine lv_aload_n hx hb dX5_comesRequest_21 rfl (lv_at hl9 0 rfl) ?_
      have n624 : mo ≠ dZ := hne k_mo k_dZ (Nat.ne_of_beq_eq_false rfl)
      have h623 : f621 mo = some (.inr (5, [.int vth, .ref dW, .ref dA, .ref dQ, .ref dM, .ref dS, .ref dL, .ref dR, .ref dT, .ref dZ, .ref dI, .ref dH, .ref dN, .ref dK, .ref dJ, .ref dU, .ref dO, .int vpk, .int vpc, .ref dF, .ref dP, .ref dE, .ref dX, .ref dY, .int vnx, .int vgv, .ref dG])) := by rw [ef621, va_up_ne _ _ n624]; exact k_mo
      refine hp_get B0 hw 5 rfl in_X5 h623 9 (by decide) qF_X5_34 rfl dX5_comesRequest_22 ?_
      refine lv_iload_n hx hb dX5_comesRequest_25 rfl (lv_at hl9 1 rfl) ?_
      refine hp_zald B0 hw h622 (by unfold vp_in; decide) dX5_comesRequest_26 ?_
      refine lv_if_eq (tgt := 31) hx hb dX5_comesRequest_27 (by decide) (fun c625 => ?_) (fun c625 => ?_)
      · refine lv_aload_n hx hb dX5_comesRequest_31 rfl (lv_at hl9 0 rfl) ?_
        refine hp_get B0 hw 5 rfl in_X5 h623 5 (by decide) qF_X5_22 rfl dX5_comesRequest_32 ?_
        refine lv_iload_n hx hb dX5_comesRequest_35 rfl (lv_at hl9 1 rfl) ?_
        have h626 : f621 dS = some (.inl (cI G, 2, .inl gS)) := by rw [ef621, va_up_ne _ _ nd_dS_dZ]; exact k_dS
        refine hp_iald B0 hw h626 (by unfold vp_in; decide) dX5_comesRequest_36 ?_
        refine lv_if_ne (tgt := 49) hx hb dX5_comesRequest_37 (by decide) (fun c627 => ?_) (fun c627 => ?_)
        · refine lv_aload_n hx hb dX5_comesRequest_49 rfl (lv_at hl9 0 rfl) ?_
          refine hp_get B0 hw 5 rfl in_X5 h623 5 (by decide) qF_X5_22 rfl dX5_comesRequest_50 ?_
          refine lv_iload_n hx hb dX5_comesRequest_53 rfl (lv_at hl9 1 rfl) ?_
          refine hp_iald B0 hw h626 (by unfold vp_in; decide) dX5_comesRequest_54 ?_
          refine lv_iconst (v := 4) hx hb dX5_comesRequest_55 (by decide) ?_
          refine lv_icmp_ne (tgt := 72) hx hb dX5_comesRequest_56 (by decide) (fun c628 => ?_) (fun c628 => ?_)
          · refine lv_aload_n hx hb dX5_comesRequest_72 rfl (lv_at hl9 0 rfl) ?_
            refine hp_get B0 hw 5 rfl in_X5 h623 5 (by decide) qF_X5_22 rfl dX5_comesRequest_73 ?_
            refine lv_iload_n hx hb dX5_comesRequest_76 rfl (lv_at hl9 1 rfl) ?_
            refine hp_iald B0 hw h626 (by unfold vp_in; decide) dX5_comesRequest_77 ?_
            refine lv_if_eq (tgt := 89) hx hb dX5_comesRequest_78 (by decide) (fun c629 => ?_) (fun c629 => ?_)
            · have n631 : dQ ≠ dZ := hneL k_dQ k_dZ (Nat.ne_of_beq_eq_false rfl)
              have h630 : f621 dQ = some (.inl (cI G, 12, .inl gQ)) := by rw [ef621, va_up_ne _ _ n631]; exact k_dQ
              have h632 : f621 dL = some (.inl (cI G, 2, .inl gL)) := by rw [ef621, va_up_ne _ _ nd_dL_dZ]; exact k_dL
              have h633 : f621 dR = some (.inl (cI G, 2, .inl gR)) := by rw [ef621, va_up_ne _ _ nd_dR_dZ]; exact k_dR
              have h634 : f621 dT = some (.inl (cI G, 2, .inl gT)) := by rw [ef621, va_up_ne _ _ nd_dT_dZ]; exact k_dT
              have h635 : f621 dI = some (.inl (cI G, 2, .inl gI)) := by rw [ef621, va_up_ne _ _ (Ne.symm nd_dZ_dI)]; exact k_dI
              have h636 : f621 dH = some (.inl (cI G, 2, .inl gH)) := by rw [ef621, va_up_ne _ _ (Ne.symm nd_dZ_dH)]; exact k_dH
              have h637 : f621 dN = some (.inl (cI G, 2, .inl gN)) := by rw [ef621, va_up_ne _ _ (Ne.symm nd_dZ_dN)]; exact k_dN
              have n639 : dK ≠ dZ := hneL k_dK k_dZ (Nat.ne_of_beq_eq_false rfl)
              have h638 : f621 dK = some (.inl (cI G, 2048, .inl gK)) := by rw [ef621, va_up_ne _ _ n639]; exact k_dK
              have n641 : dJ ≠ dZ := hneL k_dJ k_dZ (Nat.ne_of_beq_eq_false rfl)
              have h640 : f621 dJ = some (.inl (cI G, 2048, .inl gJ)) := by rw [ef621, va_up_ne _ _ n641]; exact k_dJ
              have n643 : dU ≠ dZ := hneL k_dU k_dZ (Nat.ne_of_beq_eq_false rfl)
              have h642 : f621 dU = some (.inl (cI G, 2048, .inl gU)) := by rw [ef621, va_up_ne _ _ n643]; exact k_dU
              have n645 : dO ≠ dZ := hneL k_dO k_dZ (Nat.ne_of_beq_eq_false rfl)
              have h644 : f621 dO = some (.inl (cI G, 2048, .inl gO)) := by rw [ef621, va_up_ne _ _ n645]; exact k_dO
              exact hp_vret B0 hw hS hr ⟨Nat.le_of_ble_eq_true rfl, Nat.le_of_ble_eq_true rfl⟩ dX5_comesRequest_89 (⟨rfl, ⟨_, _, _, _, _, _, _, _, _, _, _, _, _, h630, h626, h632, h633, h634, h622, h635, h636, h637, h638, h640, h642, h644, hHd9, (hMn.mono hMn9 (by omega))⟩, (show hEq [dQ, dS, dL, dR, dT, dZ, dI, dH, dN, dK, dJ, dU, dO] f f621 from (by rw [ef621]; exact hEq.up (List.mem_cons_of_mem _ (List.mem_cons_of_mem _ (List.mem_cons_of_mem _ (List.mem_cons_of_mem _ (List.mem_cons_of_mem _ List.mem_cons_self)))))))⟩)
            · refine lv_aload_n hx hb dX5_comesRequest_81 rfl (lv_at hl9 0 rfl) ?_
              refine lv_iload_n hx hb dX5_comesRequest_82 rfl (lv_at hl9 1 rfl) ?_
              refine lv_iload_n hx hb dX5_comesRequest_83 rfl (lv_at hl9 2 rfl) ?_
              refine lv_iload hx hb dX5_comesRequest_84 (lv_at hl9 4 rfl) ?_
              have h646 : f621 dM = some (.inl (cI G, 2, .inl gM)) := by rw [ef621, va_up_ne _ _ nd_dM_dZ]; exact k_dM
              have n648 : dA ≠ dZ := hneL k_dA k_dZ (Nat.ne_of_beq_eq_false rfl)
              have h647 : f621 dA = some (.inl (cI G, 12, .inl gA)) := by rw [ef621, va_up_ne _ _ n648]; exact k_dA
              have n650 : dQ ≠ dZ := hneL k_dQ k_dZ (Nat.ne_of_beq_eq_false rfl)
              have h649 : f621 dQ = some (.inl (cI G, 12, .inl gQ)) := by rw [ef621, va_up_ne _ _ n650]; exact k_dQ
              have h651 : f621 dL = some (.inl (cI G, 2, .inl gL)) := by rw [ef621, va_up_ne _ _ nd_dL_dZ]; exact k_dL
              have h652 : f621 dR = some (.inl (cI G, 2, .inl gR)) := by rw [ef621, va_up_ne _ _ nd_dR_dZ]; exact k_dR
              have h653 : f621 dT = some (.inl (cI G, 2, .inl gT)) := by rw [ef621, va_up_ne _ _ nd_dT_dZ]; exact k_dT
              have h654 : f621 dI = some (.inl (cI G, 2, .inl gI)) := by rw [ef621, va_up_ne _ _ (Ne.symm nd_dZ_dI)]; exact k_dI
              have h655 : f621 dH = some (.inl (cI G, 2, .inl gH)) := by rw [ef621, va_up_ne _ _ (Ne.symm nd_dZ_dH)]; exact k_dH
              have h656 : f621 dN = some (.inl (cI G, 2, .inl gN)) := by rw [ef621, va_up_ne _ _ (Ne.symm nd_dZ_dN)]; exact k_dN
              have n658 : dK ≠ dZ := hneL k_dK k_dZ (Nat.ne_of_beq_eq_false rfl)
              have h657 : f621 dK = some (.inl (cI G, 2048, .inl gK)) := by rw [ef621, va_up_ne _ _ n658]; exact k_dK
              have n660 : dJ ≠ dZ := hneL k_dJ k_dZ (Nat.ne_of_beq_eq_false rfl)
              have h659 : f621 dJ = some (.inl (cI G, 2048, .inl gJ)) := by rw [ef621, va_up_ne _ _ n660]; exact k_dJ
              have n662 : dU ≠ dZ := hneL k_dU k_dZ (Nat.ne_of_beq_eq_false rfl)
              have h661 : f621 dU = some (.inl (cI G, 2048, .inl gU)) := by rw [ef621, va_up_ne _ _ n662]; exact k_dU
              have n664 : dO ≠ dZ := hneL k_dO k_dZ (Nat.ne_of_beq_eq_false rfl)
              have h663 : f621 dO = some (.inl (cI G, 2048, .inl gO)) := by rw [ef621, va_up_ne _ _ n664]; exact k_dO
              refine hp_V (ci := 5) (As := [.int 1, .int i, .int o]) (rest := []) B0 hw hS (c_W5_answers hl G f621 mo dW dA dQ dM dS dL dR dT dZ dI dH dN dK dJ dU dO dF dP dE dX dY dG vth vpk vpc vnx vgv h623 hND gM gA h646 h647 hSA B ⟨_, _, _, _, _, _, _, _, _, _, _, _, _, h649, h626, h651, h652, h653, h622, h654, h655, h656, h657, h659, h661, h663, hHd9, (hMn.mono hMn9 (by omega))⟩ (by omega) 1 i o (Or.inr rfl)) mV_X5_answers qM_X5_110 rfl h623 rfl rfl hl9.1 (Nat.le_of_ble_eq_true rfl) ⟨⟨Nat.le_of_ble_eq_true rfl, Nat.le_of_ble_eq_true rfl⟩, Nat.le_of_ble_eq_true rfl, Nat.le_of_ble_eq_true rfl⟩ dX5_comesRequest_86 (fun E ce q9 f665 H locs hPX hw hS hce hcv hcl => ?_) (fun v f665 H locs hP hw hS => ?_)
              · exact hPX.elim
              · obtain ⟨ev9, h667, k668⟩ := hP
                have h667L := h667
                obtain ⟨gQ_n666, gS_n666, gL_n666, gR_n666, gT_n666, gZ_n666, gI_n666, gH_n666, gN_n666, gK_n666, gJ_n666, gU_n666, gO_n666, k_dQ_n666, k_dS_n666, k_dL_n666, k_dR_n666, k_dT_n666, k_dZ_n666, k_dI_n666, k_dH_n666, k_dN_n666, k_dK_n666, k_dJ_n666, k_dU_n666, k_dO_n666, hHd9_n666, hMn9_n666⟩ := id h667
                subst ev9
                refine W.eq (g2 := F0 m 89 ls []) rfl ?_
                exact hp_vret B0 hw hS hr ⟨Nat.le_of_ble_eq_true rfl, Nat.le_of_ble_eq_true rfl⟩ dX5_comesRequest_89 (⟨rfl, ⟨_, _, _, _, _, _, _, _, _, _, _, _, _, k_dQ_n666, k_dS_n666, k_dL_n666, k_dR_n666, k_dT_n666, k_dZ_n666, k_dI_n666, k_dH_n666, k_dN_n666, k_dK_n666, k_dJ_n666, k_dU_n666, k_dO_n666, hHd9_n666, (hMn.mono hMn9_n666 (by omega))⟩, ((show hEq [dQ, dS, dL, dR, dT, dZ, dI, dH, dN, dK, dJ, dU, dO] f f621 from (by rw [ef621]; exact hEq.up (List.mem_cons_of_mem _ (List.mem_cons_of_mem _ (List.mem_cons_of_mem _ (List.mem_cons_of_mem _ (List.mem_cons_of_mem _ List.mem_cons_self))))))).tr (show hEq [dQ, dS, dL, dR, dT, dZ, dI, dH, dN, dK, dJ, dU, dO] f621 f665 from (hEq.mono k668 (fun _ h9 => h9))))⟩)
          · refine lv_aload_n hx hb dX5_comesRequest_59 rfl (lv_at hl9 0 rfl) ?_
            refine hp_get B0 hw 5 rfl in_X5 h623 5 (by decide) qF_X5_22 rfl dX5_comesRequest_60 ?_
            refine lv_iload_n hx hb dX5_comesRequest_63 rfl (lv_at hl9 1 rfl) ?_
            refine lv_iconst (v := 1) hx hb dX5_comesRequest_64 (by decide) ?_
            refine hp_iast B0 hw hS h626 (by unfold vp_in; decide) dX5_comesRequest_65 (fun H locs f669 ef669 hw hS => ?_)
            have h670 : f669 dS = some (.inl (cI G, 2, .inl (upd gS (1 : Int32).toNatClampNeg 1))) := by rw [ef669, va_up_self]
            refine lv_aload_n hx hb dX5_comesRequest_66 rfl (lv_at hl9 0 rfl) ?_
            refine lv_iload_n hx hb dX5_comesRequest_67 rfl (lv_at hl9 1 rfl) ?_
            have n672 : mo ≠ dS := hne k_mo k_dS (Nat.ne_of_beq_eq_false rfl)
            have h671 : f669 mo = some (.inr (5, [.int vth, .ref dW, .ref dA, .ref dQ, .ref dM, .ref dS, .ref dL, .ref dR, .ref dT, .ref dZ, .ref dI, .ref dH, .ref dN, .ref dK, .ref dJ, .ref dU, .ref dO, .int vpk, .int vpc, .ref dF, .ref dP, .ref dE, .ref dX, .ref dY, .int vnx, .int vgv, .ref dG])) := by rw [ef669, va_up_ne _ _ n672]; exact h623
            have h673 : f621 dM = some (.inl (cI G, 2, .inl gM)) := by rw [ef621, va_up_ne _ _ nd_dM_dZ]; exact k_dM
            have h674 : f669 dM = some (.inl (cI G, 2, .inl gM)) := by rw [ef669, va_up_ne _ _ nd_dM_dS]; exact h673
            have n676 : dA ≠ dZ := hneL k_dA k_dZ (Nat.ne_of_beq_eq_false rfl)
            have h675 : f621 dA = some (.inl (cI G, 12, .inl gA)) := by rw [ef621, va_up_ne _ _ n676]; exact k_dA
            have n678 : dA ≠ dS := hneL k_dA k_dS (Nat.ne_of_beq_eq_false rfl)
            have h677 : f669 dA = some (.inl (cI G, 12, .inl gA)) := by rw [ef669, va_up_ne _ _ n678]; exact h675
            have n680 : dQ ≠ dZ := hneL k_dQ k_dZ (Nat.ne_of_beq_eq_false rfl)
            have h679 : f621 dQ = some (.inl (cI G, 12, .inl gQ)) := by rw [ef621, va_up_ne _ _ n680]; exact k_dQ
            have n682 : dQ ≠ dS := hneL k_dQ k_dS (Nat.ne_of_beq_eq_false rfl)
            have h681 : f669 dQ = some (.inl (cI G, 12, .inl gQ)) := by rw [ef669, va_up_ne _ _ n682]; exact h679
            have h683 : f621 dL = some (.inl (cI G, 2, .inl gL)) := by rw [ef621, va_up_ne _ _ nd_dL_dZ]; exact k_dL
            have h684 : f669 dL = some (.inl (cI G, 2, .inl gL)) := by rw [ef669, va_up_ne _ _ (Ne.symm nd_dS_dL)]; exact h683
            have h685 : f621 dR = some (.inl (cI G, 2, .inl gR)) := by rw [ef621, va_up_ne _ _ nd_dR_dZ]; exact k_dR
            have h686 : f669 dR = some (.inl (cI G, 2, .inl gR)) := by rw [ef669, va_up_ne _ _ (Ne.symm nd_dS_dR)]; exact h685
            have h687 : f621 dT = some (.inl (cI G, 2, .inl gT)) := by rw [ef621, va_up_ne _ _ nd_dT_dZ]; exact k_dT
            have h688 : f669 dT = some (.inl (cI G, 2, .inl gT)) := by rw [ef669, va_up_ne _ _ (Ne.symm nd_dS_dT)]; exact h687
            have h689 : f669 dZ = some (.inl (cZ G, 2, .inl (upd gZ (1 : Int32).toNatClampNeg (vp_nar .boolean 1)))) := by rw [ef669, va_up_ne _ _ (Ne.symm nd_dS_dZ)]; exact h622
            have h690 : f621 dI = some (.inl (cI G, 2, .inl gI)) := by rw [ef621, va_up_ne _ _ (Ne.symm nd_dZ_dI)]; exact k_dI
            have h691 : f669 dI = some (.inl (cI G, 2, .inl gI)) := by rw [ef669, va_up_ne _ _ (Ne.symm nd_dS_dI)]; exact h690
            have h692 : f621 dH = some (.inl (cI G, 2, .inl gH)) := by rw [ef621, va_up_ne _ _ (Ne.symm nd_dZ_dH)]; exact k_dH
            have h693 : f669 dH = some (.inl (cI G, 2, .inl gH)) := by rw [ef669, va_up_ne _ _ (Ne.symm nd_dS_dH)]; exact h692
            have h694 : f621 dN = some (.inl (cI G, 2, .inl gN)) := by rw [ef621, va_up_ne _ _ (Ne.symm nd_dZ_dN)]; exact k_dN
            have h695 : f669 dN = some (.inl (cI G, 2, .inl gN)) := by rw [ef669, va_up_ne _ _ (Ne.symm nd_dS_dN)]; exact h694
            have n697 : dK ≠ dZ := hneL k_dK k_dZ (Nat.ne_of_beq_eq_false rfl)
            have h696 : f621 dK = some (.inl (cI G, 2048, .inl gK)) := by rw [ef621, va_up_ne _ _ n697]; exact k_dK
            have n699 : dK ≠ dS := hneL k_dK k_dS (Nat.ne_of_beq_eq_false rfl)
            have h698 : f669 dK = some (.inl (cI G, 2048, .inl gK)) := by rw [ef669, va_up_ne _ _ n699]; exact h696
            have n701 : dJ ≠ dZ := hneL k_dJ k_dZ (Nat.ne_of_beq_eq_false rfl)
            have h700 : f621 dJ = some (.inl (cI G, 2048, .inl gJ)) := by rw [ef621, va_up_ne _ _ n701]; exact k_dJ
            have n703 : dJ ≠ dS := hneL k_dJ k_dS (Nat.ne_of_beq_eq_false rfl)
            have h702 : f669 dJ = some (.inl (cI G, 2048, .inl gJ)) := by rw [ef669, va_up_ne _ _ n703]; exact h700
            have n705 : dU ≠ dZ := hneL k_dU k_dZ (Nat.ne_of_beq_eq_false rfl)
            have h704 : f621 dU = some (.inl (cI G, 2048, .inl gU)) := by rw [ef621, va_up_ne _ _ n705]; exact k_dU
            have n707 : dU ≠ dS := hneL k_dU k_dS (Nat.ne_of_beq_eq_false rfl)
            have h706 : f669 dU = some (.inl (cI G, 2048, .inl gU)) := by rw [ef669, va_up_ne _ _ n707]; exact h704
            have n709 : dO ≠ dZ := hneL k_dO k_dZ (Nat.ne_of_beq_eq_false rfl)
            have h708 : f621 dO = some (.inl (cI G, 2048, .inl gO)) := by rw [ef621, va_up_ne _ _ n709]; exact k_dO
            have n711 : dO ≠ dS := hneL k_dO k_dS (Nat.ne_of_beq_eq_false rfl)
            have h710 : f669 dO = some (.inl (cI G, 2048, .inl gO)) := by rw [ef669, va_up_ne _ _ n711]; exact h708
            refine hp_V (ci := 5) (As := [.int 1]) (rest := []) B0 hw hS (c_W5_begs hl G f669 mo dW dA dQ dM dS dL dR dT dZ dI dH dN dK dJ dU dO dF dP dE dX dY dG vth vpk vpc vnx vgv h671 hND gM gA h674 h677 hSA B ⟨_, _, _, _, _, _, _, _, _, _, _, _, _, h681, h670, h684, h686, h688, h689, h691, h693, h695, h698, h702, h706, h710, hHd9, (hMn.mono hMn9 (by omega))⟩ (by omega) 1 (Or.inr rfl)) mV_X5_begs qM_X5_107 rfl h671 rfl rfl hl9.1 (Nat.le_of_ble_eq_true rfl) ⟨⟨Nat.le_of_ble_eq_true rfl, Nat.le_of_ble_eq_true rfl⟩, Nat.le_of_ble_eq_true rfl, Nat.le_of_ble_eq_true rfl⟩ dX5_comesRequest_68 (fun E ce q9 f712 H locs hPX hw hS hce hcv hcl => ?_) (fun v f712 H locs hP hw hS => ?_)
            · exact hPX.elim
            · obtain ⟨hv9, hr9⟩ := hP
              rcases hv9 with ev9 | ev9
              · have hP := And.intro ev9 hr9
                obtain ⟨ev8, h714, k715⟩ := hP
                have h714L := h714
                obtain ⟨gQ_n713, gS_n713, gL_n713, gR_n713, gT_n713, gZ_n713, gI_n713, gH_n713, gN_n713, gK_n713, gJ_n713, gU_n713, gO_n713, k_dQ_n713, k_dS_n713, k_dL_n713, k_dR_n713, k_dT_n713, k_dZ_n713, k_dI_n713, k_dH_n713, k_dN_n713, k_dK_n713, k_dJ_n713, k_dU_n713, k_dO_n713, hHd9_n713, hMn9_n713⟩ := id h714
                subst ev8
                refine W.eq (g2 := F0 m 71 ls [.int 0]) rfl ?_
                refine lv_pop hx hb dX5_comesRequest_71 rfl ?_
                refine lv_aload_n hx hb dX5_comesRequest_72 rfl (lv_at hl9 0 rfl) ?_
                have n717 : mo ≠ dO := hne k_mo k_dO (Nat.ne_of_beq_eq_false rfl)
                have n718 : mo ≠ dU := hne k_mo k_dU (Nat.ne_of_beq_eq_false rfl)
                have n719 : mo ≠ dJ := hne k_mo k_dJ (Nat.ne_of_beq_eq_false rfl)
                have n720 : mo ≠ dK := hne k_mo k_dK (Nat.ne_of_beq_eq_false rfl)
                have n721 : mo ≠ dN := hne k_mo k_dN (Nat.ne_of_beq_eq_false rfl)
                have n722 : mo ≠ dH := hne k_mo k_dH (Nat.ne_of_beq_eq_false rfl)
                have n723 : mo ≠ dI := hne k_mo k_dI (Nat.ne_of_beq_eq_false rfl)
                have n724 : mo ≠ dT := hne k_mo k_dT (Nat.ne_of_beq_eq_false rfl)
                have n725 : mo ≠ dR := hne k_mo k_dR (Nat.ne_of_beq_eq_false rfl)
                have n726 : mo ≠ dL := hne k_mo k_dL (Nat.ne_of_beq_eq_false rfl)
                have n727 : mo ≠ dQ := hne k_mo k_dQ (Nat.ne_of_beq_eq_false rfl)
                have h716 : f712 mo = some (.inr (5, [.int vth, .ref dW, .ref dA, .ref dQ, .ref dM, .ref dS, .ref dL, .ref dR, .ref dT, .ref dZ, .ref dI, .ref dH, .ref dN, .ref dK, .ref dJ, .ref dU, .ref dO, .int vpk, .int vpc, .ref dF, .ref dP, .ref dE, .ref dX, .ref dY, .int vnx, .int vgv, .ref dG])) := (hEq.k k715) _ _ h671 (ninc n727 (ninc n672 (ninc n726 (ninc n725 (ninc n724 (ninc n624 (ninc n723 (ninc n722 (ninc n721 (ninc n720 (ninc n719 (ninc n718 (ninc n717 nin0)))))))))))))
                refine hp_get B0 hw 5 rfl in_X5 h716 5 (by decide) qF_X5_22 rfl dX5_comesRequest_73 ?_
                refine lv_iload_n hx hb dX5_comesRequest_76 rfl (lv_at hl9 1 rfl) ?_
                refine hp_iald B0 hw k_dS_n713 (by unfold vp_in; decide) dX5_comesRequest_77 ?_
                refine lv_if_eq (tgt := 89) hx hb dX5_comesRequest_78 (by decide) (fun c728 => ?_) (fun c728 => ?_)
                · exact hp_vret B0 hw hS hr ⟨Nat.le_of_ble_eq_true rfl, Nat.le_of_ble_eq_true rfl⟩ dX5_comesRequest_89 (⟨rfl, ⟨_, _, _, _, _, _, _, _, _, _, _, _, _, k_dQ_n713, k_dS_n713, k_dL_n713, k_dR_n713, k_dT_n713, k_dZ_n713, k_dI_n713, k_dH_n713, k_dN_n713, k_dK_n713, k_dJ_n713, k_dU_n713, k_dO_n713, hHd9_n713, (hMn.mono hMn9_n713 (by omega))⟩, ((show hEq [dQ, dS, dL, dR, dT, dZ, dI, dH, dN, dK, dJ, dU, dO] f f621 from (by rw [ef621]; exact hEq.up (List.mem_cons_of_mem _ (List.mem_cons_of_mem _ (List.mem_cons_of_mem _ (List.mem_cons_of_mem _ (List.mem_cons_of_mem _ List.mem_cons_self))))))).tr ((show hEq [dQ, dS, dL, dR, dT, dZ, dI, dH, dN, dK, dJ, dU, dO] f621 f669 from (by rw [ef669]; exact hEq.up (List.mem_cons_of_mem _ List.mem_cons_self))).tr (show hEq [dQ, dS, dL, dR, dT, dZ, dI, dH, dN, dK, dJ, dU, dO] f669 f712 from (hEq.mono k715 (fun _ h9 => h9)))))⟩)
                · refine lv_aload_n hx hb dX5_comesRequest_81 rfl (lv_at hl9 0 rfl) ?_
                  refine lv_iload_n hx hb dX5_comesRequest_82 rfl (lv_at hl9 1 rfl) ?_
                  refine lv_iload_n hx hb dX5_comesRequest_83 rfl (lv_at hl9 2 rfl) ?_
                  refine lv_iload hx hb dX5_comesRequest_84 (lv_at hl9 4 rfl) ?_
                  have n730 : dM ≠ dO := hneL k_dM k_dO (Nat.ne_of_beq_eq_false rfl)
                  have n731 : dM ≠ dU := hneL k_dM k_dU (Nat.ne_of_beq_eq_false rfl)
                  have n732 : dM ≠ dJ := hneL k_dM k_dJ (Nat.ne_of_beq_eq_false rfl)
                  have n733 : dM ≠ dK := hneL k_dM k_dK (Nat.ne_of_beq_eq_false rfl)
                  have n734 : dM ≠ dQ := hneL k_dM k_dQ (Nat.ne_of_beq_eq_false rfl)
                  have h729 : f712 dM = some (.inl (cI G, 2, .inl gM)) := (hEq.k k715) _ _ h674 (ninc n734 (ninc nd_dM_dS (ninc nd_dM_dL (ninc nd_dM_dR (ninc nd_dM_dT (ninc nd_dM_dZ (ninc nd_dM_dI (ninc nd_dM_dH (ninc nd_dM_dN (ninc n733 (ninc n732 (ninc n731 (ninc n730 nin0)))))))))))))
                  have n736 : dA ≠ dO := hneL k_dA k_dO (Nat.ne_of_beq_eq_false rfl)
                  have n737 : dA ≠ dU := hneL k_dA k_dU (Nat.ne_of_beq_eq_false rfl)
                  have n738 : dA ≠ dJ := hneL k_dA k_dJ (Nat.ne_of_beq_eq_false rfl)
                  have n739 : dA ≠ dK := hneL k_dA k_dK (Nat.ne_of_beq_eq_false rfl)
                  have n740 : dA ≠ dN := hneL k_dA k_dN (Nat.ne_of_beq_eq_false rfl)
                  have n741 : dA ≠ dH := hneL k_dA k_dH (Nat.ne_of_beq_eq_false rfl)
                  have n742 : dA ≠ dI := hneL k_dA k_dI (Nat.ne_of_beq_eq_false rfl)
                  have n743 : dA ≠ dT := hneL k_dA k_dT (Nat.ne_of_beq_eq_false rfl)
                  have n744 : dA ≠ dR := hneL k_dA k_dR (Nat.ne_of_beq_eq_false rfl)
                  have n745 : dA ≠ dL := hneL k_dA k_dL (Nat.ne_of_beq_eq_false rfl)
                  have h735 : f712 dA = some (.inl (cI G, 12, .inl gA)) := (hEq.k k715) _ _ h677 (ninc nd_dA_dQ (ninc n678 (ninc n745 (ninc n744 (ninc n743 (ninc n676 (ninc n742 (ninc n741 (ninc n740 (ninc n739 (ninc n738 (ninc n737 (ninc n736 nin0)))))))))))))
                  refine hp_V (ci := 5) (As := [.int 1, .int i, .int o]) (rest := []) B0 hw hS (c_W5_answers hl G f712 mo dW dA dQ dM dS dL dR dT dZ dI dH dN dK dJ dU dO dF dP dE dX dY dG vth vpk vpc vnx vgv h716 hND gM gA h729 h735 hSA (B + 1) ⟨_, _, _, _, _, _, _, _, _, _, _, _, _, k_dQ_n713, k_dS_n713, k_dL_n713, k_dR_n713, k_dT_n713, k_dZ_n713, k_dI_n713, k_dH_n713, k_dN_n713, k_dK_n713, k_dJ_n713, k_dU_n713, k_dO_n713, hHd9_n713, (hMn.mono hMn9_n713 (by omega))⟩ (by omega) 1 i o (Or.inr rfl)) mV_X5_answers qM_X5_110 rfl h716 rfl rfl hl9.1 (Nat.le_of_ble_eq_true rfl) ⟨⟨Nat.le_of_ble_eq_true rfl, Nat.le_of_ble_eq_true rfl⟩, Nat.le_of_ble_eq_true rfl, Nat.le_of_ble_eq_true rfl⟩ dX5_comesRequest_86 (fun E ce q9 f746 H locs hPX hw hS hce hcv hcl => ?_) (fun v f746 H locs hP hw hS => ?_)
                  · exact hPX.elim
                  · obtain ⟨ev9, h748, k749⟩ := hP
                    have h748L := h748
                    obtain ⟨gQ_n747, gS_n747, gL_n747, gR_n747, gT_n747, gZ_n747, gI_n747, gH_n747, gN_n747, gK_n747, gJ_n747, gU_n747, gO_n747, k_dQ_n747, k_dS_n747, k_dL_n747, k_dR_n747, k_dT_n747, k_dZ_n747, k_dI_n747, k_dH_n747, k_dN_n747, k_dK_n747, k_dJ_n747, k_dU_n747, k_dO_n747, hHd9_n747, hMn9_n747⟩ := id h748
                    subst ev9
                    refine W.eq (g2 := F0 m 89 ls []) rfl ?_
                    exact hp_vret B0 hw hS hr ⟨Nat.le_of_ble_eq_true rfl, Nat.le_of_ble_eq_true rfl⟩ dX5_comesRequest_89 (⟨rfl, ⟨_, _, _, _, _, _, _, _, _, _, _, _, _, k_dQ_n747, k_dS_n747, k_dL_n747, k_dR_n747, k_dT_n747, k_dZ_n747, k_dI_n747, k_dH_n747, k_dN_n747, k_dK_n747, k_dJ_n747, k_dU_n747, k_dO_n747, hHd9_n747, (hMn.mono hMn9_n747 (by omega))⟩, ((show hEq [dQ, dS, dL, dR, dT, dZ, dI, dH, dN, dK, dJ, dU, dO] f f621 from (by rw [ef621]; exact hEq.up (List.mem_cons_of_mem _ (List.mem_cons_of_mem _ (List.mem_cons_of_mem _ (List.mem_cons_of_mem _ (List.mem_cons_of_mem _ List.mem_cons_self))))))).tr ((show hEq [dQ, dS, dL, dR, dT, dZ, dI, dH, dN, dK, dJ, dU, dO] f621 f669 from (by rw [ef669]; exact hEq.up (List.mem_cons_of_mem _ List.mem_cons_self))).tr ((show hEq [dQ, dS, dL, dR, dT, dZ, dI, dH, dN, dK, dJ, dU, dO] f669 f712 from (hEq.mono k715 (fun _ h9 => h9))).tr (show hEq [dQ, dS, dL, dR, dT, dZ, dI, dH, dN, dK, dJ, dU, dO] f712 f746 from (hEq.mono k749 (fun _ h9 => h9))))))⟩)
              · have hP := And.intro ev9 hr9
                obtain ⟨ev8, h751, k752⟩ := hP
                have h751L := h751
                obtain ⟨gQ_n750, gS_n750, gL_n750, gR_n750, gT_n750, gZ_n750, gI_n750, gH_n750, gN_n750, gK_n750, gJ_n750, gU_n750, gO_n750, k_dQ_n750, k_dS_n750, k_dL_n750, k_dR_n750, k_dT_n750, k_dZ_n750, k_dI_n750, k_dH_n750, k_dN_n750, k_dK_n750, k_dJ_n750, k_dU_n750, k_dO_n750, hHd9_n750, hMn9_n750⟩ := id h751
                subst ev8
                refine W.eq (g2 := F0 m 71 ls [.int 1]) rfl ?_
                refine lv_pop hx hb dX5_comesRequest_71 rfl ?_
                refine lv_aload_n hx hb dX5_comesRequest_72 rfl (lv_at hl9 0 rfl) ?_
                have n754 : mo ≠ dO := hne k_mo k_dO (Nat.ne_of_beq_eq_false rfl)
                have n755 : mo ≠ dU := hne k_mo k_dU (Nat.ne_of_beq_eq_false rfl)
                have n756 : mo ≠ dJ := hne k_mo k_dJ (Nat.ne_of_beq_eq_false rfl)
                have n757 : mo ≠ dK := hne k_mo k_dK (Nat.ne_of_beq_eq_false rfl)
                have n758 : mo ≠ dN := hne k_mo k_dN (Nat.ne_of_beq_eq_false rfl)
                have n759 : mo ≠ dH := hne k_mo k_dH (Nat.ne_of_beq_eq_false rfl)
                have n760 : mo ≠ dI := hne k_mo k_dI (Nat.ne_of_beq_eq_false rfl)
                have n761 : mo ≠ dT := hne k_mo k_dT (Nat.ne_of_beq_eq_false rfl)
                have n762 : mo ≠ dR := hne k_mo k_dR (Nat.ne_of_beq_eq_false rfl)
                have n763 : mo ≠ dL := hne k_mo k_dL (Nat.ne_of_beq_eq_false rfl)
                have n764 : mo ≠ dQ := hne k_mo k_dQ (Nat.ne_of_beq_eq_false rfl)
                have h753 : f712 mo = some (.inr (5, [.int vth, .ref dW, .ref dA, .ref dQ, .ref dM, .ref dS, .ref dL, .ref dR, .ref dT, .ref dZ, .ref dI, .ref dH, .ref dN, .ref dK, .ref dJ, .ref dU, .ref dO, .int vpk, .int vpc, .ref dF, .ref dP, .ref dE, .ref dX, .ref dY, .int vnx, .int vgv, .ref dG])) := (hEq.k k752) _ _ h671 (ninc n764 (ninc n672 (ninc n763 (ninc n762 (ninc n761 (ninc n624 (ninc n760 (ninc n759 (ninc n758 (ninc n757 (ninc n756 (ninc n755 (ninc n754 nin0)))))))))))))
                refine hp_get B0 hw 5 rfl in_X5 h753 5 (by decide) qF_X5_22 rfl dX5_comesRequest_73 ?_
                refine lv_iload_n hx hb dX5_comesRequest_76 rfl (lv_at hl9 1 rfl) ?_
                refine hp_iald B0 hw k_dS_n750 (by unfold vp_in; decide) dX5_comesRequest_77 ?_
                refine lv_if_eq (tgt := 89) hx hb dX5_comesRequest_78 (by decide) (fun c765 => ?_) (fun c765 => ?_)
                · exact hp_vret B0 hw hS hr ⟨Nat.le_of_ble_eq_true rfl, Nat.le_of_ble_eq_true rfl⟩ dX5_comesRequest_89 (⟨rfl, ⟨_, _, _, _, _, _, _, _, _, _, _, _, _, k_dQ_n750, k_dS_n750, k_dL_n750, k_dR_n750, k_dT_n750, k_dZ_n750, k_dI_n750, k_dH_n750, k_dN_n750, k_dK_n750, k_dJ_n750, k_dU_n750, k_dO_n750, hHd9_n750, (hMn.mono hMn9_n750 (by omega))⟩, ((show hEq [dQ, dS, dL, dR, dT, dZ, dI, dH, dN, dK, dJ, dU, dO] f f621 from (by rw [ef621]; exact hEq.up (List.mem_cons_of_mem _ (List.mem_cons_of_mem _ (List.mem_cons_of_mem _ (List.mem_cons_of_mem _ (List.mem_cons_of_mem _ List.mem_cons_self))))))).tr ((show hEq [dQ, dS, dL, dR, dT, dZ, dI, dH, dN, dK, dJ, dU, dO] f621 f669 from (by rw [ef669]; exact hEq.up (List.mem_cons_of_mem _ List.mem_cons_self))).tr (show hEq [dQ, dS, dL, dR, dT, dZ, dI, dH, dN, dK, dJ, dU, dO] f669 f712 from (hEq.mono k752 (fun _ h9 => h9)))))⟩)
                · refine lv_aload_n hx hb dX5_comesRequest_81 rfl (lv_at hl9 0 rfl) ?_
                  refine lv_iload_n hx hb dX5_comesRequest_82 rfl (lv_at hl9 1 rfl) ?_
                  refine lv_iload_n hx hb dX5_comesRequest_83 rfl (lv_at hl9 2 rfl) ?_
                  refine lv_iload hx hb dX5_comesRequest_84 (lv_at hl9 4 rfl) ?_
                  have n767 : dM ≠ dO := hneL k_dM k_dO (Nat.ne_of_beq_eq_false rfl)
                  have n768 : dM ≠ dU := hneL k_dM k_dU (Nat.ne_of_beq_eq_false rfl)
                  have n769 : dM ≠ dJ := hneL k_dM k_dJ (Nat.ne_of_beq_eq_false rfl)
                  have n770 : dM ≠ dK := hneL k_dM k_dK (Nat.ne_of_beq_eq_false rfl)
                  have n771 : dM ≠ dQ := hneL k_dM k_dQ (Nat.ne_of_beq_eq_false rfl)
                  have h766 : f712 dM = some (.inl (cI G, 2, .inl gM)) := (hEq.k k752) _ _ h674 (ninc n771 (ninc nd_dM_dS (ninc nd_dM_dL (ninc nd_dM_dR (ninc nd_dM_dT (ninc nd_dM_dZ (ninc nd_dM_dI (ninc nd_dM_dH (ninc nd_dM_dN (ninc n770 (ninc n769 (ninc n768 (ninc n767 nin0)))))))))))))
                  have n773 : dA ≠ dO := hneL k_dA k_dO (Nat.ne_of_beq_eq_false rfl)
                  have n774 : dA ≠ dU := hneL k_dA k_dU (Nat.ne_of_beq_eq_false rfl)
                  have n775 : dA ≠ dJ := hneL k_dA k_dJ (Nat.ne_of_beq_eq_false rfl)
                  have n776 : dA ≠ dK := hneL k_dA k_dK (Nat.ne_of_beq_eq_false rfl)
                  have n777 : dA ≠ dN := hneL k_dA k_dN (Nat.ne_of_beq_eq_false rfl)
                  have n778 : dA ≠ dH := hneL k_dA k_dH (Nat.ne_of_beq_eq_false rfl)
                  have n779 : dA ≠ dI := hneL k_dA k_dI (Nat.ne_of_beq_eq_false rfl)
                  have n780 : dA ≠ dT := hneL k_dA k_dT (Nat.ne_of_beq_eq_false rfl)
                  have n781 : dA ≠ dR := hneL k_dA k_dR (Nat.ne_of_beq_eq_false rfl)
                  have n782 : dA ≠ dL := hneL k_dA k_dL (Nat.ne_of_beq_eq_false rfl)
                  have h772 : f712 dA = some (.inl (cI G, 12, .inl gA)) := (hEq.k k752) _ _ h677 (ninc nd_dA_dQ (ninc n678 (ninc n782 (ninc n781 (ninc n780 (ninc n676 (ninc n779 (ninc n778 (ninc n777 (ninc n776 (ninc n775 (ninc n774 (ninc n773 nin0)))))))))))))
                  refine hp_V (ci := 5) (As := [.int 1, .int i, .int o]) (rest := []) B0 hw hS (c_W5_answers hl G f712 mo dW dA dQ dM dS dL dR dT dZ dI dH dN dK dJ dU dO dF dP dE dX dY dG vth vpk vpc vnx vgv h753 hND gM gA h766 h772 hSA (B + 1) ⟨_, _, _, _, _, _, _, _, _, _, _, _, _, k_dQ_n750, k_dS_n750, k_dL_n750, k_dR_n750, k_dT_n750, k_dZ_n750, k_dI_n750, k_dH_n750, k_dN_n750, k_dK_n750, k_dJ_n750, k_dU_n750, k_dO_n750, hHd9_n750, (hMn.mono hMn9_n750 (by omega))⟩ (by omega) 1 i o (Or.inr rfl)) mV_X5_answers qM_X5_110 rfl h753 rfl rfl hl9.1 (Nat.le_of_ble_eq_true rfl) ⟨⟨Nat.le_of_ble_eq_true rfl, Nat.le_of_ble_eq_true rfl⟩, Nat.le_of_ble_eq_true rfl, Nat.le_of_ble_eq_true rfl⟩ dX5_comesRequest_86 (fun E ce q9 f783 H locs hPX hw hS hce hcv hcl => ?_) (fun v f783 H locs hP hw hS => ?_)
                  · exact hPX.elim
                  · obtain ⟨ev9, h785, k786⟩ := hP
                    have h785L := h785
                    obtain ⟨gQ_n784, gS_n784, gL_n784, gR_n784, gT_n784, gZ_n784, gI_n784, gH_n784, gN_n784, gK_n784, gJ_n784, gU_n784, gO_n784, k_dQ_n784, k_dS_n784, k_dL_n784, k_dR_n784, k_dT_n784, k_dZ_n784, k_dI_n784, k_dH_n784, k_dN_n784, k_dK_n784, k_dJ_n784, k_dU_n784, k_dO_n784, hHd9_n784, hMn9_n784⟩ := id h785
                    subst ev9
                    refine W.eq (g2 := F0 m 89 ls []) rfl ?_
                    exact hp_vret B0 hw hS hr ⟨Nat.le_of_ble_eq_true rfl, Nat.le_of_ble_eq_true rfl⟩ dX5_comesRequest_89 (⟨rfl, ⟨_, _, _, _, _, _, _, _, _, _, _, _, _, k_dQ_n784, k_dS_n784, k_dL_n784, k_dR_n784, k_dT_n784, k_dZ_n784, k_dI_n784, k_dH_n784, k_dN_n784, k_dK_n784, k_dJ_n784, k_dU_n784, k_dO_n784, hHd9_n784, (hMn.mono hMn9_n784 (by omega))⟩, ((show hEq [dQ, dS, dL, dR, dT, dZ, dI, dH, dN, dK, dJ, dU, dO] f f621 from (by rw [ef621]; exact hEq.up (List.mem_cons_of_mem _ (List.mem_cons_of_mem _ (List.mem_cons_of_mem _ (List.mem_cons_of_mem _ (List.mem_cons_of_mem _ List.mem_cons_self))))))).tr ((show hEq [dQ, dS, dL, dR, dT, dZ, dI, dH, dN, dK, dJ, dU, dO] f621 f669 from (by rw [ef669]; exact hEq.up (List.mem_cons_of_mem _ List.mem_cons_self))).tr ((show hEq [dQ, dS, dL, dR, dT, dZ, dI, dH, dN, dK, dJ, dU, dO] f669 f712 from (hEq.mono k752 (fun _ h9 => h9))).tr (show hEq [dQ, dS, dL, dR, dT, dZ, dI, dH, dN, dK, dJ, dU, dO] f712 f783 from (hEq.mono k786 (fun _ h9 => h9))))))⟩)
        · refine lv_aload_n hx hb dX5_comesRequest_40 rfl (lv_at hl9 0 rfl) ?_
          refine lv_iload_n hx hb dX5_comesRequest_41 rfl (lv_at hl9 1 rfl) ?_
          refine lv_iconst (v := 4) hx hb dX5_comesRequest_42 (by decide) ?_
          refine lv_iconst (v := 0) hx hb dX5_comesRequest_43 (by decide) ?_
          refine lv_iconst (v := 0) hx hb dX5_comesRequest_44 (by decide) ?_
          have h787 : f621 dM = some (.inl (cI G, 2, .inl gM)) := by rw [ef621, va_up_ne _ _ nd_dM_dZ]; exact k_dM
          have n789 : dA ≠ dZ := hneL k_dA k_dZ (Nat.ne_of_beq_eq_false rfl)
          have h788 : f621 dA = some (.inl (cI G, 12, .inl gA)) := by rw [ef621, va_up_ne _ _ n789]; exact k_dA
          have n791 : dQ ≠ dZ := hneL k_dQ k_dZ (Nat.ne_of_beq_eq_false rfl)
          have h790 : f621 dQ = some (.inl (cI G, 12, .inl gQ)) := by rw [ef621, va_up_ne _ _ n791]; exact k_dQ
          have h792 : f621 dL = some (.inl (cI G, 2, .inl gL)) := by rw [ef621, va_up_ne _ _ nd_dL_dZ]; exact k_dL
          have h793 : f621 dR = some (.inl (cI G, 2, .inl gR)) := by rw [ef621, va_up_ne _ _ nd_dR_dZ]; exact k_dR
          have h794 : f621 dT = some (.inl (cI G, 2, .inl gT)) := by rw [ef621, va_up_ne _ _ nd_dT_dZ]; exact k_dT
          have h795 : f621 dI = some (.inl (cI G, 2, .inl gI)) := by rw [ef621, va_up_ne _ _ (Ne.symm nd_dZ_dI)]; exact k_dI
          have h796 : f621 dH = some (.inl (cI G, 2, .inl gH)) := by rw [ef621, va_up_ne _ _ (Ne.symm nd_dZ_dH)]; exact k_dH
          have h797 : f621 dN = some (.inl (cI G, 2, .inl gN)) := by rw [ef621, va_up_ne _ _ (Ne.symm nd_dZ_dN)]; exact k_dN
          have n799 : dK ≠ dZ := hneL k_dK k_dZ (Nat.ne_of_beq_eq_false rfl)
          have h798 : f621 dK = some (.inl (cI G, 2048, .inl gK)) := by rw [ef621, va_up_ne _ _ n799]; exact k_dK
          have n801 : dJ ≠ dZ := hneL k_dJ k_dZ (Nat.ne_of_beq_eq_false rfl)
          have h800 : f621 dJ = some (.inl (cI G, 2048, .inl gJ)) := by rw [ef621, va_up_ne _ _ n801]; exact k_dJ
          have n803 : dU ≠ dZ := hneL k_dU k_dZ (Nat.ne_of_beq_eq_false rfl)
          have h802 : f621 dU = some (.inl (cI G, 2048, .inl gU)) := by rw [ef621, va_up_ne _ _ n803]; exact k_dU
          have n805 : dO ≠ dZ := hneL k_dO k_dZ (Nat.ne_of_beq_eq_false rfl)
          have h804 : f621 dO = some (.inl (cI G, 2048, .inl gO)) := by rw [ef621, va_up_ne _ _ n805]; exact k_dO
          refine hp_V (ci := 5) (As := [.int 1, .int 4, .int 0, .int 0]) (rest := []) B0 hw hS (c_W5_sends hl G f621 mo dW dA dQ dM dS dL dR dT dZ dI dH dN dK dJ dU dO dF dP dE dX dY dG vth vpk vpc vnx vgv h623 hND gM gA h787 h788 hSA B ⟨_, _, _, _, _, _, _, _, _, _, _, _, _, h790, h626, h792, h793, h794, h622, h795, h796, h797, h798, h800, h802, h804, hHd9, (hMn.mono hMn9 (by omega))⟩ (by omega) 1 4 0 0 (Or.inr rfl)) mV_X5_sends qM_X5_96 rfl h623 rfl rfl hl9.1 (Nat.le_of_ble_eq_true rfl) ⟨⟨Nat.le_of_ble_eq_true rfl, Nat.le_of_ble_eq_true rfl⟩, Nat.le_of_ble_eq_true rfl, Nat.le_of_ble_eq_true rfl⟩ dX5_comesRequest_45 (fun E ce q9 f806 H locs hPX hw hS hce hcv hcl => ?_) (fun v f806 H locs hP hw hS => ?_)
          · exact hPX.elim
          · obtain ⟨ev9, h808, k809⟩ := hP
            have h808L := h808
            obtain ⟨gQ_n807, gS_n807, gL_n807, gR_n807, gT_n807, gZ_n807, gI_n807, gH_n807, gN_n807, gK_n807, gJ_n807, gU_n807, gO_n807, k_dQ_n807, k_dS_n807, k_dL_n807, k_dR_n807, k_dT_n807, k_dZ_n807, k_dI_n807, k_dH_n807, k_dN_n807, k_dK_n807, k_dJ_n807, k_dU_n807, k_dO_n807, hHd9_n807, hMn9_n807⟩ := id h808
            subst ev9
            refine W.eq (g2 := F0 m 48 ls []) rfl ?_
            exact hp_vret B0 hw hS hr ⟨Nat.le_of_ble_eq_true rfl, Nat.le_of_ble_eq_true rfl⟩ dX5_comesRequest_48 (⟨rfl, ⟨_, _, _, _, _, _, _, _, _, _, _, _, _, k_dQ_n807, k_dS_n807, k_dL_n807, k_dR_n807, k_dT_n807, k_dZ_n807, k_dI_n807, k_dH_n807, k_dN_n807, k_dK_n807, k_dJ_n807, k_dU_n807, k_dO_n807, hHd9_n807, (hMn.mono hMn9_n807 (by omega))⟩, ((show hEq [dQ, dS, dL, dR, dT, dZ, dI, dH, dN, dK, dJ, dU, dO] f f621 from (by rw [ef621]; exact hEq.up (List.mem_cons_of_mem _ (List.mem_cons_of_mem _ (List.mem_cons_of_mem _ (List.mem_cons_of_mem _ (List.mem_cons_of_mem _ List.mem_cons_self))))))).tr (show hEq [dQ, dS, dL, dR, dT, dZ, dI, dH, dN, dK, dJ, dU, dO] f621 f806 from (hEq.mono k809 (fun _ h9 => h9))))⟩)
      · have n811 : dQ ≠ dZ := hneL k_dQ k_dZ (Nat.ne_of_beq_eq_false rfl)
        have h810 : f621 dQ = some (.inl (cI G, 12, .inl gQ)) := by rw [ef621, va_up_ne _ _ n811]; exact k_dQ
        have h812 : f621 dS = some (.inl (cI G, 2, .inl gS)) := by rw [ef621, va_up_ne _ _ nd_dS_dZ]; exact k_dS
        have h813 : f621 dL = some (.inl (cI G, 2, .inl gL)) := by rw [ef621, va_up_ne _ _ nd_dL_dZ]; exact k_dL
        have h814 : f621 dR = some (.inl (cI G, 2, .inl gR)) := by rw [ef621, va_up_ne _ _ nd_dR_dZ]; exact k_dR
        have h815 : f621 dT = some (.inl (cI G, 2, .inl gT)) := by rw [ef621, va_up_ne _ _ nd_dT_dZ]; exact k_dT
        have h816 : f621 dI = some (.inl (cI G, 2, .inl gI)) := by rw [ef621, va_up_ne _ _ (Ne.symm nd_dZ_dI)]; exact k_dI
        have h817 : f621 dH = some (.inl (cI G, 2, .inl gH)) := by rw [ef621, va_up_ne _ _ (Ne.symm nd_dZ_dH)]; exact k_dH
        have h818 : f621 dN = some (.inl (cI G, 2, .inl gN)) := by rw [ef621, va_up_ne _ _ (Ne.symm nd_dZ_dN)]; exact k_dN
        have n820 : dK ≠ dZ := hneL k_dK k_dZ (Nat.ne_of_beq_eq_false rfl)
        have h819 : f621 dK = some (.inl (cI G, 2048, .inl gK)) := by rw [ef621, va_up_ne _ _ n820]; exact k_dK
        have n822 : dJ ≠ dZ := hneL k_dJ k_dZ (Nat.ne_of_beq_eq_false rfl)
        have h821 : f621 dJ = some (.inl (cI G, 2048, .inl gJ)) := by rw [ef621, va_up_ne _ _ n822]; exact k_dJ
        have n824 : dU ≠ dZ := hneL k_dU k_dZ (Nat.ne_of_beq_eq_false rfl)
        have h823 : f621 dU = some (.inl (cI G, 2048, .inl gU)) := by rw [ef621, va_up_ne _ _ n824]; exact k_dU
        have n826 : dO ≠ dZ := hneL k_dO k_dZ (Nat.ne_of_beq_eq_false rfl)
        have h825 : f621 dO = some (.inl (cI G, 2048, .inl gO)) := by rw [ef621, va_up_ne _ _ n826]; exact k_dO
        exact hp_vret B0 hw hS hr ⟨Nat.le_of_ble_eq_true rfl, Nat.le_of_ble_eq_true rfl⟩ dX5_comesRequest_30 (⟨rfl, ⟨_, _, _, _, _, _, _, _, _, _, _, _, _, h810, h812, h813, h814, h815, h622, h816, h817, h818, h819, h821, h823, h825, hHd9, (hMn.mono hMn9 (by omega))⟩, (show hEq [dQ, dS, dL, dR, dT, dZ, dI, dH, dN, dK, dJ, dU, dO] f f621 from (by rw [ef621]; exact hEq.up (List.mem_cons_of_mem _ (List.mem_cons_of_mem _ (List.mem_cons_of_mem _ (List.mem_cons_of_mem _ (List.mem_cons_of_mem _ List.mem_cons_self)))))))⟩)

set_option maxHeartbeats 4000000 in
set_option maxRecDepth 100000 in
theorem c_W5_comesAnswer {l : Launch} (hl : l.stackTraces = false) (G : hG) (f : hM) (mo dW dA dQ dM dS dL dR dT dZ dI dH dN dK dJ dU dO dF dP dE dX dY dG : Nat) (vth vpk vpc vnx vgv : Int32) (k_mo : f mo = some (.inr (5, [.int vth, .ref dW, .ref dA, .ref dQ, .ref dM, .ref dS, .ref dL, .ref dR, .ref dT, .ref dZ, .ref dI, .ref dH, .ref dN, .ref dK, .ref dJ, .ref dU, .ref dO, .int vpk, .int vpc, .ref dF, .ref dP, .ref dE, .ref dX, .ref dY, .int vnx, .int vgv, .ref dG]))) (hND : ND5 dW dA dQ dM dS dL dR dT dZ dI dH dN dK dJ dU dO dF dP dE dX dY dG) (gM gA : Nat → Int32) (k_dM : f dM = some (.inl (cI G, 2, .inl gM))) (k_dA : f dA = some (.inl (cI G, 12, .inl gA))) (hSA : ∀ j, j < 12 → sA (gA j)) (B : Nat) (hLM : LM G f dQ dS dL dR dT dZ dI dH dN dK dJ dU dO B) (hBB : B + 0 < 100000) (ee k o : Int32) (he : sE ee) : CT l yX5_comesAnswer (.code yX5_comesAnswer cX5_comesAnswer 6 none) 2 48 0 0 G [.ref mo, .int ee, .int k, .int o] f (fun v f1 => v = none ∧ LM G f1 dQ dS dL dR dT dZ dI dH dN dK dJ dU dO (B + 1) ∧ hEq [dQ, dS, dL, dR, dT, dZ, dI, dH, dN, dK, dJ, dU, dO] f f1) (fun E f1 => False) := by
  refine hp_start hl (own := RX5) (by decide) rfl (Nat.le_of_ble_eq_true rfl) ?_
  intro p e s m args below meth c B0 hr hnm hout hw hS ls hl9
  have hx := B0.1
  have hb := B0.2.1
  have hl9 : lv_has ls 6 [(0, .ref mo), (1, .int ee), (2, .int k), (3, .int o)] := hl9
  obtain ⟨nd_dW_dA, nd_dW_dQ, nd_dA_dQ, nd_dM_dS, nd_dM_dL, nd_dM_dR, nd_dM_dT, nd_dM_dZ, nd_dM_dI, nd_dM_dH, nd_dM_dN, nd_dS_dL, nd_dS_dR, nd_dS_dT, nd_dS_dZ, nd_dS_dI, nd_dS_dH, nd_dS_dN, nd_dL_dR, nd_dL_dT, nd_dL_dZ, nd_dL_dI, nd_dL_dH, nd_dL_dN, nd_dR_dT, nd_dR_dZ, nd_dR_dI, nd_dR_dH, nd_dR_dN, nd_dT_dZ, nd_dT_dI, nd_dT_dH, nd_dT_dN, nd_dZ_dI, nd_dZ_dH, nd_dZ_dN, nd_dI_dH, nd_dI_dN, nd_dH_dN, nd_dK_dJ, nd_dK_dU, nd_dK_dO, nd_dJ_dU, nd_dJ_dO, nd_dU_dO, nd_dP_dE, nd_dX_dY⟩ := id hND
  obtain ⟨gQ, gS, gL, gR, gT, gZ, gI, gH, gN, gK, gJ, gU, gO, k_dQ, k_dS, k_dL, k_dR, k_dT, k_dZ, k_dI, k_dH, k_dN, k_dK, k_dJ, k_dU, k_dO, hHd9, hMn9⟩ := id hLM
  rcases he with rfl | rfl
  · refine lv_iload_n hx hb dX5_comesAnswer_0 rfl (lv_at hl9 2 rfl) ?_
    refine lv_iconst (v := 1) hx hb dX5_comesAnswer_1 (by decide) ?_
    refine lv_icmp_ne (tgt := 27) hx hb dX5_comesAnswer_2 (by decide) (fun c1 => ?_) (fun c1 => ?_)
    · refine lv_iconst (v := 0) hx hb dX5_comesAnswer_27 (by decide) ?_
      refine lv_istore (lv' := [(4, .int 0), (0, .ref mo), (1, .int 0), (2, .int k), (3, .int o)]) hx hb dX5_comesAnswer_28 hl9 (by decide) rfl (fun ls hl9 => ?_)
      refine hp_for (nL := 6) (pc := 30) (fun j f9 lv9 => (∃ g9 : Nat → Int32, f9 = va_up f dQ (some (.inl (cI G, 12, .inl g9)))) ∧ lv9 = [(4, .int (nI j)), (0, .ref mo), (1, .int 0), (2, .int k), (3, .int o)]) 6 (fun j f9 lv9 H locs ls hj hI hw hS hl9 ih => ?_) (fun f9 lv9 H locs ls hI hw hS hl9 => ?_) 6 0 (by decide) f _ _ _ ls ⟨⟨_, va_up_id k_dQ⟩, rfl⟩ hw hS (lv_sub hl9 [0, 1, 2, 3, 4] rfl)
      · obtain ⟨⟨g9, efq⟩, el9⟩ := hI
        rw [el9] at hl9
        have h2 : f9 dQ = some (.inl (cI G, 12, .inl g9)) := by rw [efq, va_up_self]
        refine lv_iload hx hb dX5_comesAnswer_30 (lv_at hl9 0 rfl) ?_
        refine lv_bipush (v := 6) hx hb dX5_comesAnswer_32 (by decide) ?_
        refine lv_icmp_ge (tgt := 80) hx hb dX5_comesAnswer_34 (by decide) (fun c9 => absurd c9 (by rw [show (6 : Int32) = nI 6 from rfl]; exact nI_ge hj (by omega))) (fun _ => ?_)
        refine lv_iload_n hx hb dX5_comesAnswer_37 rfl (lv_at hl9 4 rfl) ?_
        refine lv_iload hx hb dX5_comesAnswer_38 (lv_at hl9 0 rfl) ?_
        refine hp_S (As := [.int o, .int (nI j)]) (rest := []) B0 hw hS (c_W5_valueIn hl G f9 o j hj) mS_X5_valueIn qM_X5_100 rfl rfl hl9.1 (Nat.le_of_ble_eq_true rfl) ⟨⟨Nat.le_of_ble_eq_true rfl, Nat.le_of_ble_eq_true rfl⟩, Nat.le_of_ble_eq_true rfl, Nat.le_of_ble_eq_true rfl⟩ dX5_comesAnswer_40 (fun E ce q9 f3 H locs hPX hw hS hce hcv hcl => ?_) (fun v f3 H locs hP hw hS => ?_)
        · exact hPX.elim
        · obtain ⟨⟨r4, ev9⟩, ef9⟩ := hP
          rw [ef9] at hw
          subst ev9
          refine W.eq (g2 := F0 m 43 ls [.int r4]) rfl ?_
          refine lv_istore (lv' := [(5, .int r4), (4, .int (nI j)), (0, .ref mo), (1, .int 0), (2, .int k), (3, .int o)]) hx hb dX5_comesAnswer_43 hl9 (by decide) rfl (fun ls hl9 => ?_)
          refine lv_iload hx hb dX5_comesAnswer_45 (lv_at hl9 0 rfl) ?_
          refine lv_iconst (v := (-1)) hx hb dX5_comesAnswer_47 (by decide) ?_
          refine lv_icmp_eq (tgt := 74) hx hb dX5_comesAnswer_48 (by decide) (fun c5 => ?_) (fun c5 => ?_)
          · refine lv_iinc (v := (nI (j + 1))) (lv' := [(4, .int (nI (j + 1))), (5, .int r4), (0, .ref mo), (1, .int 0), (2, .int k), (3, .int o)]) hx hb dX5_comesAnswer_74 hl9 (k := 1) rfl (nI_1 j) (by decide) rfl (fun ls hl9 => ?_)
            refine lv_goto (tgt := 30) hx hb dX5_comesAnswer_77 (by decide) ?_
            exact ih _ _ H locs ls ⟨⟨_, efq⟩, rfl⟩ hw hS (lv_sub hl9 [0, 2, 3, 4, 5] rfl)
          · refine lv_aload_n hx hb dX5_comesAnswer_51 rfl (lv_at hl9 2 rfl) ?_
            have n7 : mo ≠ dQ := hne k_mo k_dQ (Nat.ne_of_beq_eq_false rfl)
            have h6 : f9 mo = some (.inr (5, [.int vth, .ref dW, .ref dA, .ref dQ, .ref dM, .ref dS, .ref dL, .ref dR, .ref dT, .ref dZ, .ref dI, .ref dH, .ref dN, .ref dK, .ref dJ, .ref dU, .ref dO, .int vpk, .int vpc, .ref dF, .ref dP, .ref dE, .ref dX, .ref dY, .int vnx, .int vgv, .ref dG])) := by rw [efq, va_up_ne _ _ n7]; exact k_mo
            refine hp_get B0 hw 5 rfl in_X5 h6 3 (by decide) qF_X5_16 rfl dX5_comesAnswer_52 ?_
            refine lv_bipush (v := 6) hx hb dX5_comesAnswer_55 (by decide) ?_
            refine lv_iload_n hx hb dX5_comesAnswer_57 rfl (lv_at hl9 3 rfl) ?_
            refine lv_imul hx hb dX5_comesAnswer_58 ?_
            refine hp_c (v := 0) (by decide) ?_
            refine lv_iload hx hb dX5_comesAnswer_59 (lv_at hl9 1 rfl) ?_
            refine lv_iadd hx hb dX5_comesAnswer_61 ?_
            refine hp_c (v := (nI j)) (Int32.zero_add _) ?_
            refine lv_iload_n hx hb dX5_comesAnswer_62 rfl (lv_at hl9 4 rfl) ?_
            refine lv_iconst (v := 2) hx hb dX5_comesAnswer_63 (by decide) ?_
            refine lv_icmp_ne (tgt := 72) hx hb dX5_comesAnswer_64 (by decide) (fun c8 => ?_) (fun c8 => ?_)
            · refine lv_iconst (v := (-1)) hx hb dX5_comesAnswer_72 (by decide) ?_
              refine hp_iast B0 hw hS h2 (vp_in_nI (show j < 12 by omega) (by decide)) dX5_comesAnswer_73 (fun H locs f9 ef9 hw hS => ?_)
              have e10 : f9 = va_up f dQ (some (.inl (cI G, 12, .inl (upd g9 ((nI j) : Int32).toNatClampNeg (-1))))) := by rw [ef9, efq, bx_uu]
              have h11 : f9 dQ = some (.inl (cI G, 12, .inl (upd g9 ((nI j) : Int32).toNatClampNeg (-1)))) := by rw [ef9, va_up_self]
              refine lv_iinc (v := (nI (j + 1))) (lv' := [(4, .int (nI (j + 1))), (5, .int r4), (0, .ref mo), (1, .int 0), (2, .int k), (3, .int o)]) hx hb dX5_comesAnswer_74 hl9 (k := 1) rfl (nI_1 j) (by decide) rfl (fun ls hl9 => ?_)
              refine lv_goto (tgt := 30) hx hb dX5_comesAnswer_77 (by decide) ?_
              exact ih _ _ H locs ls ⟨⟨_, e10⟩, rfl⟩ hw hS (lv_sub hl9 [0, 2, 3, 4, 5] rfl)
            · refine lv_iload hx hb dX5_comesAnswer_67 (lv_at hl9 0 rfl) ?_
              refine lv_goto (tgt := 73) hx hb dX5_comesAnswer_69 (by decide) ?_
              refine hp_iast B0 hw hS h2 (vp_in_nI (show j < 12 by omega) (by decide)) dX5_comesAnswer_73 (fun H locs f12 ef12 hw hS => ?_)
              have e13 : f12 = va_up f dQ (some (.inl (cI G, 12, .inl (upd g9 ((nI j) : Int32).toNatClampNeg r4)))) := by rw [ef12, efq, bx_uu]
              have h14 : f12 dQ = some (.inl (cI G, 12, .inl (upd g9 ((nI j) : Int32).toNatClampNeg r4))) := by rw [ef12, va_up_self]
              refine lv_iinc (v := (nI (j + 1))) (lv' := [(4, .int (nI (j + 1))), (5, .int r4), (0, .ref mo), (1, .int 0), (2, .int k), (3, .int o)]) hx hb dX5_comesAnswer_74 hl9 (k := 1) rfl (nI_1 j) (by decide) rfl (fun ls hl9 => ?_)
              refine lv_goto (tgt := 30) hx hb dX5_comesAnswer_77 (by decide) ?_
              exact ih _ _ H locs ls ⟨⟨_, e13⟩, rfl⟩ hw hS (lv_sub hl9 [0, 2, 3, 4, 5] rfl)
      · obtain ⟨⟨g9, efq⟩, el9⟩ := hI
        rw [el9] at hl9
        have h15 : f9 dQ = some (.inl (cI G, 12, .inl g9)) := by rw [efq, va_up_self]
        refine lv_iload hx hb dX5_comesAnswer_30 (lv_at hl9 0 rfl) ?_
        refine lv_bipush (v := 6) hx hb dX5_comesAnswer_32 (by decide) ?_
        refine lv_icmp_ge (tgt := 80) hx hb dX5_comesAnswer_34 (by decide) (fun _ => ?_) (fun c9 => absurd (by decide) c9)
        refine lv_aload_n hx hb dX5_comesAnswer_80 rfl (lv_at hl9 1 rfl) ?_
        refine lv_iload_n hx hb dX5_comesAnswer_81 rfl (lv_at hl9 2 rfl) ?_
        have n17 : mo ≠ dQ := hne k_mo k_dQ (Nat.ne_of_beq_eq_false rfl)
        have h16 : f9 mo = some (.inr (5, [.int vth, .ref dW, .ref dA, .ref dQ, .ref dM, .ref dS, .ref dL, .ref dR, .ref dT, .ref dZ, .ref dI, .ref dH, .ref dN, .ref dK, .ref dJ, .ref dU, .ref dO, .int vpk, .int vpc, .ref dF, .ref dP, .ref dE, .ref dX, .ref dY, .int vnx, .int vgv, .ref dG])) := by rw [efq, va_up_ne _ _ n17]; exact k_mo
        have n19 : dM ≠ dQ := hneL k_dM k_dQ (Nat.ne_of_beq_eq_false rfl)
        have h18 : f9 dM = some (.inl (cI G, 2, .inl gM)) := by rw [efq, va_up_ne _ _ n19]; exact k_dM
        have h20 : f9 dA = some (.inl (cI G, 12, .inl gA)) := by rw [efq, va_up_ne _ _ nd_dA_dQ]; exact k_dA
        have n22 : dS ≠ dQ := hneL k_dS k_dQ (Nat.ne_of_beq_eq_false rfl)
        have h21 : f9 dS = some (.inl (cI G, 2, .inl gS)) := by rw [efq, va_up_ne _ _ n22]; exact k_dS
        have n24 : dL ≠ dQ := hneL k_dL k_dQ (Nat.ne_of_beq_eq_false rfl)
        have h23 : f9 dL = some (.inl (cI G, 2, .inl gL)) := by rw [efq, va_up_ne _ _ n24]; exact k_dL
        have n26 : dR ≠ dQ := hneL k_dR k_dQ (Nat.ne_of_beq_eq_false rfl)
        have h25 : f9 dR = some (.inl (cI G, 2, .inl gR)) := by rw [efq, va_up_ne _ _ n26]; exact k_dR
        have n28 : dT ≠ dQ := hneL k_dT k_dQ (Nat.ne_of_beq_eq_false rfl)
        have h27 : f9 dT = some (.inl (cI G, 2, .inl gT)) := by rw [efq, va_up_ne _ _ n28]; exact k_dT
        have n30 : dZ ≠ dQ := hneL k_dZ k_dQ (Nat.ne_of_beq_eq_false rfl)
        have h29 : f9 dZ = some (.inl (cZ G, 2, .inl gZ)) := by rw [efq, va_up_ne _ _ n30]; exact k_dZ
        have n32 : dI ≠ dQ := hneL k_dI k_dQ (Nat.ne_of_beq_eq_false rfl)
        have h31 : f9 dI = some (.inl (cI G, 2, .inl gI)) := by rw [efq, va_up_ne _ _ n32]; exact k_dI
        have n34 : dH ≠ dQ := hneL k_dH k_dQ (Nat.ne_of_beq_eq_false rfl)
        have h33 : f9 dH = some (.inl (cI G, 2, .inl gH)) := by rw [efq, va_up_ne _ _ n34]; exact k_dH
        have n36 : dN ≠ dQ := hneL k_dN k_dQ (Nat.ne_of_beq_eq_false rfl)
        have h35 : f9 dN = some (.inl (cI G, 2, .inl gN)) := by rw [efq, va_up_ne _ _ n36]; exact k_dN
        have n38 : dK ≠ dQ := hneL k_dK k_dQ (Nat.ne_of_beq_eq_false rfl)
        have h37 : f9 dK = some (.inl (cI G, 2048, .inl gK)) := by rw [efq, va_up_ne _ _ n38]; exact k_dK
        have n40 : dJ ≠ dQ := hneL k_dJ k_dQ (Nat.ne_of_beq_eq_false rfl)
        have h39 : f9 dJ = some (.inl (cI G, 2048, .inl gJ)) := by rw [efq, va_up_ne _ _ n40]; exact k_dJ
        have n42 : dU ≠ dQ := hneL k_dU k_dQ (Nat.ne_of_beq_eq_false rfl)
        have h41 : f9 dU = some (.inl (cI G, 2048, .inl gU)) := by rw [efq, va_up_ne _ _ n42]; exact k_dU
        have n44 : dO ≠ dQ := hneL k_dO k_dQ (Nat.ne_of_beq_eq_false rfl)
        have h43 : f9 dO = some (.inl (cI G, 2048, .inl gO)) := by rw [efq, va_up_ne _ _ n44]; exact k_dO
        refine hp_V (ci := 5) (As := [.int 0]) (rest := []) B0 hw hS (c_W5_begs hl G f9 mo dW dA dQ dM dS dL dR dT dZ dI dH dN dK dJ dU dO dF dP dE dX dY dG vth vpk vpc vnx vgv h16 hND gM gA h18 h20 hSA B ⟨_, _, _, _, _, _, _, _, _, _, _, _, _, h15, h21, h23, h25, h27, h29, h31, h33, h35, h37, h39, h41, h43, hHd9, (hMn.mono hMn9 (by omega))⟩ (by omega) 0 (Or.inl rfl)) mV_X5_begs qM_X5_107 rfl h16 rfl rfl hl9.1 (Nat.le_of_ble_eq_true rfl) ⟨⟨Nat.le_of_ble_eq_true rfl, Nat.le_of_ble_eq_true rfl⟩, Nat.le_of_ble_eq_true rfl, Nat.le_of_ble_eq_true rfl⟩ dX5_comesAnswer_82 (fun E ce q9 f45 H locs hPX hw hS hce hcv hcl => ?_) (fun v f45 H locs hP hw hS => ?_)
        · exact hPX.elim
        · obtain ⟨hv9, hr9⟩ := hP
          rcases hv9 with ev9 | ev9
          · have hP := And.intro ev9 hr9
            obtain ⟨ev8, h47, k48⟩ := hP
            have h47L := h47
            obtain ⟨gQ_n46, gS_n46, gL_n46, gR_n46, gT_n46, gZ_n46, gI_n46, gH_n46, gN_n46, gK_n46, gJ_n46, gU_n46, gO_n46, k_dQ_n46, k_dS_n46, k_dL_n46, k_dR_n46, k_dT_n46, k_dZ_n46, k_dI_n46, k_dH_n46, k_dN_n46, k_dK_n46, k_dJ_n46, k_dU_n46, k_dO_n46, hHd9_n46, hMn9_n46⟩ := id h47
            subst ev8
            refine W.eq (g2 := F0 m 85 ls [.int 0]) rfl ?_
            refine lv_pop hx hb dX5_comesAnswer_85 rfl ?_
            exact hp_vret B0 hw hS hr ⟨Nat.le_of_ble_eq_true rfl, Nat.le_of_ble_eq_true rfl⟩ dX5_comesAnswer_86 (⟨rfl, ⟨_, _, _, _, _, _, _, _, _, _, _, _, _, k_dQ_n46, k_dS_n46, k_dL_n46, k_dR_n46, k_dT_n46, k_dZ_n46, k_dI_n46, k_dH_n46, k_dN_n46, k_dK_n46, k_dJ_n46, k_dU_n46, k_dO_n46, hHd9_n46, (hMn.mono hMn9_n46 (by omega))⟩, ((show hEq [dQ, dS, dL, dR, dT, dZ, dI, dH, dN, dK, dJ, dU, dO] f f9 from (by rw [efq]; exact hEq.up List.mem_cons_self)).tr (show hEq [dQ, dS, dL, dR, dT, dZ, dI, dH, dN, dK, dJ, dU, dO] f9 f45 from (hEq.mono k48 (fun _ h9 => h9))))⟩)
          · have hP := And.intro ev9 hr9
            obtain ⟨ev8, h50, k51⟩ := hP
            have h50L := h50
            obtain ⟨gQ_n49, gS_n49, gL_n49, gR_n49, gT_n49, gZ_n49, gI_n49, gH_n49, gN_n49, gK_n49, gJ_n49, gU_n49, gO_n49, k_dQ_n49, k_dS_n49, k_dL_n49, k_dR_n49, k_dT_n49, k_dZ_n49, k_dI_n49, k_dH_n49, k_dN_n49, k_dK_n49, k_dJ_n49, k_dU_n49, k_dO_n49, hHd9_n49, hMn9_n49⟩ := id h50
            subst ev8
            refine W.eq (g2 := F0 m 85 ls [.int 1]) rfl ?_
            refine lv_pop hx hb dX5_comesAnswer_85 rfl ?_
            exact hp_vret B0 hw hS hr ⟨Nat.le_of_ble_eq_true rfl, Nat.le_of_ble_eq_true rfl⟩ dX5_comesAnswer_86 (⟨rfl, ⟨_, _, _, _, _, _, _, _, _, _, _, _, _, k_dQ_n49, k_dS_n49, k_dL_n49, k_dR_n49, k_dT_n49, k_dZ_n49, k_dI_n49, k_dH_n49, k_dN_n49, k_dK_n49, k_dJ_n49, k_dU_n49, k_dO_n49, hHd9_n49, (hMn.mono hMn9_n49 (by omega))⟩, ((show hEq [dQ, dS, dL, dR, dT, dZ, dI, dH, dN, dK, dJ, dU, dO] f f9 from (by rw [efq]; exact hEq.up List.mem_cons_self)).tr (show hEq [dQ, dS, dL, dR, dT, dZ, dI, dH, dN, dK, dJ, dU, dO] f9 f45 from (hEq.mono k51 (fun _ h9 => h9))))⟩)
    · refine lv_aload_n hx hb dX5_comesAnswer_5 rfl (lv_at hl9 0 rfl) ?_
      refine hp_get B0 hw 5 rfl in_X5 k_mo 5 (by decide) qF_X5_22 rfl dX5_comesAnswer_6 ?_
      refine lv_iload_n hx hb dX5_comesAnswer_9 rfl (lv_at hl9 1 rfl) ?_
      refine lv_aload_n hx hb dX5_comesAnswer_10 rfl (lv_at hl9 0 rfl) ?_
      refine hp_get B0 hw 5 rfl in_X5 k_mo 5 (by decide) qF_X5_22 rfl dX5_comesAnswer_11 ?_
      refine lv_iload_n hx hb dX5_comesAnswer_14 rfl (lv_at hl9 1 rfl) ?_
      refine hp_iald B0 hw k_dS (by unfold vp_in; decide) dX5_comesAnswer_15 ?_
      refine lv_iconst (v := 1) hx hb dX5_comesAnswer_16 (by decide) ?_
      refine lv_icmp_ne (tgt := 24) hx hb dX5_comesAnswer_17 (by decide) (fun c52 => ?_) (fun c52 => ?_)
      · refine lv_iconst (v := 4) hx hb dX5_comesAnswer_24 (by decide) ?_
        refine hp_iast B0 hw hS k_dS (by unfold vp_in; decide) dX5_comesAnswer_25 (fun H locs f53 ef53 hw hS => ?_)
        have h54 : f53 dS = some (.inl (cI G, 2, .inl (upd gS (0 : Int32).toNatClampNeg 4))) := by rw [ef53, va_up_self]
        have n56 : dQ ≠ dS := hneL k_dQ k_dS (Nat.ne_of_beq_eq_false rfl)
        have h55 : f53 dQ = some (.inl (cI G, 12, .inl gQ)) := by rw [ef53, va_up_ne _ _ n56]; exact k_dQ
        have h57 : f53 dL = some (.inl (cI G, 2, .inl gL)) := by rw [ef53, va_up_ne _ _ (Ne.symm nd_dS_dL)]; exact k_dL
        have h58 : f53 dR = some (.inl (cI G, 2, .inl gR)) := by rw [ef53, va_up_ne _ _ (Ne.symm nd_dS_dR)]; exact k_dR
        have h59 : f53 dT = some (.inl (cI G, 2, .inl gT)) := by rw [ef53, va_up_ne _ _ (Ne.symm nd_dS_dT)]; exact k_dT
        have h60 : f53 dZ = some (.inl (cZ G, 2, .inl gZ)) := by rw [ef53, va_up_ne _ _ (Ne.symm nd_dS_dZ)]; exact k_dZ
        have h61 : f53 dI = some (.inl (cI G, 2, .inl gI)) := by rw [ef53, va_up_ne _ _ (Ne.symm nd_dS_dI)]; exact k_dI
        have h62 : f53 dH = some (.inl (cI G, 2, .inl gH)) := by rw [ef53, va_up_ne _ _ (Ne.symm nd_dS_dH)]; exact k_dH
        have h63 : f53 dN = some (.inl (cI G, 2, .inl gN)) := by rw [ef53, va_up_ne _ _ (Ne.symm nd_dS_dN)]; exact k_dN
        have n65 : dK ≠ dS := hneL k_dK k_dS (Nat.ne_of_beq_eq_false rfl)
        have h64 : f53 dK = some (.inl (cI G, 2048, .inl gK)) := by rw [ef53, va_up_ne _ _ n65]; exact k_dK
        have n67 : dJ ≠ dS := hneL k_dJ k_dS (Nat.ne_of_beq_eq_false rfl)
        have h66 : f53 dJ = some (.inl (cI G, 2048, .inl gJ)) := by rw [ef53, va_up_ne _ _ n67]; exact k_dJ
        have n69 : dU ≠ dS := hneL k_dU k_dS (Nat.ne_of_beq_eq_false rfl)
        have h68 : f53 dU = some (.inl (cI G, 2048, .inl gU)) := by rw [ef53, va_up_ne _ _ n69]; exact k_dU
        have n71 : dO ≠ dS := hneL k_dO k_dS (Nat.ne_of_beq_eq_false rfl)
        have h70 : f53 dO = some (.inl (cI G, 2048, .inl gO)) := by rw [ef53, va_up_ne _ _ n71]; exact k_dO
        exact hp_vret B0 hw hS hr ⟨Nat.le_of_ble_eq_true rfl, Nat.le_of_ble_eq_true rfl⟩ dX5_comesAnswer_26 (⟨rfl, ⟨_, _, _, _, _, _, _, _, _, _, _, _, _, h55, h54, h57, h58, h59, h60, h61, h62, h63, h64, h66, h68, h70, hHd9, (hMn.mono hMn9 (by omega))⟩, (show hEq [dQ, dS, dL, dR, dT, dZ, dI, dH, dN, dK, dJ, dU, dO] f f53 from (by rw [ef53]; exact hEq.up (List.mem_cons_of_mem _ List.mem_cons_self)))⟩)
      · refine lv_iconst (v := 2) hx hb dX5_comesAnswer_20 (by decide) ?_
        refine lv_goto (tgt := 25) hx hb dX5_comesAnswer_21 (by decide) ?_
        refine hp_iast B0 hw hS k_dS (by unfold vp_in; decide) dX5_comesAnswer_25 (fun H locs f72 ef72 hw hS => ?_)
        have h73 : f72 dS = some (.inl (cI G, 2, .inl (upd gS (0 : Int32).toNatClampNeg 2))) := by rw [ef72, va_up_self]
        have n75 : dQ ≠ dS := hneL k_dQ k_dS (Nat.ne_of_beq_eq_false rfl)
        have h74 : f72 dQ = some (.inl (cI G, 12, .inl gQ)) := by rw [ef72, va_up_ne _ _ n75]; exact k_dQ
        have h76 : f72 dL = some (.inl (cI G, 2, .inl gL)) := by rw [ef72, va_up_ne _ _ (Ne.symm nd_dS_dL)]; exact k_dL
        have h77 : f72 dR = some (.inl (cI G, 2, .inl gR)) := by rw [ef72, va_up_ne _ _ (Ne.symm nd_dS_dR)]; exact k_dR
        have h78 : f72 dT = some (.inl (cI G, 2, .inl gT)) := by rw [ef72, va_up_ne _ _ (Ne.symm nd_dS_dT)]; exact k_dT
        have h79 : f72 dZ = some (.inl (cZ G, 2, .inl gZ)) := by rw [ef72, va_up_ne _ _ (Ne.symm nd_dS_dZ)]; exact k_dZ
        have h80 : f72 dI = some (.inl (cI G, 2, .inl gI)) := by rw [ef72, va_up_ne _ _ (Ne.symm nd_dS_dI)]; exact k_dI
        have h81 : f72 dH = some (.inl (cI G, 2, .inl gH)) := by rw [ef72, va_up_ne _ _ (Ne.symm nd_dS_dH)]; exact k_dH
        have h82 : f72 dN = some (.inl (cI G, 2, .inl gN)) := by rw [ef72, va_up_ne _ _ (Ne.symm nd_dS_dN)]; exact k_dN
        have n84 : dK ≠ dS := hneL k_dK k_dS (Nat.ne_of_beq_eq_false rfl)
        have h83 : f72 dK = some (.inl (cI G, 2048, .inl gK)) := by rw [ef72, va_up_ne _ _ n84]; exact k_dK
        have n86 : dJ ≠ dS := hneL k_dJ k_dS (Nat.ne_of_beq_eq_false rfl)
        have h85 : f72 dJ = some (.inl (cI G, 2048, .inl gJ)) := by rw [ef72, va_up_ne _ _ n86]; exact k_dJ
        have n88 : dU ≠ dS := hneL k_dU k_dS (Nat.ne_of_beq_eq_false rfl)
        have h87 : f72 dU = some (.inl (cI G, 2048, .inl gU)) := by rw [ef72, va_up_ne _ _ n88]; exact k_dU
        have n90 : dO ≠ dS := hneL k_dO k_dS (Nat.ne_of_beq_eq_false rfl)
        have h89 : f72 dO = some (.inl (cI G, 2048, .inl gO)) := by rw [ef72, va_up_ne _ _ n90]; exact k_dO
        exact hp_vret B0 hw hS hr ⟨Nat.le_of_ble_eq_true rfl, Nat.le_of_ble_eq_true rfl⟩ dX5_comesAnswer_26 (⟨rfl, ⟨_, _, _, _, _, _, _, _, _, _, _, _, _, h74, h73, h76, h77, h78, h79, h80, h81, h82, h83, h85, h87, h89, hHd9, (hMn.mono hMn9 (by omega))⟩, (show hEq [dQ, dS, dL, dR, dT, dZ, dI, dH, dN, dK, dJ, dU, dO] f f72 from (by rw [ef72]; exact hEq.up (List.mem_cons_of_mem _ List.mem_cons_self)))⟩)
  · refine lv_iload_n hx hb dX5_comesAnswer_0 rfl (lv_at hl9 2 rfl) ?_
    refine lv_iconst (v := 1) hx hb dX5_comesAnswer_1 (by decide) ?_
    refine lv_icmp_ne (tgt := 27) hx hb dX5_comesAnswer_2 (by decide) (fun c91 => ?_) (fun c91 => ?_)
    · refine lv_iconst (v := 0) hx hb dX5_comesAnswer_27 (by decide) ?_
      refine lv_istore (lv' := [(4, .int 0), (0, .ref mo), (1, .int 1), (2, .int k), (3, .int o)]) hx hb dX5_comesAnswer_28 hl9 (by decide) rfl (fun ls hl9 => ?_)
      refine hp_for (nL := 6) (pc := 30) (fun j f9 lv9 => (∃ g9 : Nat → Int32, f9 = va_up f dQ (some (.inl (cI G, 12, .inl g9)))) ∧ lv9 = [(4, .int (nI j)), (0, .ref mo), (1, .int 1), (2, .int k), (3, .int o)]) 6 (fun j f9 lv9 H locs ls hj hI hw hS hl9 ih => ?_) (fun f9 lv9 H locs ls hI hw hS hl9 => ?_) 6 0 (by decide) f _ _ _ ls ⟨⟨_, va_up_id k_dQ⟩, rfl⟩ hw hS (lv_sub hl9 [0, 1, 2, 3, 4] rfl)
      · obtain ⟨⟨g9, efq⟩, el9⟩ := hI
        rw [el9] at hl9
        have h92 : f9 dQ = some (.inl (cI G, 12, .inl g9)) := by rw [efq, va_up_self]
        refine lv_iload hx hb dX5_comesAnswer_30 (lv_at hl9 0 rfl) ?_
        refine lv_bipush (v := 6) hx hb dX5_comesAnswer_32 (by decide) ?_
        refine lv_icmp_ge (tgt := 80) hx hb dX5_comesAnswer_34 (by decide) (fun c9 => absurd c9 (by rw [show (6 : Int32) = nI 6 from rfl]; exact nI_ge hj (by omega))) (fun _ => ?_)
        refine lv_iload_n hx hb dX5_comesAnswer_37 rfl (lv_at hl9 4 rfl) ?_
        refine lv_iload hx hb dX5_comesAnswer_38 (lv_at hl9 0 rfl) ?_
        refine hp_S (As := [.int o, .int (nI j)]) (rest := []) B0 hw hS (c_W5_valueIn hl G f9 o j hj) mS_X5_valueIn qM_X5_100 rfl rfl hl9.1 (Nat.le_of_ble_eq_true rfl) ⟨⟨Nat.le_of_ble_eq_true rfl, Nat.le_of_ble_eq_true rfl⟩, Nat.le_of_ble_eq_true rfl, Nat.le_of_ble_eq_true rfl⟩ dX5_comesAnswer_40 (fun E ce q9 f93 H locs hPX hw hS hce hcv hcl => ?_) (fun v f93 H locs hP hw hS => ?_)
        · exact hPX.elim
        · obtain ⟨⟨r94, ev9⟩, ef9⟩ := hP
          rw [ef9] at hw
          subst ev9
          refine W.eq (g2 := F0 m 43 ls [.int r94]) rfl ?_
          refine lv_istore (lv' := [(5, .int r94), (4, .int (nI j)), (0, .ref mo), (1, .int 1), (2, .int k), (3, .int o)]) hx hb dX5_comesAnswer_43 hl9 (by decide) rfl (fun ls hl9 => ?_)
          refine lv_iload hx hb dX5_comesAnswer_45 (lv_at hl9 0 rfl) ?_
          refine lv_iconst (v := (-1)) hx hb dX5_comesAnswer_47 (by decide) ?_
          refine lv_icmp_eq (tgt := 74) hx hb dX5_comesAnswer_48 (by decide) (fun c95 => ?_) (fun c95 => ?_)
          · refine lv_iinc (v := (nI (j + 1))) (lv' := [(4, .int (nI (j + 1))), (5, .int r94), (0, .ref mo), (1, .int 1), (2, .int k), (3, .int o)]) hx hb dX5_comesAnswer_74 hl9 (k := 1) rfl (nI_1 j) (by decide) rfl (fun ls hl9 => ?_)
            refine lv_goto (tgt := 30) hx hb dX5_comesAnswer_77 (by decide) ?_
            exact ih _ _ H locs ls ⟨⟨_, efq⟩, rfl⟩ hw hS (lv_sub hl9 [0, 2, 3, 4, 5] rfl)
          · refine lv_aload_n hx hb dX5_comesAnswer_51 rfl (lv_at hl9 2 rfl) ?_
            have n97 : mo ≠ dQ := hne k_mo k_dQ (Nat.ne_of_beq_eq_false rfl)
            have h96 : f9 mo = some (.inr (5, [.int vth, .ref dW, .ref dA, .ref dQ, .ref dM, .ref dS, .ref dL, .ref dR, .ref dT, .ref dZ, .ref dI, .ref dH, .ref dN, .ref dK, .ref dJ, .ref dU, .ref dO, .int vpk, .int vpc, .ref dF, .ref dP, .ref dE, .ref dX, .ref dY, .int vnx, .int vgv, .ref dG])) := by rw [efq, va_up_ne _ _ n97]; exact k_mo
            refine hp_get B0 hw 5 rfl in_X5 h96 3 (by decide) qF_X5_16 rfl dX5_comesAnswer_52 ?_
            refine lv_bipush (v := 6) hx hb dX5_comesAnswer_55 (by decide) ?_
            refine lv_iload_n hx hb dX5_comesAnswer_57 rfl (lv_at hl9 3 rfl) ?_
            refine lv_imul hx hb dX5_comesAnswer_58 ?_
            refine hp_c (v := 6) (by decide) ?_
            refine lv_iload hx hb dX5_comesAnswer_59 (lv_at hl9 1 rfl) ?_
            refine lv_iadd hx hb dX5_comesAnswer_61 ?_
            refine hp_c (v := (nI (6 + j))) (nI_add 6 j) ?_
            refine lv_iload_n hx hb dX5_comesAnswer_62 rfl (lv_at hl9 4 rfl) ?_
            refine lv_iconst (v := 2) hx hb dX5_comesAnswer_63 (by decide) ?_
            refine lv_icmp_ne (tgt := 72) hx hb dX5_comesAnswer_64 (by decide) (fun c98 => ?_) (fun c98 => ?_)
            · refine lv_iconst (v := (-1)) hx hb dX5_comesAnswer_72 (by decide) ?_
              refine hp_iast B0 hw hS h92 (vp_in_nI (show (6 + j) < 12 by omega) (by decide)) dX5_comesAnswer_73 (fun H locs f99 ef99 hw hS => ?_)
              have e100 : f99 = va_up f dQ (some (.inl (cI G, 12, .inl (upd g9 ((nI (6 + j)) : Int32).toNatClampNeg (-1))))) := by rw [ef99, efq, bx_uu]
              have h101 : f99 dQ = some (.inl (cI G, 12, .inl (upd g9 ((nI (6 + j)) : Int32).toNatClampNeg (-1)))) := by rw [ef99, va_up_self]
              refine lv_iinc (v := (nI (j + 1))) (lv' := [(4, .int (nI (j + 1))), (5, .int r94), (0, .ref mo), (1, .int 1), (2, .int k), (3, .int o)]) hx hb dX5_comesAnswer_74 hl9 (k := 1) rfl (nI_1 j) (by decide) rfl (fun ls hl9 => ?_)
              refine lv_goto (tgt := 30) hx hb dX5_comesAnswer_77 (by decide) ?_
              exact ih _ _ H locs ls ⟨⟨_, e100⟩, rfl⟩ hw hS (lv_sub hl9 [0, 2, 3, 4, 5] rfl)
            · refine lv_iload hx hb dX5_comesAnswer_67 (lv_at hl9 0 rfl) ?_
              refine lv_goto (tgt := 73) hx hb dX5_comesAnswer_69 (by decide) ?_
              refine hp_iast B0 hw hS h92 (vp_in_nI (show (6 + j) < 12 by omega) (by decide)) dX5_comesAnswer_73 (fun H locs f102 ef102 hw hS => ?_)
              have e103 : f102 = va_up f dQ (some (.inl (cI G, 12, .inl (upd g9 ((nI (6 + j)) : Int32).toNatClampNeg r94)))) := by rw [ef102, efq, bx_uu]
              have h104 : f102 dQ = some (.inl (cI G, 12, .inl (upd g9 ((nI (6 + j)) : Int32).toNatClampNeg r94))) := by rw [ef102, va_up_self]
              refine lv_iinc (v := (nI (j + 1))) (lv' := [(4, .int (nI (j + 1))), (5, .int r94), (0, .ref mo), (1, .int 1), (2, .int k), (3, .int o)]) hx hb dX5_comesAnswer_74 hl9 (k := 1) rfl (nI_1 j) (by decide) rfl (fun ls hl9 => ?_)
              refine lv_goto (tgt := 30) hx hb dX5_comesAnswer_77 (by decide) ?_
              exact ih _ _ H locs ls ⟨⟨_, e103⟩, rfl⟩ hw hS (lv_sub hl9 [0, 2, 3, 4, 5] rfl)
      · obtain ⟨⟨g9, efq⟩, el9⟩ := hI
        rw [el9] at hl9
        have h105 : f9 dQ = some (.inl (cI G, 12, .inl g9)) := by rw [efq, va_up_self]
        refine lv_iload hx hb dX5_comesAnswer_30 (lv_at hl9 0 rfl) ?_
        refine lv_bipush (v := 6) hx hb dX5_comesAnswer_32 (by decide) ?_
        refine lv_icmp_ge (tgt := 80) hx hb dX5_comesAnswer_34 (by decide) (fun _ => ?_) (fun c9 => absurd (by decide) c9)
        refine lv_aload_n hx hb dX5_comesAnswer_80 rfl (lv_at hl9 1 rfl) ?_
        refine lv_iload_n hx hb dX5_comesAnswer_81 rfl (lv_at hl9 2 rfl) ?_
        have n107 : mo ≠ dQ := hne k_mo k_dQ (Nat.ne_of_beq_eq_false rfl)
        have h106 : f9 mo = some (.inr (5, [.int vth, .ref dW, .ref dA, .ref dQ, .ref dM, .ref dS, .ref dL, .ref dR, .ref dT, .ref dZ, .ref dI, .ref dH, .ref dN, .ref dK, .ref dJ, .ref dU, .ref dO, .int vpk, .int vpc, .ref dF, .ref dP, .ref dE, .ref dX, .ref dY, .int vnx, .int vgv, .ref dG])) := by rw [efq, va_up_ne _ _ n107]; exact k_mo
        have n109 : dM ≠ dQ := hneL k_dM k_dQ (Nat.ne_of_beq_eq_false rfl)
        have h108 : f9 dM = some (.inl (cI G, 2, .inl gM)) := by rw [efq, va_up_ne _ _ n109]; exact k_dM
        have h110 : f9 dA = some (.inl (cI G, 12, .inl gA)) := by rw [efq, va_up_ne _ _ nd_dA_dQ]; exact k_dA
        have n112 : dS ≠ dQ := hneL k_dS k_dQ (Nat.ne_of_beq_eq_false rfl)
        have h111 : f9 dS = some (.inl (cI G, 2, .inl gS)) := by rw [efq, va_up_ne _ _ n112]; exact k_dS
        have n114 : dL ≠ dQ := hneL k_dL k_dQ (Nat.ne_of_beq_eq_false rfl)
        have h113 : f9 dL = some (.inl (cI G, 2, .inl gL)) := by rw [efq, va_up_ne _ _ n114]; exact k_dL
        have n116 : dR ≠ dQ := hneL k_dR k_dQ (Nat.ne_of_beq_eq_false rfl)
        have h115 : f9 dR = some (.inl (cI G, 2, .inl gR)) := by rw [efq, va_up_ne _ _ n116]; exact k_dR
        have n118 : dT ≠ dQ := hneL k_dT k_dQ (Nat.ne_of_beq_eq_false rfl)
        have h117 : f9 dT = some (.inl (cI G, 2, .inl gT)) := by rw [efq, va_up_ne _ _ n118]; exact k_dT
        have n120 : dZ ≠ dQ := hneL k_dZ k_dQ (Nat.ne_of_beq_eq_false rfl)
        have h119 : f9 dZ = some (.inl (cZ G, 2, .inl gZ)) := by rw [efq, va_up_ne _ _ n120]; exact k_dZ
        have n122 : dI ≠ dQ := hneL k_dI k_dQ (Nat.ne_of_beq_eq_false rfl)
        have h121 : f9 dI = some (.inl (cI G, 2, .inl gI)) := by rw [efq, va_up_ne _ _ n122]; exact k_dI
        have n124 : dH ≠ dQ := hneL k_dH k_dQ (Nat.ne_of_beq_eq_false rfl)
        have h123 : f9 dH = some (.inl (cI G, 2, .inl gH)) := by rw [efq, va_up_ne _ _ n124]; exact k_dH
        have n126 : dN ≠ dQ := hneL k_dN k_dQ (Nat.ne_of_beq_eq_false rfl)
        have h125 : f9 dN = some (.inl (cI G, 2, .inl gN)) := by rw [efq, va_up_ne _ _ n126]; exact k_dN
        have n128 : dK ≠ dQ := hneL k_dK k_dQ (Nat.ne_of_beq_eq_false rfl)
        have h127 : f9 dK = some (.inl (cI G, 2048, .inl gK)) := by rw [efq, va_up_ne _ _ n128]; exact k_dK
        have n130 : dJ ≠ dQ := hneL k_dJ k_dQ (Nat.ne_of_beq_eq_false rfl)
        have h129 : f9 dJ = some (.inl (cI G, 2048, .inl gJ)) := by rw [efq, va_up_ne _ _ n130]; exact k_dJ
        have n132 : dU ≠ dQ := hneL k_dU k_dQ (Nat.ne_of_beq_eq_false rfl)
        have h131 : f9 dU = some (.inl (cI G, 2048, .inl gU)) := by rw [efq, va_up_ne _ _ n132]; exact k_dU
        have n134 : dO ≠ dQ := hneL k_dO k_dQ (Nat.ne_of_beq_eq_false rfl)
        have h133 : f9 dO = some (.inl (cI G, 2048, .inl gO)) := by rw [efq, va_up_ne _ _ n134]; exact k_dO
        refine hp_V (ci := 5) (As := [.int 1]) (rest := []) B0 hw hS (c_W5_begs hl G f9 mo dW dA dQ dM dS dL dR dT dZ dI dH dN dK dJ dU dO dF dP dE dX dY dG vth vpk vpc vnx vgv h106 hND gM gA h108 h110 hSA B ⟨_, _, _, _, _, _, _, _, _, _, _, _, _, h105, h111, h113, h115, h117, h119, h121, h123, h125, h127, h129, h131, h133, hHd9, (hMn.mono hMn9 (by omega))⟩ (by omega) 1 (Or.inr rfl)) mV_X5_begs qM_X5_107 rfl h106 rfl rfl hl9.1 (Nat.le_of_ble_eq_true rfl) ⟨⟨Nat.le_of_ble_eq_true rfl, Nat.le_of_ble_eq_true rfl⟩, Nat.le_of_ble_eq_true rfl, Nat.le_of_ble_eq_true rfl⟩ dX5_comesAnswer_82 (fun E ce q9 f135 H locs hPX hw hS hce hcv hcl => ?_) (fun v f135 H locs hP hw hS => ?_)
        · exact hPX.elim
        · obtain ⟨hv9, hr9⟩ := hP
          rcases hv9 with ev9 | ev9
          · have hP := And.intro ev9 hr9
            obtain ⟨ev8, h137, k138⟩ := hP
            have h137L := h137
            obtain ⟨gQ_n136, gS_n136, gL_n136, gR_n136, gT_n136, gZ_n136, gI_n136, gH_n136, gN_n136, gK_n136, gJ_n136, gU_n136, gO_n136, k_dQ_n136, k_dS_n136, k_dL_n136, k_dR_n136, k_dT_n136, k_dZ_n136, k_dI_n136, k_dH_n136, k_dN_n136, k_dK_n136, k_dJ_n136, k_dU_n136, k_dO_n136, hHd9_n136, hMn9_n136⟩ := id h137
            subst ev8
            refine W.eq (g2 := F0 m 85 ls [.int 0]) rfl ?_
            refine lv_pop hx hb dX5_comesAnswer_85 rfl ?_
            exact hp_vret B0 hw hS hr ⟨Nat.le_of_ble_eq_true rfl, Nat.le_of_ble_eq_true rfl⟩ dX5_comesAnswer_86 (⟨rfl, ⟨_, _, _, _, _, _, _, _, _, _, _, _, _, k_dQ_n136, k_dS_n136, k_dL_n136, k_dR_n136, k_dT_n136, k_dZ_n136, k_dI_n136, k_dH_n136, k_dN_n136, k_dK_n136, k_dJ_n136, k_dU_n136, k_dO_n136, hHd9_n136, (hMn.mono hMn9_n136 (by omega))⟩, ((show hEq [dQ, dS, dL, dR, dT, dZ, dI, dH, dN, dK, dJ, dU, dO] f f9 from (by rw [efq]; exact hEq.up List.mem_cons_self)).tr (show hEq [dQ, dS, dL, dR, dT, dZ, dI, dH, dN, dK, dJ, dU, dO] f9 f135 from (hEq.mono k138 (fun _ h9 => h9))))⟩)
          · have hP := And.intro ev9 hr9
            obtain ⟨ev8, h140, k141⟩ := hP
            have h140L := h140
            obtain ⟨gQ_n139, gS_n139, gL_n139, gR_n139, gT_n139, gZ_n139, gI_n139, gH_n139, gN_n139, gK_n139, gJ_n139, gU_n139, gO_n139, k_dQ_n139, k_dS_n139, k_dL_n139, k_dR_n139, k_dT_n139, k_dZ_n139, k_dI_n139, k_dH_n139, k_dN_n139, k_dK_n139, k_dJ_n139, k_dU_n139, k_dO_n139, hHd9_n139, hMn9_n139⟩ := id h140
            subst ev8
            refine W.eq (g2 := F0 m 85 ls [.int 1]) rfl ?_
            refine lv_pop hx hb dX5_comesAnswer_85 rfl ?_
            exact hp_vret B0 hw hS hr ⟨Nat.le_of_ble_eq_true rfl, Nat.le_of_ble_eq_true rfl⟩ dX5_comesAnswer_86 (⟨rfl, ⟨_, _, _, _, _, _, _, _, _, _, _, _, _, k_dQ_n139, k_dS_n139, k_dL_n139, k_dR_n139, k_dT_n139, k_dZ_n139, k_dI_n139, k_dH_n139, k_dN_n139, k_dK_n139, k_dJ_n139, k_dU_n139, k_dO_n139, hHd9_n139, (hMn.mono hMn9_n139 (by omega))⟩, ((show hEq [dQ, dS, dL, dR, dT, dZ, dI, dH, dN, dK, dJ, dU, dO] f f9 from (by rw [efq]; exact hEq.up List.mem_cons_self)).tr (show hEq [dQ, dS, dL, dR, dT, dZ, dI, dH, dN, dK, dJ, dU, dO] f9 f135 from (hEq.mono k141 (fun _ h9 => h9))))⟩)
    · refine lv_aload_n hx hb dX5_comesAnswer_5 rfl (lv_at hl9 0 rfl) ?_
      refine hp_get B0 hw 5 rfl in_X5 k_mo 5 (by decide) qF_X5_22 rfl dX5_comesAnswer_6 ?_
      refine lv_iload_n hx hb dX5_comesAnswer_9 rfl (lv_at hl9 1 rfl) ?_
      refine lv_aload_n hx hb dX5_comesAnswer_10 rfl (lv_at hl9 0 rfl) ?_
      refine hp_get B0 hw 5 rfl in_X5 k_mo 5 (by decide) qF_X5_22 rfl dX5_comesAnswer_11 ?_
      refine lv_iload_n hx hb dX5_comesAnswer_14 rfl (lv_at hl9 1 rfl) ?_
      refine hp_iald B0 hw k_dS (by unfold vp_in; decide) dX5_comesAnswer_15 ?_
      refine lv_iconst (v := 1) hx hb dX5_comesAnswer_16 (by decide) ?_
      refine lv_icmp_ne (tgt := 24) hx hb dX5_comesAnswer_17 (by decide) (fun c142 => ?_) (fun c142 => ?_)
      · refine lv_iconst (v := 4) hx hb dX5_comesAnswer_24 (by decide) ?_
        refine hp_iast B0 hw hS k_dS (by unfold vp_in; decide) dX5_comesAnswer_25 (fun H locs f143 ef143 hw hS => ?_)
        have h144 : f143 dS = some (.inl (cI G, 2, .inl (upd gS (1 : Int32).toNatClampNeg 4))) := by rw [ef143, va_up_self]
        have n146 : dQ ≠ dS := hneL k_dQ k_dS (Nat.ne_of_beq_eq_false rfl)
        have h145 : f143 dQ = some (.inl (cI G, 12, .inl gQ)) := by rw [ef143, va_up_ne _ _ n146]; exact k_dQ
        have h147 : f143 dL = some (.inl (cI G, 2, .inl gL)) := by rw [ef143, va_up_ne _ _ (Ne.symm nd_dS_dL)]; exact k_dL
        have h148 : f143 dR = some (.inl (cI G, 2, .inl gR)) := by rw [ef143, va_up_ne _ _ (Ne.symm nd_dS_dR)]; exact k_dR
        have h149 : f143 dT = some (.inl (cI G, 2, .inl gT)) := by rw [ef143, va_up_ne _ _ (Ne.symm nd_dS_dT)]; exact k_dT
        have h150 : f143 dZ = some (.inl (cZ G, 2, .inl gZ)) := by rw [ef143, va_up_ne _ _ (Ne.symm nd_dS_dZ)]; exact k_dZ
        have h151 : f143 dI = some (.inl (cI G, 2, .inl gI)) := by rw [ef143, va_up_ne _ _ (Ne.symm nd_dS_dI)]; exact k_dI
        have h152 : f143 dH = some (.inl (cI G, 2, .inl gH)) := by rw [ef143, va_up_ne _ _ (Ne.symm nd_dS_dH)]; exact k_dH
        have h153 : f143 dN = some (.inl (cI G, 2, .inl gN)) := by rw [ef143, va_up_ne _ _ (Ne.symm nd_dS_dN)]; exact k_dN
        have n155 : dK ≠ dS := hneL k_dK k_dS (Nat.ne_of_beq_eq_false rfl)
        have h154 : f143 dK = some (.inl (cI G, 2048, .inl gK)) := by rw [ef143, va_up_ne _ _ n155]; exact k_dK
        have n157 : dJ ≠ dS := hneL k_dJ k_dS (Nat.ne_of_beq_eq_false rfl)
        have h156 : f143 dJ = some (.inl (cI G, 2048, .inl gJ)) := by rw [ef143, va_up_ne _ _ n157]; exact k_dJ
        have n159 : dU ≠ dS := hneL k_dU k_dS (Nat.ne_of_beq_eq_false rfl)
        have h158 : f143 dU = some (.inl (cI G, 2048, .inl gU)) := by rw [ef143, va_up_ne _ _ n159]; exact k_dU
        have n161 : dO ≠ dS := hneL k_dO k_dS (Nat.ne_of_beq_eq_false rfl)
        have h160 : f143 dO = some (.inl (cI G, 2048, .inl gO)) := by rw [ef143, va_up_ne _ _ n161]; exact k_dO
        exact hp_vret B0 hw hS hr ⟨Nat.le_of_ble_eq_true rfl, Nat.le_of_ble_eq_true rfl⟩ dX5_comesAnswer_26 (⟨rfl, ⟨_, _, _, _, _, _, _, _, _, _, _, _, _, h145, h144, h147, h148, h149, h150, h151, h152, h153, h154, h156, h158, h160, hHd9, (hMn.mono hMn9 (by omega))⟩, (show hEq [dQ, dS, dL, dR, dT, dZ, dI, dH, dN, dK, dJ, dU, dO] f f143 from (by rw [ef143]; exact hEq.up (List.mem_cons_of_mem _ List.mem_cons_self)))⟩)
      · refine lv_iconst (v := 2) hx hb dX5_comesAnswer_20 (by decide) ?_
        refine lv_goto (tgt := 25) hx hb dX5_comesAnswer_21 (by decide) ?_
        refine hp_iast B0 hw hS k_dS (by unfold vp_in; decide) dX5_comesAnswer_25 (fun H locs f162 ef162 hw hS => ?_)
        have h163 : f162 dS = some (.inl (cI G, 2, .inl (upd gS (1 : Int32).toNatClampNeg 2))) := by rw [ef162, va_up_self]
        have n165 : dQ ≠ dS := hneL k_dQ k_dS (Nat.ne_of_beq_eq_false rfl)
        have h164 : f162 dQ = some (.inl (cI G, 12, .inl gQ)) := by rw [ef162, va_up_ne _ _ n165]; exact k_dQ
        have h166 : f162 dL = some (.inl (cI G, 2, .inl gL)) := by rw [ef162, va_up_ne _ _ (Ne.symm nd_dS_dL)]; exact k_dL
        have h167 : f162 dR = some (.inl (cI G, 2, .inl gR)) := by rw [ef162, va_up_ne _ _ (Ne.symm nd_dS_dR)]; exact k_dR
        have h168 : f162 dT = some (.inl (cI G, 2, .inl gT)) := by rw [ef162, va_up_ne _ _ (Ne.symm nd_dS_dT)]; exact k_dT
        have h169 : f162 dZ = some (.inl (cZ G, 2, .inl gZ)) := by rw [ef162, va_up_ne _ _ (Ne.symm nd_dS_dZ)]; exact k_dZ
        have h170 : f162 dI = some (.inl (cI G, 2, .inl gI)) := by rw [ef162, va_up_ne _ _ (Ne.symm nd_dS_dI)]; exact k_dI
        have h171 : f162 dH = some (.inl (cI G, 2, .inl gH)) := by rw [ef162, va_up_ne _ _ (Ne.symm nd_dS_dH)]; exact k_dH
        have h172 : f162 dN = some (.inl (cI G, 2, .inl gN)) := by rw [ef162, va_up_ne _ _ (Ne.symm nd_dS_dN)]; exact k_dN
        have n174 : dK ≠ dS := hneL k_dK k_dS (Nat.ne_of_beq_eq_false rfl)
        have h173 : f162 dK = some (.inl (cI G, 2048, .inl gK)) := by rw [ef162, va_up_ne _ _ n174]; exact k_dK
        have n176 : dJ ≠ dS := hneL k_dJ k_dS (Nat.ne_of_beq_eq_false rfl)
        have h175 : f162 dJ = some (.inl (cI G, 2048, .inl gJ)) := by rw [ef162, va_up_ne _ _ n176]; exact k_dJ
        have n178 : dU ≠ dS := hneL k_dU k_dS (Nat.ne_of_beq_eq_false rfl)
        have h177 : f162 dU = some (.inl (cI G, 2048, .inl gU)) := by rw [ef162, va_up_ne _ _ n178]; exact k_dU
        have n180 : dO ≠ dS := hneL k_dO k_dS (Nat.ne_of_beq_eq_false rfl)
        have h179 : f162 dO = some (.inl (cI G, 2048, .inl gO)) := by rw [ef162, va_up_ne _ _ n180]; exact k_dO
        exact hp_vret B0 hw hS hr ⟨Nat.le_of_ble_eq_true rfl, Nat.le_of_ble_eq_true rfl⟩ dX5_comesAnswer_26 (⟨rfl, ⟨_, _, _, _, _, _, _, _, _, _, _, _, _, h164, h163, h166, h167, h168, h169, h170, h171, h172, h173, h175, h177, h179, hHd9, (hMn.mono hMn9 (by omega))⟩, (show hEq [dQ, dS, dL, dR, dT, dZ, dI, dH, dN, dK, dJ, dU, dO] f f162 from (by rw [ef162]; exact hEq.up (List.mem_cons_of_mem _ List.mem_cons_self)))⟩)

set_option maxHeartbeats 4000000 in
set_option maxRecDepth 100000 in
theorem c_W5_comes {l : Launch} (hl : l.stackTraces = false) (G : hG) (f : hM) (mo dW dA dQ dM dS dL dR dT dZ dI dH dN dK dJ dU dO dF dP dE dX dY dG : Nat) (vth vpk vpc vnx vgv : Int32) (k_mo : f mo = some (.inr (5, [.int vth, .ref dW, .ref dA, .ref dQ, .ref dM, .ref dS, .ref dL, .ref dR, .ref dT, .ref dZ, .ref dI, .ref dH, .ref dN, .ref dK, .ref dJ, .ref dU, .ref dO, .int vpk, .int vpc, .ref dF, .ref dP, .ref dE, .ref dX, .ref dY, .int vnx, .int vgv, .ref dG]))) (hND : ND5 dW dA dQ dM dS dL dR dT dZ dI dH dN dK dJ dU dO dF dP dE dX dY dG) (gM gA : Nat → Int32) (k_dM : f dM = some (.inl (cI G, 2, .inl gM))) (k_dA : f dA = some (.inl (cI G, 12, .inl gA))) (hSA : ∀ j, j < 12 → sA (gA j)) (B : Nat) (hLM : LM G f dQ dS dL dR dT dZ dI dH dN dK dJ dU dO B) (hBB : B + 1 < 100000) (ee t : Int32) (ht : vp_in t 2048) (he : sE ee) : CT l yX5_comes (.code yX5_comes cX5_comes 3 none) 4 95 0 0 G [.ref mo, .int ee, .int t] f (fun v f1 => v = none ∧ LM G f1 dQ dS dL dR dT dZ dI dH dN dK dJ dU dO (B + 2) ∧ hEq [dQ, dS, dL, dR, dT, dZ, dI, dH, dN, dK, dJ, dU, dO] f f1) (fun E f1 => False) := by
  refine hp_start hl (own := RX5) (by decide) rfl (Nat.le_of_ble_eq_true rfl) ?_
  intro p e s m args below meth c B0 hr hnm hout hw hS ls hl9
  have hx := B0.1
  have hb := B0.2.1
  have hl9 : lv_has ls 3 [(0, .ref mo), (1, .int ee), (2, .int t)] := hl9
  obtain ⟨nd_dW_dA, nd_dW_dQ, nd_dA_dQ, nd_dM_dS, nd_dM_dL, nd_dM_dR, nd_dM_dT, nd_dM_dZ, nd_dM_dI, nd_dM_dH, nd_dM_dN, nd_dS_dL, nd_dS_dR, nd_dS_dT, nd_dS_dZ, nd_dS_dI, nd_dS_dH, nd_dS_dN, nd_dL_dR, nd_dL_dT, nd_dL_dZ, nd_dL_dI, nd_dL_dH, nd_dL_dN, nd_dR_dT, nd_dR_dZ, nd_dR_dI, nd_dR_dH, nd_dR_dN, nd_dT_dZ, nd_dT_dI, nd_dT_dH, nd_dT_dN, nd_dZ_dI, nd_dZ_dH, nd_dZ_dN, nd_dI_dH, nd_dI_dN, nd_dH_dN, nd_dK_dJ, nd_dK_dU, nd_dK_dO, nd_dJ_dU, nd_dJ_dO, nd_dU_dO, nd_dP_dE, nd_dX_dY⟩ := id hND
  obtain ⟨gQ, gS, gL, gR, gT, gZ, gI, gH, gN, gK, gJ, gU, gO, k_dQ, k_dS, k_dL, k_dR, k_dT, k_dZ, k_dI, k_dH, k_dN, k_dK, k_dJ, k_dU, k_dO, hHd9, hMn9⟩ := id hLM
  rcases he with rfl | rfl
  · refine lv_aload_n hx hb dX5_comes_0 rfl (lv_at hl9 0 rfl) ?_
    refine hp_get B0 hw 5 rfl in_X5 k_mo 13 (by decide) qF_X5_47 rfl dX5_comes_1 ?_
    refine lv_iload_n hx hb dX5_comes_4 rfl (lv_at hl9 2 rfl) ?_
    refine hp_iald B0 hw k_dK ht dX5_comes_5 ?_
    refine lv_if_ne (tgt := 35) hx hb dX5_comes_6 (by decide) (fun c1 => ?_) (fun c1 => ?_)
    · refine lv_aload_n hx hb dX5_comes_35 rfl (lv_at hl9 0 rfl) ?_
      refine hp_get B0 hw 5 rfl in_X5 k_mo 13 (by decide) qF_X5_47 rfl dX5_comes_36 ?_
      refine lv_iload_n hx hb dX5_comes_39 rfl (lv_at hl9 2 rfl) ?_
      refine hp_iald B0 hw k_dK ht dX5_comes_40 ?_
      refine lv_iconst (v := 4) hx hb dX5_comes_41 (by decide) ?_
      refine lv_icmp_ne (tgt := 55) hx hb dX5_comes_42 (by decide) (fun c2 => ?_) (fun c2 => ?_)
      · refine lv_aload_n hx hb dX5_comes_55 rfl (lv_at hl9 0 rfl) ?_
        refine hp_get B0 hw 5 rfl in_X5 k_mo 5 (by decide) qF_X5_22 rfl dX5_comes_56 ?_
        refine lv_iload_n hx hb dX5_comes_59 rfl (lv_at hl9 1 rfl) ?_
        refine hp_iald B0 hw k_dS (by unfold vp_in; decide) dX5_comes_60 ?_
        refine lv_iconst (v := 1) hx hb dX5_comes_61 (by decide) ?_
        refine lv_icmp_eq (tgt := 75) hx hb dX5_comes_62 (by decide) (fun c3 => ?_) (fun c3 => ?_)
        · refine lv_aload_n hx hb dX5_comes_75 rfl (lv_at hl9 0 rfl) ?_
          refine hp_get B0 hw 5 rfl in_X5 k_mo 14 (by decide) qF_X5_50 rfl dX5_comes_76 ?_
          refine lv_iload_n hx hb dX5_comes_79 rfl (lv_at hl9 2 rfl) ?_
          refine hp_iald B0 hw k_dJ ht dX5_comes_80 ?_
          refine lv_aload_n hx hb dX5_comes_81 rfl (lv_at hl9 0 rfl) ?_
          refine hp_get B0 hw 5 rfl in_X5 k_mo 6 (by decide) qF_X5_25 rfl dX5_comes_82 ?_
          refine lv_iload_n hx hb dX5_comes_85 rfl (lv_at hl9 1 rfl) ?_
          refine hp_iald B0 hw k_dL (by unfold vp_in; decide) dX5_comes_86 ?_
          refine lv_icmp_ne (tgt := 107) hx hb dX5_comes_87 (by decide) (fun c4 => ?_) (fun c4 => ?_)
          · exact hp_vret B0 hw hS hr ⟨Nat.le_of_ble_eq_true rfl, Nat.le_of_ble_eq_true rfl⟩ dX5_comes_107 (⟨rfl, ⟨_, _, _, _, _, _, _, _, _, _, _, _, _, k_dQ, k_dS, k_dL, k_dR, k_dT, k_dZ, k_dI, k_dH, k_dN, k_dK, k_dJ, k_dU, k_dO, hHd9, (hMn.mono hMn9 (by omega))⟩, hEq.rf⟩)
          · refine lv_aload_n hx hb dX5_comes_90 rfl (lv_at hl9 0 rfl) ?_
            refine lv_iload_n hx hb dX5_comes_91 rfl (lv_at hl9 1 rfl) ?_
            refine lv_aload_n hx hb dX5_comes_92 rfl (lv_at hl9 0 rfl) ?_
            refine hp_get B0 hw 5 rfl in_X5 k_mo 13 (by decide) qF_X5_47 rfl dX5_comes_93 ?_
            refine lv_iload_n hx hb dX5_comes_96 rfl (lv_at hl9 2 rfl) ?_
            refine hp_iald B0 hw k_dK ht dX5_comes_97 ?_
            refine lv_aload_n hx hb dX5_comes_98 rfl (lv_at hl9 0 rfl) ?_
            refine hp_get B0 hw 5 rfl in_X5 k_mo 16 (by decide) qF_X5_56 rfl dX5_comes_99 ?_
            refine lv_iload_n hx hb dX5_comes_102 rfl (lv_at hl9 2 rfl) ?_
            refine hp_iald B0 hw k_dO ht dX5_comes_103 ?_
            refine hp_V (ci := 5) (As := [.int 0, .int (gK (t : Int32).toNatClampNeg), .int (gO (t : Int32).toNatClampNeg)]) (rest := []) B0 hw hS (c_W5_comesAnswer hl G f mo dW dA dQ dM dS dL dR dT dZ dI dH dN dK dJ dU dO dF dP dE dX dY dG vth vpk vpc vnx vgv k_mo hND gM gA k_dM k_dA hSA B ⟨_, _, _, _, _, _, _, _, _, _, _, _, _, k_dQ, k_dS, k_dL, k_dR, k_dT, k_dZ, k_dI, k_dH, k_dN, k_dK, k_dJ, k_dU, k_dO, hHd9, (hMn.mono hMn9 (by omega))⟩ (by omega) 0 (gK (t : Int32).toNatClampNeg) (gO (t : Int32).toNatClampNeg) (Or.inl rfl)) mV_X5_comesAnswer qM_X5_117 rfl k_mo rfl rfl hl9.1 (Nat.le_of_ble_eq_true rfl) ⟨⟨Nat.le_of_ble_eq_true rfl, Nat.le_of_ble_eq_true rfl⟩, Nat.le_of_ble_eq_true rfl, Nat.le_of_ble_eq_true rfl⟩ dX5_comes_104 (fun E ce q9 f5 H locs hPX hw hS hce hcv hcl => ?_) (fun v f5 H locs hP hw hS => ?_)
            · exact hPX.elim
            · obtain ⟨ev9, h7, k8⟩ := hP
              have h7L := h7
              obtain ⟨gQ_n6, gS_n6, gL_n6, gR_n6, gT_n6, gZ_n6, gI_n6, gH_n6, gN_n6, gK_n6, gJ_n6, gU_n6, gO_n6, k_dQ_n6, k_dS_n6, k_dL_n6, k_dR_n6, k_dT_n6, k_dZ_n6, k_dI_n6, k_dH_n6, k_dN_n6, k_dK_n6, k_dJ_n6, k_dU_n6, k_dO_n6, hHd9_n6, hMn9_n6⟩ := id h7
              subst ev9
              refine W.eq (g2 := F0 m 107 ls []) rfl ?_
              exact hp_vret B0 hw hS hr ⟨Nat.le_of_ble_eq_true rfl, Nat.le_of_ble_eq_true rfl⟩ dX5_comes_107 (⟨rfl, ⟨_, _, _, _, _, _, _, _, _, _, _, _, _, k_dQ_n6, k_dS_n6, k_dL_n6, k_dR_n6, k_dT_n6, k_dZ_n6, k_dI_n6, k_dH_n6, k_dN_n6, k_dK_n6, k_dJ_n6, k_dU_n6, k_dO_n6, hHd9_n6, (hMn.mono hMn9_n6 (by omega))⟩, (show hEq [dQ, dS, dL, dR, dT, dZ, dI, dH, dN, dK, dJ, dU, dO] f f5 from (hEq.mono k8 (fun _ h9 => h9)))⟩)
        · refine lv_aload_n hx hb dX5_comes_65 rfl (lv_at hl9 0 rfl) ?_
          refine hp_get B0 hw 5 rfl in_X5 k_mo 5 (by decide) qF_X5_22 rfl dX5_comes_66 ?_
          refine lv_iload_n hx hb dX5_comes_69 rfl (lv_at hl9 1 rfl) ?_
          refine hp_iald B0 hw k_dS (by unfold vp_in; decide) dX5_comes_70 ?_
          refine lv_iconst (v := 3) hx hb dX5_comes_71 (by decide) ?_
          refine lv_icmp_ne (tgt := 107) hx hb dX5_comes_72 (by decide) (fun c9 => ?_) (fun c9 => ?_)
          · exact hp_vret B0 hw hS hr ⟨Nat.le_of_ble_eq_true rfl, Nat.le_of_ble_eq_true rfl⟩ dX5_comes_107 (⟨rfl, ⟨_, _, _, _, _, _, _, _, _, _, _, _, _, k_dQ, k_dS, k_dL, k_dR, k_dT, k_dZ, k_dI, k_dH, k_dN, k_dK, k_dJ, k_dU, k_dO, hHd9, (hMn.mono hMn9 (by omega))⟩, hEq.rf⟩)
          · refine lv_aload_n hx hb dX5_comes_75 rfl (lv_at hl9 0 rfl) ?_
            refine hp_get B0 hw 5 rfl in_X5 k_mo 14 (by decide) qF_X5_50 rfl dX5_comes_76 ?_
            refine lv_iload_n hx hb dX5_comes_79 rfl (lv_at hl9 2 rfl) ?_
            refine hp_iald B0 hw k_dJ ht dX5_comes_80 ?_
            refine lv_aload_n hx hb dX5_comes_81 rfl (lv_at hl9 0 rfl) ?_
            refine hp_get B0 hw 5 rfl in_X5 k_mo 6 (by decide) qF_X5_25 rfl dX5_comes_82 ?_
            refine lv_iload_n hx hb dX5_comes_85 rfl (lv_at hl9 1 rfl) ?_
            refine hp_iald B0 hw k_dL (by unfold vp_in; decide) dX5_comes_86 ?_
            refine lv_icmp_ne (tgt := 107) hx hb dX5_comes_87 (by decide) (fun c10 => ?_) (fun c10 => ?_)
            · exact hp_vret B0 hw hS hr ⟨Nat.le_of_ble_eq_true rfl, Nat.le_of_ble_eq_true rfl⟩ dX5_comes_107 (⟨rfl, ⟨_, _, _, _, _, _, _, _, _, _, _, _, _, k_dQ, k_dS, k_dL, k_dR, k_dT, k_dZ, k_dI, k_dH, k_dN, k_dK, k_dJ, k_dU, k_dO, hHd9, (hMn.mono hMn9 (by omega))⟩, hEq.rf⟩)
            · refine lv_aload_n hx hb dX5_comes_90 rfl (lv_at hl9 0 rfl) ?_
              refine lv_iload_n hx hb dX5_comes_91 rfl (lv_at hl9 1 rfl) ?_
              refine lv_aload_n hx hb dX5_comes_92 rfl (lv_at hl9 0 rfl) ?_
              refine hp_get B0 hw 5 rfl in_X5 k_mo 13 (by decide) qF_X5_47 rfl dX5_comes_93 ?_
              refine lv_iload_n hx hb dX5_comes_96 rfl (lv_at hl9 2 rfl) ?_
              refine hp_iald B0 hw k_dK ht dX5_comes_97 ?_
              refine lv_aload_n hx hb dX5_comes_98 rfl (lv_at hl9 0 rfl) ?_
              refine hp_get B0 hw 5 rfl in_X5 k_mo 16 (by decide) qF_X5_56 rfl dX5_comes_99 ?_
              refine lv_iload_n hx hb dX5_comes_102 rfl (lv_at hl9 2 rfl) ?_
              refine hp_iald B0 hw k_dO ht dX5_comes_103 ?_
              refine hp_V (ci := 5) (As := [.int 0, .int (gK (t : Int32).toNatClampNeg), .int (gO (t : Int32).toNatClampNeg)]) (rest := []) B0 hw hS (c_W5_comesAnswer hl G f mo dW dA dQ dM dS dL dR dT dZ dI dH dN dK dJ dU dO dF dP dE dX dY dG vth vpk vpc vnx vgv k_mo hND gM gA k_dM k_dA hSA B ⟨_, _, _, _, _, _, _, _, _, _, _, _, _, k_dQ, k_dS, k_dL, k_dR, k_dT, k_dZ, k_dI, k_dH, k_dN, k_dK, k_dJ, k_dU, k_dO, hHd9, (hMn.mono hMn9 (by omega))⟩ (by omega) 0 (gK (t : Int32).toNatClampNeg) (gO (t : Int32).toNatClampNeg) (Or.inl rfl)) mV_X5_comesAnswer qM_X5_117 rfl k_mo rfl rfl hl9.1 (Nat.le_of_ble_eq_true rfl) ⟨⟨Nat.le_of_ble_eq_true rfl, Nat.le_of_ble_eq_true rfl⟩, Nat.le_of_ble_eq_true rfl, Nat.le_of_ble_eq_true rfl⟩ dX5_comes_104 (fun E ce q9 f11 H locs hPX hw hS hce hcv hcl => ?_) (fun v f11 H locs hP hw hS => ?_)
              · exact hPX.elim
              · obtain ⟨ev9, h13, k14⟩ := hP
                have h13L := h13
                obtain ⟨gQ_n12, gS_n12, gL_n12, gR_n12, gT_n12, gZ_n12, gI_n12, gH_n12, gN_n12, gK_n12, gJ_n12, gU_n12, gO_n12, k_dQ_n12, k_dS_n12, k_dL_n12, k_dR_n12, k_dT_n12, k_dZ_n12, k_dI_n12, k_dH_n12, k_dN_n12, k_dK_n12, k_dJ_n12, k_dU_n12, k_dO_n12, hHd9_n12, hMn9_n12⟩ := id h13
                subst ev9
                refine W.eq (g2 := F0 m 107 ls []) rfl ?_
                exact hp_vret B0 hw hS hr ⟨Nat.le_of_ble_eq_true rfl, Nat.le_of_ble_eq_true rfl⟩ dX5_comes_107 (⟨rfl, ⟨_, _, _, _, _, _, _, _, _, _, _, _, _, k_dQ_n12, k_dS_n12, k_dL_n12, k_dR_n12, k_dT_n12, k_dZ_n12, k_dI_n12, k_dH_n12, k_dN_n12, k_dK_n12, k_dJ_n12, k_dU_n12, k_dO_n12, hHd9_n12, (hMn.mono hMn9_n12 (by omega))⟩, (show hEq [dQ, dS, dL, dR, dT, dZ, dI, dH, dN, dK, dJ, dU, dO] f f11 from (hEq.mono k14 (fun _ h9 => h9)))⟩)
      · refine lv_aload_n hx hb dX5_comes_45 rfl (lv_at hl9 0 rfl) ?_
        refine hp_get B0 hw 5 rfl in_X5 k_mo 5 (by decide) qF_X5_22 rfl dX5_comes_46 ?_
        refine lv_iload_n hx hb dX5_comes_49 rfl (lv_at hl9 1 rfl) ?_
        refine lv_iconst (v := 0) hx hb dX5_comes_50 (by decide) ?_
        refine hp_iast B0 hw hS k_dS (by unfold vp_in; decide) dX5_comes_51 (fun H locs f15 ef15 hw hS => ?_)
        have h16 : f15 dS = some (.inl (cI G, 2, .inl (upd gS (0 : Int32).toNatClampNeg 0))) := by rw [ef15, va_up_self]
        refine lv_goto (tgt := 107) hx hb dX5_comes_52 (by decide) ?_
        have n18 : dQ ≠ dS := hneL k_dQ k_dS (Nat.ne_of_beq_eq_false rfl)
        have h17 : f15 dQ = some (.inl (cI G, 12, .inl gQ)) := by rw [ef15, va_up_ne _ _ n18]; exact k_dQ
        have h19 : f15 dL = some (.inl (cI G, 2, .inl gL)) := by rw [ef15, va_up_ne _ _ (Ne.symm nd_dS_dL)]; exact k_dL
        have h20 : f15 dR = some (.inl (cI G, 2, .inl gR)) := by rw [ef15, va_up_ne _ _ (Ne.symm nd_dS_dR)]; exact k_dR
        have h21 : f15 dT = some (.inl (cI G, 2, .inl gT)) := by rw [ef15, va_up_ne _ _ (Ne.symm nd_dS_dT)]; exact k_dT
        have h22 : f15 dZ = some (.inl (cZ G, 2, .inl gZ)) := by rw [ef15, va_up_ne _ _ (Ne.symm nd_dS_dZ)]; exact k_dZ
        have h23 : f15 dI = some (.inl (cI G, 2, .inl gI)) := by rw [ef15, va_up_ne _ _ (Ne.symm nd_dS_dI)]; exact k_dI
        have h24 : f15 dH = some (.inl (cI G, 2, .inl gH)) := by rw [ef15, va_up_ne _ _ (Ne.symm nd_dS_dH)]; exact k_dH
        have h25 : f15 dN = some (.inl (cI G, 2, .inl gN)) := by rw [ef15, va_up_ne _ _ (Ne.symm nd_dS_dN)]; exact k_dN
        have n27 : dK ≠ dS := hneL k_dK k_dS (Nat.ne_of_beq_eq_false rfl)
        have h26 : f15 dK = some (.inl (cI G, 2048, .inl gK)) := by rw [ef15, va_up_ne _ _ n27]; exact k_dK
        have n29 : dJ ≠ dS := hneL k_dJ k_dS (Nat.ne_of_beq_eq_false rfl)
        have h28 : f15 dJ = some (.inl (cI G, 2048, .inl gJ)) := by rw [ef15, va_up_ne _ _ n29]; exact k_dJ
        have n31 : dU ≠ dS := hneL k_dU k_dS (Nat.ne_of_beq_eq_false rfl)
        have h30 : f15 dU = some (.inl (cI G, 2048, .inl gU)) := by rw [ef15, va_up_ne _ _ n31]; exact k_dU
        have n33 : dO ≠ dS := hneL k_dO k_dS (Nat.ne_of_beq_eq_false rfl)
        have h32 : f15 dO = some (.inl (cI G, 2048, .inl gO)) := by rw [ef15, va_up_ne _ _ n33]; exact k_dO
        exact hp_vret B0 hw hS hr ⟨Nat.le_of_ble_eq_true rfl, Nat.le_of_ble_eq_true rfl⟩ dX5_comes_107 (⟨rfl, ⟨_, _, _, _, _, _, _, _, _, _, _, _, _, h17, h16, h19, h20, h21, h22, h23, h24, h25, h26, h28, h30, h32, hHd9, (hMn.mono hMn9 (by omega))⟩, (show hEq [dQ, dS, dL, dR, dT, dZ, dI, dH, dN, dK, dJ, dU, dO] f f15 from (by rw [ef15]; exact hEq.up (List.mem_cons_of_mem _ List.mem_cons_self)))⟩)
    · refine lv_aload_n hx hb dX5_comes_9 rfl (lv_at hl9 0 rfl) ?_
      refine lv_iload_n hx hb dX5_comes_10 rfl (lv_at hl9 1 rfl) ?_
      refine lv_aload_n hx hb dX5_comes_11 rfl (lv_at hl9 0 rfl) ?_
      refine hp_get B0 hw 5 rfl in_X5 k_mo 14 (by decide) qF_X5_50 rfl dX5_comes_12 ?_
      refine lv_iload_n hx hb dX5_comes_15 rfl (lv_at hl9 2 rfl) ?_
      refine hp_iald B0 hw k_dJ ht dX5_comes_16 ?_
      refine lv_aload_n hx hb dX5_comes_17 rfl (lv_at hl9 0 rfl) ?_
      refine hp_get B0 hw 5 rfl in_X5 k_mo 15 (by decide) qF_X5_53 rfl dX5_comes_18 ?_
      refine lv_iload_n hx hb dX5_comes_21 rfl (lv_at hl9 2 rfl) ?_
      refine hp_iald B0 hw k_dU ht dX5_comes_22 ?_
      refine lv_aload_n hx hb dX5_comes_23 rfl (lv_at hl9 0 rfl) ?_
      refine hp_get B0 hw 5 rfl in_X5 k_mo 16 (by decide) qF_X5_56 rfl dX5_comes_24 ?_
      refine lv_iload_n hx hb dX5_comes_27 rfl (lv_at hl9 2 rfl) ?_
      refine hp_iald B0 hw k_dO ht dX5_comes_28 ?_
      refine hp_V (ci := 5) (As := [.int 0, .int (gJ (t : Int32).toNatClampNeg), .int (gU (t : Int32).toNatClampNeg), .int (gO (t : Int32).toNatClampNeg)]) (rest := []) B0 hw hS (c_W5_comesRequest hl G f mo dW dA dQ dM dS dL dR dT dZ dI dH dN dK dJ dU dO dF dP dE dX dY dG vth vpk vpc vnx vgv k_mo hND gM gA k_dM k_dA hSA B ⟨_, _, _, _, _, _, _, _, _, _, _, _, _, k_dQ, k_dS, k_dL, k_dR, k_dT, k_dZ, k_dI, k_dH, k_dN, k_dK, k_dJ, k_dU, k_dO, hHd9, (hMn.mono hMn9 (by omega))⟩ (by omega) 0 (gJ (t : Int32).toNatClampNeg) (gU (t : Int32).toNatClampNeg) (gO (t : Int32).toNatClampNeg) (Or.inl rfl)) mV_X5_comesRequest qM_X5_114 rfl k_mo rfl rfl hl9.1 (Nat.le_of_ble_eq_true rfl) ⟨⟨Nat.le_of_ble_eq_true rfl, Nat.le_of_ble_eq_true rfl⟩, Nat.le_of_ble_eq_true rfl, Nat.le_of_ble_eq_true rfl⟩ dX5_comes_29 (fun E ce q9 f34 H locs hPX hw hS hce hcv hcl => ?_) (fun v f34 H locs hP hw hS => ?_)
      · exact hPX.elim
      · obtain ⟨ev9, h36, k37⟩ := hP
        have h36L := h36
        obtain ⟨gQ_n35, gS_n35, gL_n35, gR_n35, gT_n35, gZ_n35, gI_n35, gH_n35, gN_n35, gK_n35, gJ_n35, gU_n35, gO_n35, k_dQ_n35, k_dS_n35, k_dL_n35, k_dR_n35, k_dT_n35, k_dZ_n35, k_dI_n35, k_dH_n35, k_dN_n35, k_dK_n35, k_dJ_n35, k_dU_n35, k_dO_n35, hHd9_n35, hMn9_n35⟩ := id h36
        subst ev9
        refine W.eq (g2 := F0 m 32 ls []) rfl ?_
        refine lv_goto (tgt := 107) hx hb dX5_comes_32 (by decide) ?_
        exact hp_vret B0 hw hS hr ⟨Nat.le_of_ble_eq_true rfl, Nat.le_of_ble_eq_true rfl⟩ dX5_comes_107 (⟨rfl, ⟨_, _, _, _, _, _, _, _, _, _, _, _, _, k_dQ_n35, k_dS_n35, k_dL_n35, k_dR_n35, k_dT_n35, k_dZ_n35, k_dI_n35, k_dH_n35, k_dN_n35, k_dK_n35, k_dJ_n35, k_dU_n35, k_dO_n35, hHd9_n35, (hMn.mono hMn9_n35 (by omega))⟩, (show hEq [dQ, dS, dL, dR, dT, dZ, dI, dH, dN, dK, dJ, dU, dO] f f34 from (hEq.mono k37 (fun _ h9 => h9)))⟩)
  · refine lv_aload_n hx hb dX5_comes_0 rfl (lv_at hl9 0 rfl) ?_
    refine hp_get B0 hw 5 rfl in_X5 k_mo 13 (by decide) qF_X5_47 rfl dX5_comes_1 ?_
    refine lv_iload_n hx hb dX5_comes_4 rfl (lv_at hl9 2 rfl) ?_
    refine hp_iald B0 hw k_dK ht dX5_comes_5 ?_
    refine lv_if_ne (tgt := 35) hx hb dX5_comes_6 (by decide) (fun c38 => ?_) (fun c38 => ?_)
    · refine lv_aload_n hx hb dX5_comes_35 rfl (lv_at hl9 0 rfl) ?_
      refine hp_get B0 hw 5 rfl in_X5 k_mo 13 (by decide) qF_X5_47 rfl dX5_comes_36 ?_
      refine lv_iload_n hx hb dX5_comes_39 rfl (lv_at hl9 2 rfl) ?_
      refine hp_iald B0 hw k_dK ht dX5_comes_40 ?_
      refine lv_iconst (v := 4) hx hb dX5_comes_41 (by decide) ?_
      refine lv_icmp_ne (tgt := 55) hx hb dX5_comes_42 (by decide) (fun c39 => ?_) (fun c39 => ?_)
      · refine lv_aload_n hx hb dX5_comes_55 rfl (lv_at hl9 0 rfl) ?_
        refine hp_get B0 hw 5 rfl in_X5 k_mo 5 (by decide) qF_X5_22 rfl dX5_comes_56 ?_
        refine lv_iload_n hx hb dX5_comes_59 rfl (lv_at hl9 1 rfl) ?_
        refine hp_iald B0 hw k_dS (by unfold vp_in; decide) dX5_comes_60 ?_
        refine lv_iconst (v := 1) hx hb dX5_comes_61 (by decide) ?_
        refine lv_icmp_eq (tgt := 75) hx hb dX5_comes_62 (by decide) (fun c40 => ?_) (fun c40 => ?_)
        · refine lv_aload_n hx hb dX5_comes_75 rfl (lv_at hl9 0 rfl) ?_
          refine hp_get B0 hw 5 rfl in_X5 k_mo 14 (by decide) qF_X5_50 rfl dX5_comes_76 ?_
          refine lv_iload_n hx hb dX5_comes_79 rfl (lv_at hl9 2 rfl) ?_
          refine hp_iald B0 hw k_dJ ht dX5_comes_80 ?_
          refine lv_aload_n hx hb dX5_comes_81 rfl (lv_at hl9 0 rfl) ?_
          refine hp_get B0 hw 5 rfl in_X5 k_mo 6 (by decide) qF_X5_25 rfl dX5_comes_82 ?_
          refine lv_iload_n hx hb dX5_comes_85 rfl (lv_at hl9 1 rfl) ?_
          refine hp_iald B0 hw k_dL (by unfold vp_in; decide) dX5_comes_86 ?_
          refine lv_icmp_ne (tgt := 107) hx hb dX5_comes_87 (by decide) (fun c41 => ?_) (fun c41 => ?_)
          · exact hp_vret B0 hw hS hr ⟨Nat.le_of_ble_eq_true rfl, Nat.le_of_ble_eq_true rfl⟩ dX5_comes_107 (⟨rfl, ⟨_, _, _, _, _, _, _, _, _, _, _, _, _, k_dQ, k_dS, k_dL, k_dR, k_dT, k_dZ, k_dI, k_dH, k_dN, k_dK, k_dJ, k_dU, k_dO, hHd9, (hMn.mono hMn9 (by omega))⟩, hEq.rf⟩)
          · refine lv_aload_n hx hb dX5_comes_90 rfl (lv_at hl9 0 rfl) ?_
            refine lv_iload_n hx hb dX5_comes_91 rfl (lv_at hl9 1 rfl) ?_
            refine lv_aload_n hx hb dX5_comes_92 rfl (lv_at hl9 0 rfl) ?_
            refine hp_get B0 hw 5 rfl in_X5 k_mo 13 (by decide) qF_X5_47 rfl dX5_comes_93 ?_
            refine lv_iload_n hx hb dX5_comes_96 rfl (lv_at hl9 2 rfl) ?_
            refine hp_iald B0 hw k_dK ht dX5_comes_97 ?_
            refine lv_aload_n hx hb dX5_comes_98 rfl (lv_at hl9 0 rfl) ?_
            refine hp_get B0 hw 5 rfl in_X5 k_mo 16 (by decide) qF_X5_56 rfl dX5_comes_99 ?_
            refine lv_iload_n hx hb dX5_comes_102 rfl (lv_at hl9 2 rfl) ?_
            refine hp_iald B0 hw k_dO ht dX5_comes_103 ?_
            refine hp_V (ci := 5) (As := [.int 1, .int (gK (t : Int32).toNatClampNeg), .int (gO (t : Int32).toNatClampNeg)]) (rest := []) B0 hw hS (c_W5_comesAnswer hl G f mo dW dA dQ dM dS dL dR dT dZ dI dH dN dK dJ dU dO dF dP dE dX dY dG vth vpk vpc vnx vgv k_mo hND gM gA k_dM k_dA hSA B ⟨_, _, _, _, _, _, _, _, _, _, _, _, _, k_dQ, k_dS, k_dL, k_dR, k_dT, k_dZ, k_dI, k_dH, k_dN, k_dK, k_dJ, k_dU, k_dO, hHd9, (hMn.mono hMn9 (by omega))⟩ (by omega) 1 (gK (t : Int32).toNatClampNeg) (gO (t : Int32).toNatClampNeg) (Or.inr rfl)) mV_X5_comesAnswer qM_X5_117 rfl k_mo rfl rfl hl9.1 (Nat.le_of_ble_eq_true rfl) ⟨⟨Nat.le_of_ble_eq_true rfl, Nat.le_of_ble_eq_true rfl⟩, Nat.le_of_ble_eq_true rfl, Nat.le_of_ble_eq_true rfl⟩ dX5_comes_104 (fun E ce q9 f42 H locs hPX hw hS hce hcv hcl => ?_) (fun v f42 H locs hP hw hS => ?_)
            · exact hPX.elim
            · obtain ⟨ev9, h44, k45⟩ := hP
              have h44L := h44
              obtain ⟨gQ_n43, gS_n43, gL_n43, gR_n43, gT_n43, gZ_n43, gI_n43, gH_n43, gN_n43, gK_n43, gJ_n43, gU_n43, gO_n43, k_dQ_n43, k_dS_n43, k_dL_n43, k_dR_n43, k_dT_n43, k_dZ_n43, k_dI_n43, k_dH_n43, k_dN_n43, k_dK_n43, k_dJ_n43, k_dU_n43, k_dO_n43, hHd9_n43, hMn9_n43⟩ := id h44
              subst ev9
              refine W.eq (g2 := F0 m 107 ls []) rfl ?_
              exact hp_vret B0 hw hS hr ⟨Nat.le_of_ble_eq_true rfl, Nat.le_of_ble_eq_true rfl⟩ dX5_comes_107 (⟨rfl, ⟨_, _, _, _, _, _, _, _, _, _, _, _, _, k_dQ_n43, k_dS_n43, k_dL_n43, k_dR_n43, k_dT_n43, k_dZ_n43, k_dI_n43, k_dH_n43, k_dN_n43, k_dK_n43, k_dJ_n43, k_dU_n43, k_dO_n43, hHd9_n43, (hMn.mono hMn9_n43 (by omega))⟩, (show hEq [dQ, dS, dL, dR, dT, dZ, dI, dH, dN, dK, dJ, dU, dO] f f42 from (hEq.mono k45 (fun _ h9 => h9)))⟩)
        · refine lv_aload_n hx hb dX5_comes_65 rfl (lv_at hl9 0 rfl) ?_
          refine hp_get B0 hw 5 rfl in_X5 k_mo 5 (by decide) qF_X5_22 rfl dX5_comes_66 ?_
          refine lv_iload_n hx hb dX5_comes_69 rfl (lv_at hl9 1 rfl) ?_
          refine hp_iald B0 hw k_dS (by unfold vp_in; decide) dX5_comes_70 ?_
          refine lv_iconst (v := 3) hx hb dX5_comes_71 (by decide) ?_
          refine lv_icmp_ne (tgt := 107) hx hb dX5_comes_72 (by decide) (fun c46 => ?_) (fun c46 => ?_)
          · exact hp_vret B0 hw hS hr ⟨Nat.le_of_ble_eq_true rfl, Nat.le_of_ble_eq_true rfl⟩ dX5_comes_107 (⟨rfl, ⟨_, _, _, _, _, _, _, _, _, _, _, _, _, k_dQ, k_dS, k_dL, k_dR, k_dT, k_dZ, k_dI, k_dH, k_dN, k_dK, k_dJ, k_dU, k_dO, hHd9, (hMn.mono hMn9 (by omega))⟩, hEq.rf⟩)
          · refine lv_aload_n hx hb dX5_comes_75 rfl (lv_at hl9 0 rfl) ?_
            refine hp_get B0 hw 5 rfl in_X5 k_mo 14 (by decide) qF_X5_50 rfl dX5_comes_76 ?_
            refine lv_iload_n hx hb dX5_comes_79 rfl (lv_at hl9 2 rfl) ?_
            refine hp_iald B0 hw k_dJ ht dX5_comes_80 ?_
            refine lv_aload_n hx hb dX5_comes_81 rfl (lv_at hl9 0 rfl) ?_
            refine hp_get B0 hw 5 rfl in_X5 k_mo 6 (by decide) qF_X5_25 rfl dX5_comes_82 ?_
            refine lv_iload_n hx hb dX5_comes_85 rfl (lv_at hl9 1 rfl) ?_
            refine hp_iald B0 hw k_dL (by unfold vp_in; decide) dX5_comes_86 ?_
            refine lv_icmp_ne (tgt := 107) hx hb dX5_comes_87 (by decide) (fun c47 => ?_) (fun c47 => ?_)
            · exact hp_vret B0 hw hS hr ⟨Nat.le_of_ble_eq_true rfl, Nat.le_of_ble_eq_true rfl⟩ dX5_comes_107 (⟨rfl, ⟨_, _, _, _, _, _, _, _, _, _, _, _, _, k_dQ, k_dS, k_dL, k_dR, k_dT, k_dZ, k_dI, k_dH, k_dN, k_dK, k_dJ, k_dU, k_dO, hHd9, (hMn.mono hMn9 (by omega))⟩, hEq.rf⟩)
            · refine lv_aload_n hx hb dX5_comes_90 rfl (lv_at hl9 0 rfl) ?_
              refine lv_iload_n hx hb dX5_comes_91 rfl (lv_at hl9 1 rfl) ?_
              refine lv_aload_n hx hb dX5_comes_92 rfl (lv_at hl9 0 rfl) ?_
              refine hp_get B0 hw 5 rfl in_X5 k_mo 13 (by decide) qF_X5_47 rfl dX5_comes_93 ?_
              refine lv_iload_n hx hb dX5_comes_96 rfl (lv_at hl9 2 rfl) ?_
              refine hp_iald B0 hw k_dK ht dX5_comes_97 ?_
              refine lv_aload_n hx hb dX5_comes_98 rfl (lv_at hl9 0 rfl) ?_
              refine hp_get B0 hw 5 rfl in_X5 k_mo 16 (by decide) qF_X5_56 rfl dX5_comes_99 ?_
              refine lv_iload_n hx hb dX5_comes_102 rfl (lv_at hl9 2 rfl) ?_
              refine hp_iald B0 hw k_dO ht dX5_comes_103 ?_
              refine hp_V (ci := 5) (As := [.int 1, .int (gK (t : Int32).toNatClampNeg), .int (gO (t : Int32).toNatClampNeg)]) (rest := []) B0 hw hS (c_W5_comesAnswer hl G f mo dW dA dQ dM dS dL dR dT dZ dI dH dN dK dJ dU dO dF dP dE dX dY dG vth vpk vpc vnx vgv k_mo hND gM gA k_dM k_dA hSA B ⟨_, _, _, _, _, _, _, _, _, _, _, _, _, k_dQ, k_dS, k_dL, k_dR, k_dT, k_dZ, k_dI, k_dH, k_dN, k_dK, k_dJ, k_dU, k_dO, hHd9, (hMn.mono hMn9 (by omega))⟩ (by omega) 1 (gK (t : Int32).toNatClampNeg) (gO (t : Int32).toNatClampNeg) (Or.inr rfl)) mV_X5_comesAnswer qM_X5_117 rfl k_mo rfl rfl hl9.1 (Nat.le_of_ble_eq_true rfl) ⟨⟨Nat.le_of_ble_eq_true rfl, Nat.le_of_ble_eq_true rfl⟩, Nat.le_of_ble_eq_true rfl, Nat.le_of_ble_eq_true rfl⟩ dX5_comes_104 (fun E ce q9 f48 H locs hPX hw hS hce hcv hcl => ?_) (fun v f48 H locs hP hw hS => ?_)
              · exact hPX.elim
              · obtain ⟨ev9, h50, k51⟩ := hP
                have h50L := h50
                obtain ⟨gQ_n49, gS_n49, gL_n49, gR_n49, gT_n49, gZ_n49, gI_n49, gH_n49, gN_n49, gK_n49, gJ_n49, gU_n49, gO_n49, k_dQ_n49, k_dS_n49, k_dL_n49, k_dR_n49, k_dT_n49, k_dZ_n49, k_dI_n49, k_dH_n49, k_dN_n49, k_dK_n49, k_dJ_n49, k_dU_n49, k_dO_n49, hHd9_n49, hMn9_n49⟩ := id h50
                subst ev9
                refine W.eq (g2 := F0 m 107 ls []) rfl ?_
                exact hp_vret B0 hw hS hr ⟨Nat.le_of_ble_eq_true rfl, Nat.le_of_ble_eq_true rfl⟩ dX5_comes_107 (⟨rfl, ⟨_, _, _, _, _, _, _, _, _, _, _, _, _, k_dQ_n49, k_dS_n49, k_dL_n49, k_dR_n49, k_dT_n49, k_dZ_n49, k_dI_n49, k_dH_n49, k_dN_n49, k_dK_n49, k_dJ_n49, k_dU_n49, k_dO_n49, hHd9_n49, (hMn.mono hMn9_n49 (by omega))⟩, (show hEq [dQ, dS, dL, dR, dT, dZ, dI, dH, dN, dK, dJ, dU, dO] f f48 from (hEq.mono k51 (fun _ h9 => h9)))⟩)
      · refine lv_aload_n hx hb dX5_comes_45 rfl (lv_at hl9 0 rfl) ?_
        refine hp_get B0 hw 5 rfl in_X5 k_mo 5 (by decide) qF_X5_22 rfl dX5_comes_46 ?_
        refine lv_iload_n hx hb dX5_comes_49 rfl (lv_at hl9 1 rfl) ?_
        refine lv_iconst (v := 0) hx hb dX5_comes_50 (by decide) ?_
        refine hp_iast B0 hw hS k_dS (by unfold vp_in; decide) dX5_comes_51 (fun H locs f52 ef52 hw hS => ?_)
        have h53 : f52 dS = some (.inl (cI G, 2, .inl (upd gS (1 : Int32).toNatClampNeg 0))) := by rw [ef52, va_up_self]
        refine lv_goto (tgt := 107) hx hb dX5_comes_52 (by decide) ?_
        have n55 : dQ ≠ dS := hneL k_dQ k_dS (Nat.ne_of_beq_eq_false rfl)
        have h54 : f52 dQ = some (.inl (cI G, 12, .inl gQ)) := by rw [ef52, va_up_ne _ _ n55]; exact k_dQ
        have h56 : f52 dL = some (.inl (cI G, 2, .inl gL)) := by rw [ef52, va_up_ne _ _ (Ne.symm nd_dS_dL)]; exact k_dL
        have h57 : f52 dR = some (.inl (cI G, 2, .inl gR)) := by rw [ef52, va_up_ne _ _ (Ne.symm nd_dS_dR)]; exact k_dR
        have h58 : f52 dT = some (.inl (cI G, 2, .inl gT)) := by rw [ef52, va_up_ne _ _ (Ne.symm nd_dS_dT)]; exact k_dT
        have h59 : f52 dZ = some (.inl (cZ G, 2, .inl gZ)) := by rw [ef52, va_up_ne _ _ (Ne.symm nd_dS_dZ)]; exact k_dZ
        have h60 : f52 dI = some (.inl (cI G, 2, .inl gI)) := by rw [ef52, va_up_ne _ _ (Ne.symm nd_dS_dI)]; exact k_dI
        have h61 : f52 dH = some (.inl (cI G, 2, .inl gH)) := by rw [ef52, va_up_ne _ _ (Ne.symm nd_dS_dH)]; exact k_dH
        have h62 : f52 dN = some (.inl (cI G, 2, .inl gN)) := by rw [ef52, va_up_ne _ _ (Ne.symm nd_dS_dN)]; exact k_dN
        have n64 : dK ≠ dS := hneL k_dK k_dS (Nat.ne_of_beq_eq_false rfl)
        have h63 : f52 dK = some (.inl (cI G, 2048, .inl gK)) := by rw [ef52, va_up_ne _ _ n64]; exact k_dK
        have n66 : dJ ≠ dS := hneL k_dJ k_dS (Nat.ne_of_beq_eq_false rfl)
        have h65 : f52 dJ = some (.inl (cI G, 2048, .inl gJ)) := by rw [ef52, va_up_ne _ _ n66]; exact k_dJ
        have n68 : dU ≠ dS := hneL k_dU k_dS (Nat.ne_of_beq_eq_false rfl)
        have h67 : f52 dU = some (.inl (cI G, 2048, .inl gU)) := by rw [ef52, va_up_ne _ _ n68]; exact k_dU
        have n70 : dO ≠ dS := hneL k_dO k_dS (Nat.ne_of_beq_eq_false rfl)
        have h69 : f52 dO = some (.inl (cI G, 2048, .inl gO)) := by rw [ef52, va_up_ne _ _ n70]; exact k_dO
        exact hp_vret B0 hw hS hr ⟨Nat.le_of_ble_eq_true rfl, Nat.le_of_ble_eq_true rfl⟩ dX5_comes_107 (⟨rfl, ⟨_, _, _, _, _, _, _, _, _, _, _, _, _, h54, h53, h56, h57, h58, h59, h60, h61, h62, h63, h65, h67, h69, hHd9, (hMn.mono hMn9 (by omega))⟩, (show hEq [dQ, dS, dL, dR, dT, dZ, dI, dH, dN, dK, dJ, dU, dO] f f52 from (by rw [ef52]; exact hEq.up (List.mem_cons_of_mem _ List.mem_cons_self)))⟩)
    · refine lv_aload_n hx hb dX5_comes_9 rfl (lv_at hl9 0 rfl) ?_
      refine lv_iload_n hx hb dX5_comes_10 rfl (lv_at hl9 1 rfl) ?_
      refine lv_aload_n hx hb dX5_comes_11 rfl (lv_at hl9 0 rfl) ?_
      refine hp_get B0 hw 5 rfl in_X5 k_mo 14 (by decide) qF_X5_50 rfl dX5_comes_12 ?_
      refine lv_iload_n hx hb dX5_comes_15 rfl (lv_at hl9 2 rfl) ?_
      refine hp_iald B0 hw k_dJ ht dX5_comes_16 ?_
      refine lv_aload_n hx hb dX5_comes_17 rfl (lv_at hl9 0 rfl) ?_
      refine hp_get B0 hw 5 rfl in_X5 k_mo 15 (by decide) qF_X5_53 rfl dX5_comes_18 ?_
      refine lv_iload_n hx hb dX5_comes_21 rfl (lv_at hl9 2 rfl) ?_
      refine hp_iald B0 hw k_dU ht dX5_comes_22 ?_
      refine lv_aload_n hx hb dX5_comes_23 rfl (lv_at hl9 0 rfl) ?_
      refine hp_get B0 hw 5 rfl in_X5 k_mo 16 (by decide) qF_X5_56 rfl dX5_comes_24 ?_
      refine lv_iload_n hx hb dX5_comes_27 rfl (lv_at hl9 2 rfl) ?_
      refine hp_iald B0 hw k_dO ht dX5_comes_28 ?_
      refine hp_V (ci := 5) (As := [.int 1, .int (gJ (t : Int32).toNatClampNeg), .int (gU (t : Int32).toNatClampNeg), .int (gO (t : Int32).toNatClampNeg)]) (rest := []) B0 hw hS (c_W5_comesRequest hl G f mo dW dA dQ dM dS dL dR dT dZ dI dH dN dK dJ dU dO dF dP dE dX dY dG vth vpk vpc vnx vgv k_mo hND gM gA k_dM k_dA hSA B ⟨_, _, _, _, _, _, _, _, _, _, _, _, _, k_dQ, k_dS, k_dL, k_dR, k_dT, k_dZ, k_dI, k_dH, k_dN, k_dK, k_dJ, k_dU, k_dO, hHd9, (hMn.mono hMn9 (by omega))⟩ (by omega) 1 (gJ (t : Int32).toNatClampNeg) (gU (t : Int32).toNatClampNeg) (gO (t : Int32).toNatClampNeg) (Or.inr rfl)) mV_X5_comesRequest qM_X5_114 rfl k_mo rfl rfl hl9.1 (Nat.le_of_ble_eq_true rfl) ⟨⟨Nat.le_of_ble_eq_true rfl, Nat.le_of_ble_eq_true rfl⟩, Nat.le_of_ble_eq_true rfl, Nat.le_of_ble_eq_true rfl⟩ dX5_comes_29 (fun E ce q9 f71 H locs hPX hw hS hce hcv hcl => ?_) (fun v f71 H locs hP hw hS => ?_)
      · exact hPX.elim
      · obtain ⟨ev9, h73, k74⟩ := hP
        have h73L := h73
        obtain ⟨gQ_n72, gS_n72, gL_n72, gR_n72, gT_n72, gZ_n72, gI_n72, gH_n72, gN_n72, gK_n72, gJ_n72, gU_n72, gO_n72, k_dQ_n72, k_dS_n72, k_dL_n72, k_dR_n72, k_dT_n72, k_dZ_n72, k_dI_n72, k_dH_n72, k_dN_n72, k_dK_n72, k_dJ_n72, k_dU_n72, k_dO_n72, hHd9_n72, hMn9_n72⟩ := id h73
        subst ev9
        refine W.eq (g2 := F0 m 32 ls []) rfl ?_
        refine lv_goto (tgt := 107) hx hb dX5_comes_32 (by decide) ?_
        exact hp_vret B0 hw hS hr ⟨Nat.le_of_ble_eq_true rfl, Nat.le_of_ble_eq_true rfl⟩ dX5_comes_107 (⟨rfl, ⟨_, _, _, _, _, _, _, _, _, _, _, _, _, k_dQ_n72, k_dS_n72, k_dL_n72, k_dR_n72, k_dT_n72, k_dZ_n72, k_dI_n72, k_dH_n72, k_dN_n72, k_dK_n72, k_dJ_n72, k_dU_n72, k_dO_n72, hHd9_n72, (hMn.mono hMn9_n72 (by omega))⟩, (show hEq [dQ, dS, dL, dR, dT, dZ, dI, dH, dN, dK, dJ, dU, dO] f f71 from (hEq.mono k74 (fun _ h9 => h9)))⟩)

set_option maxHeartbeats 4000000 in
set_option maxRecDepth 100000 in
theorem c_W5_takes {l : Launch} (hl : l.stackTraces = false) (G : hG) (f : hM) (mo dW dA dQ dM dS dL dR dT dZ dI dH dN dK dJ dU dO dF dP dE dX dY dG : Nat) (vth vpk vpc vnx vgv : Int32) (k_mo : f mo = some (.inr (5, [.int vth, .ref dW, .ref dA, .ref dQ, .ref dM, .ref dS, .ref dL, .ref dR, .ref dT, .ref dZ, .ref dI, .ref dH, .ref dN, .ref dK, .ref dJ, .ref dU, .ref dO, .int vpk, .int vpc, .ref dF, .ref dP, .ref dE, .ref dX, .ref dY, .int vnx, .int vgv, .ref dG]))) (hND : ND5 dW dA dQ dM dS dL dR dT dZ dI dH dN dK dJ dU dO dF dP dE dX dY dG) (gM gA : Nat → Int32) (k_dM : f dM = some (.inl (cI G, 2, .inl gM))) (k_dA : f dA = some (.inl (cI G, 12, .inl gA))) (hSA : ∀ j, j < 12 → sA (gA j)) (B : Nat) (hLM : LM G f dQ dS dL dR dT dZ dI dH dN dK dJ dU dO B) (ee : Int32) (hnz : ∀ g9 : Nat → Int32, f dN = some (.inl (cI G, 2, .inl g9)) → ¬ g9 (ee : Int32).toNatClampNeg = 0) (he : sE ee) : CT l yX5_takes (.code yX5_takes cX5_takes 3 (some .int)) 0 0 0 0 G [.ref mo, .int ee] f (fun v f1 => (∃ r : Int32, v = some (.int r) ∧ vp_in r 2048) ∧ LM G f1 dQ dS dL dR dT dZ dI dH dN dK dJ dU dO (B + 0) ∧ hEq [dQ, dS, dL, dR, dT, dZ, dI, dH, dN, dK, dJ, dU, dO] f f1) (fun E f1 => False) := by
  refine hp_start hl (own := RX5) (by decide) rfl (Nat.le_of_ble_eq_true rfl) ?_
  intro p e s m args below meth c B0 hr hnm hout hw hS ls hl9
  have hx := B0.1
  have hb := B0.2.1
  have hl9 : lv_has ls 3 [(0, .ref mo), (1, .int ee)] := hl9
  obtain ⟨nd_dW_dA, nd_dW_dQ, nd_dA_dQ, nd_dM_dS, nd_dM_dL, nd_dM_dR, nd_dM_dT, nd_dM_dZ, nd_dM_dI, nd_dM_dH, nd_dM_dN, nd_dS_dL, nd_dS_dR, nd_dS_dT, nd_dS_dZ, nd_dS_dI, nd_dS_dH, nd_dS_dN, nd_dL_dR, nd_dL_dT, nd_dL_dZ, nd_dL_dI, nd_dL_dH, nd_dL_dN, nd_dR_dT, nd_dR_dZ, nd_dR_dI, nd_dR_dH, nd_dR_dN, nd_dT_dZ, nd_dT_dI, nd_dT_dH, nd_dT_dN, nd_dZ_dI, nd_dZ_dH, nd_dZ_dN, nd_dI_dH, nd_dI_dN, nd_dH_dN, nd_dK_dJ, nd_dK_dU, nd_dK_dO, nd_dJ_dU, nd_dJ_dO, nd_dU_dO, nd_dP_dE, nd_dX_dY⟩ := id hND
  obtain ⟨gQ, gS, gL, gR, gT, gZ, gI, gH, gN, gK, gJ, gU, gO, k_dQ, k_dS, k_dL, k_dR, k_dT, k_dZ, k_dI, k_dH, k_dN, k_dK, k_dJ, k_dU, k_dO, hHd9, hMn9⟩ := id hLM
  have hne9 := hnz _ k_dN
  rcases he with rfl | rfl
  · refine lv_sipush (v := 1024) hx hb dX5_takes_0 (by decide) ?_
    obtain ⟨h0, hh0, lh0⟩ := hHd9 0 (by decide)
    obtain ⟨k0, kk0, lk0⟩ := hMn9 0 (by decide)
    obtain ⟨q0, eq0⟩ : ∃ q, k0 = q + 1 := ⟨k0 - 1, by have h1 : k0 ≠ 0 := fun h9 => hne9 (kk0.trans (by rw [h9]; rfl)); omega⟩
    subst eq0
    refine lv_iload_n hx hb dX5_takes_3 rfl (lv_at hl9 1 rfl) ?_
    refine lv_imul hx hb dX5_takes_4 ?_
    refine hp_c (v := 0) (by decide) ?_
    refine lv_aload_n hx hb dX5_takes_5 rfl (lv_at hl9 0 rfl) ?_
    refine hp_get B0 hw 5 rfl in_X5 k_mo 11 (by decide) qF_X5_41 rfl dX5_takes_6 ?_
    refine lv_iload_n hx hb dX5_takes_9 rfl (lv_at hl9 1 rfl) ?_
    refine hp_iald B0 hw k_dH (by unfold vp_in; decide) dX5_takes_10 ?_
    refine hp_c (v := (nI h0)) (hh0) ?_
    refine lv_iadd hx hb dX5_takes_11 ?_
    refine hp_c (v := (nI h0)) (Int32.zero_add _) ?_
    refine lv_istore_n (lv' := [(2, .int (nI h0)), (0, .ref mo), (1, .int 0)]) hx hb dX5_takes_12 rfl hl9 (by decide) rfl (fun ls hl9 => ?_)
    refine lv_aload_n hx hb dX5_takes_13 rfl (lv_at hl9 1 rfl) ?_
    refine hp_get B0 hw 5 rfl in_X5 k_mo 11 (by decide) qF_X5_41 rfl dX5_takes_14 ?_
    refine lv_iload_n hx hb dX5_takes_17 rfl (lv_at hl9 2 rfl) ?_
    refine lv_aload_n hx hb dX5_takes_18 rfl (lv_at hl9 1 rfl) ?_
    refine hp_get B0 hw 5 rfl in_X5 k_mo 11 (by decide) qF_X5_41 rfl dX5_takes_19 ?_
    refine lv_iload_n hx hb dX5_takes_22 rfl (lv_at hl9 2 rfl) ?_
    refine hp_iald B0 hw k_dH (by unfold vp_in; decide) dX5_takes_23 ?_
    refine hp_c (v := (nI h0)) (hh0) ?_
    refine lv_iconst (v := 1) hx hb dX5_takes_24 (by decide) ?_
    refine lv_iadd hx hb dX5_takes_25 ?_
    refine hp_c (v := (nI (h0 + 1))) (nI_1 h0) ?_
    refine lv_sipush (v := 1024) hx hb dX5_takes_26 (by decide) ?_
    refine lv_irem hx hb dX5_takes_29 (by decide) ?_
    refine hp_c (v := (nI ((h0 + 1) % 1024))) (pk_rem (a := h0 + 1) (d := 1024) (by omega) (by decide) (by decide)) ?_
    refine hp_iast B0 hw hS k_dH (by unfold vp_in; decide) dX5_takes_30 (fun H locs f1 ef1 hw hS => ?_)
    have h2 : f1 dH = some (.inl (cI G, 2, .inl (upd gH (0 : Int32).toNatClampNeg (nI ((h0 + 1) % 1024))))) := by rw [ef1, va_up_self]
    refine lv_aload_n hx hb dX5_takes_31 rfl (lv_at hl9 1 rfl) ?_
    have n4 : mo ≠ dH := hne k_mo k_dH (Nat.ne_of_beq_eq_false rfl)
    have h3 : f1 mo = some (.inr (5, [.int vth, .ref dW, .ref dA, .ref dQ, .ref dM, .ref dS, .ref dL, .ref dR, .ref dT, .ref dZ, .ref dI, .ref dH, .ref dN, .ref dK, .ref dJ, .ref dU, .ref dO, .int vpk, .int vpc, .ref dF, .ref dP, .ref dE, .ref dX, .ref dY, .int vnx, .int vgv, .ref dG])) := by rw [ef1, va_up_ne _ _ n4]; exact k_mo
    refine hp_get B0 hw 5 rfl in_X5 h3 12 (by decide) qF_X5_44 rfl dX5_takes_32 ?_
    refine lv_iload_n hx hb dX5_takes_35 rfl (lv_at hl9 2 rfl) ?_
    refine lv_dup2_11 hx hb dX5_takes_36 rfl rfl ?_
    have h5 : f1 dN = some (.inl (cI G, 2, .inl gN)) := by rw [ef1, va_up_ne _ _ (Ne.symm nd_dH_dN)]; exact k_dN
    refine hp_iald B0 hw h5 (by unfold vp_in; decide) dX5_takes_37 ?_
    refine hp_c (v := (nI (q0 + 1))) (kk0) ?_
    refine lv_iconst (v := 1) hx hb dX5_takes_38 (by decide) ?_
    refine lv_isub hx hb dX5_takes_39 ?_
    refine hp_c (v := (nI q0)) (nI_pred q0) ?_
    refine hp_iast B0 hw hS h5 (by unfold vp_in; decide) dX5_takes_40 (fun H locs f6 ef6 hw hS => ?_)
    have h7 : f6 dN = some (.inl (cI G, 2, .inl (upd gN (0 : Int32).toNatClampNeg (nI q0)))) := by rw [ef6, va_up_self]
    refine lv_iload_n hx hb dX5_takes_41 rfl (lv_at hl9 0 rfl) ?_
    have n9 : dQ ≠ dH := hneL k_dQ k_dH (Nat.ne_of_beq_eq_false rfl)
    have h8 : f1 dQ = some (.inl (cI G, 12, .inl gQ)) := by rw [ef1, va_up_ne _ _ n9]; exact k_dQ
    have n11 : dQ ≠ dN := hneL k_dQ k_dN (Nat.ne_of_beq_eq_false rfl)
    have h10 : f6 dQ = some (.inl (cI G, 12, .inl gQ)) := by rw [ef6, va_up_ne _ _ n11]; exact h8
    have h12 : f1 dS = some (.inl (cI G, 2, .inl gS)) := by rw [ef1, va_up_ne _ _ nd_dS_dH]; exact k_dS
    have h13 : f6 dS = some (.inl (cI G, 2, .inl gS)) := by rw [ef6, va_up_ne _ _ nd_dS_dN]; exact h12
    have h14 : f1 dL = some (.inl (cI G, 2, .inl gL)) := by rw [ef1, va_up_ne _ _ nd_dL_dH]; exact k_dL
    have h15 : f6 dL = some (.inl (cI G, 2, .inl gL)) := by rw [ef6, va_up_ne _ _ nd_dL_dN]; exact h14
    have h16 : f1 dR = some (.inl (cI G, 2, .inl gR)) := by rw [ef1, va_up_ne _ _ nd_dR_dH]; exact k_dR
    have h17 : f6 dR = some (.inl (cI G, 2, .inl gR)) := by rw [ef6, va_up_ne _ _ nd_dR_dN]; exact h16
    have h18 : f1 dT = some (.inl (cI G, 2, .inl gT)) := by rw [ef1, va_up_ne _ _ nd_dT_dH]; exact k_dT
    have h19 : f6 dT = some (.inl (cI G, 2, .inl gT)) := by rw [ef6, va_up_ne _ _ nd_dT_dN]; exact h18
    have h20 : f1 dZ = some (.inl (cZ G, 2, .inl gZ)) := by rw [ef1, va_up_ne _ _ nd_dZ_dH]; exact k_dZ
    have h21 : f6 dZ = some (.inl (cZ G, 2, .inl gZ)) := by rw [ef6, va_up_ne _ _ nd_dZ_dN]; exact h20
    have h22 : f1 dI = some (.inl (cI G, 2, .inl gI)) := by rw [ef1, va_up_ne _ _ nd_dI_dH]; exact k_dI
    have h23 : f6 dI = some (.inl (cI G, 2, .inl gI)) := by rw [ef6, va_up_ne _ _ nd_dI_dN]; exact h22
    have h24 : f6 dH = some (.inl (cI G, 2, .inl (upd gH (0 : Int32).toNatClampNeg (nI ((h0 + 1) % 1024))))) := by rw [ef6, va_up_ne _ _ nd_dH_dN]; exact h2
    have n26 : dK ≠ dH := hneL k_dK k_dH (Nat.ne_of_beq_eq_false rfl)
    have h25 : f1 dK = some (.inl (cI G, 2048, .inl gK)) := by rw [ef1, va_up_ne _ _ n26]; exact k_dK
    have n28 : dK ≠ dN := hneL k_dK k_dN (Nat.ne_of_beq_eq_false rfl)
    have h27 : f6 dK = some (.inl (cI G, 2048, .inl gK)) := by rw [ef6, va_up_ne _ _ n28]; exact h25
    have n30 : dJ ≠ dH := hneL k_dJ k_dH (Nat.ne_of_beq_eq_false rfl)
    have h29 : f1 dJ = some (.inl (cI G, 2048, .inl gJ)) := by rw [ef1, va_up_ne _ _ n30]; exact k_dJ
    have n32 : dJ ≠ dN := hneL k_dJ k_dN (Nat.ne_of_beq_eq_false rfl)
    have h31 : f6 dJ = some (.inl (cI G, 2048, .inl gJ)) := by rw [ef6, va_up_ne _ _ n32]; exact h29
    have n34 : dU ≠ dH := hneL k_dU k_dH (Nat.ne_of_beq_eq_false rfl)
    have h33 : f1 dU = some (.inl (cI G, 2048, .inl gU)) := by rw [ef1, va_up_ne _ _ n34]; exact k_dU
    have n36 : dU ≠ dN := hneL k_dU k_dN (Nat.ne_of_beq_eq_false rfl)
    have h35 : f6 dU = some (.inl (cI G, 2048, .inl gU)) := by rw [ef6, va_up_ne _ _ n36]; exact h33
    have n38 : dO ≠ dH := hneL k_dO k_dH (Nat.ne_of_beq_eq_false rfl)
    have h37 : f1 dO = some (.inl (cI G, 2048, .inl gO)) := by rw [ef1, va_up_ne _ _ n38]; exact k_dO
    have n40 : dO ≠ dN := hneL k_dO k_dN (Nat.ne_of_beq_eq_false rfl)
    have h39 : f6 dO = some (.inl (cI G, 2048, .inl gO)) := by rw [ef6, va_up_ne _ _ n40]; exact h37
    exact hp_iret (v := (nI h0)) B0 hw hS hr ⟨Nat.le_of_ble_eq_true rfl, Nat.le_of_ble_eq_true rfl⟩ dX5_takes_42 (⟨⟨_, rfl, (vp_in_nI (show h0 < 2048 by omega) (by decide))⟩, ⟨_, _, _, _, _, _, _, _, _, _, _, _, _, h10, h13, h15, h17, h19, h21, h23, h24, h7, h27, h31, h35, h39, (hHd.up hHd9 (Nat.mod_lt _ (by decide))), (hMn.mono (hMn.up (B1 := B) hMn9 (by omega) (by omega)) (by omega))⟩, ((show hEq [dQ, dS, dL, dR, dT, dZ, dI, dH, dN, dK, dJ, dU, dO] f f1 from (by rw [ef1]; exact hEq.up (List.mem_cons_of_mem _ (List.mem_cons_of_mem _ (List.mem_cons_of_mem _ (List.mem_cons_of_mem _ (List.mem_cons_of_mem _ (List.mem_cons_of_mem _ (List.mem_cons_of_mem _ List.mem_cons_self))))))))).tr (show hEq [dQ, dS, dL, dR, dT, dZ, dI, dH, dN, dK, dJ, dU, dO] f1 f6 from (by rw [ef6]; exact hEq.up (List.mem_cons_of_mem _ (List.mem_cons_of_mem _ (List.mem_cons_of_mem _ (List.mem_cons_of_mem _ (List.mem_cons_of_mem _ (List.mem_cons_of_mem _ (List.mem_cons_of_mem _ (List.mem_cons_of_mem _ List.mem_cons_self)))))))))))⟩)
  · refine lv_sipush (v := 1024) hx hb dX5_takes_0 (by decide) ?_
    obtain ⟨h0, hh0, lh0⟩ := hHd9 1 (by decide)
    obtain ⟨k0, kk0, lk0⟩ := hMn9 1 (by decide)
    obtain ⟨q0, eq0⟩ : ∃ q, k0 = q + 1 := ⟨k0 - 1, by have h1 : k0 ≠ 0 := fun h9 => hne9 (kk0.trans (by rw [h9]; rfl)); omega⟩
    subst eq0
    refine lv_iload_n hx hb dX5_takes_3 rfl (lv_at hl9 1 rfl) ?_
    refine lv_imul hx hb dX5_takes_4 ?_
    refine hp_c (v := 1024) (by decide) ?_
    refine lv_aload_n hx hb dX5_takes_5 rfl (lv_at hl9 0 rfl) ?_
    refine hp_get B0 hw 5 rfl in_X5 k_mo 11 (by decide) qF_X5_41 rfl dX5_takes_6 ?_
    refine lv_iload_n hx hb dX5_takes_9 rfl (lv_at hl9 1 rfl) ?_
    refine hp_iald B0 hw k_dH (by unfold vp_in; decide) dX5_takes_10 ?_
    refine hp_c (v := (nI h0)) (hh0) ?_
    refine lv_iadd hx hb dX5_takes_11 ?_
    refine hp_c (v := (nI (1024 + h0))) (nI_add 1024 _) ?_
    refine lv_istore_n (lv' := [(2, .int (nI (1024 + h0))), (0, .ref mo), (1, .int 1)]) hx hb dX5_takes_12 rfl hl9 (by decide) rfl (fun ls hl9 => ?_)
    refine lv_aload_n hx hb dX5_takes_13 rfl (lv_at hl9 1 rfl) ?_
    refine hp_get B0 hw 5 rfl in_X5 k_mo 11 (by decide) qF_X5_41 rfl dX5_takes_14 ?_
    refine lv_iload_n hx hb dX5_takes_17 rfl (lv_at hl9 2 rfl) ?_
    refine lv_aload_n hx hb dX5_takes_18 rfl (lv_at hl9 1 rfl) ?_
    refine hp_get B0 hw 5 rfl in_X5 k_mo 11 (by decide) qF_X5_41 rfl dX5_takes_19 ?_
    refine lv_iload_n hx hb dX5_takes_22 rfl (lv_at hl9 2 rfl) ?_
    refine hp_iald B0 hw k_dH (by unfold vp_in; decide) dX5_takes_23 ?_
    refine hp_c (v := (nI h0)) (hh0) ?_
    refine lv_iconst (v := 1) hx hb dX5_takes_24 (by decide) ?_
    refine lv_iadd hx hb dX5_takes_25 ?_
    refine hp_c (v := (nI (h0 + 1))) (nI_1 h0) ?_
    refine lv_sipush (v := 1024) hx hb dX5_takes_26 (by decide) ?_
    refine lv_irem hx hb dX5_takes_29 (by decide) ?_
    refine hp_c (v := (nI ((h0 + 1) % 1024))) (pk_rem (a := h0 + 1) (d := 1024) (by omega) (by decide) (by decide)) ?_
    refine hp_iast B0 hw hS k_dH (by unfold vp_in; decide) dX5_takes_30 (fun H locs f41 ef41 hw hS => ?_)
    have h42 : f41 dH = some (.inl (cI G, 2, .inl (upd gH (1 : Int32).toNatClampNeg (nI ((h0 + 1) % 1024))))) := by rw [ef41, va_up_self]
    refine lv_aload_n hx hb dX5_takes_31 rfl (lv_at hl9 1 rfl) ?_
    have n44 : mo ≠ dH := hne k_mo k_dH (Nat.ne_of_beq_eq_false rfl)
    have h43 : f41 mo = some (.inr (5, [.int vth, .ref dW, .ref dA, .ref dQ, .ref dM, .ref dS, .ref dL, .ref dR, .ref dT, .ref dZ, .ref dI, .ref dH, .ref dN, .ref dK, .ref dJ, .ref dU, .ref dO, .int vpk, .int vpc, .ref dF, .ref dP, .ref dE, .ref dX, .ref dY, .int vnx, .int vgv, .ref dG])) := by rw [ef41, va_up_ne _ _ n44]; exact k_mo
    refine hp_get B0 hw 5 rfl in_X5 h43 12 (by decide) qF_X5_44 rfl dX5_takes_32 ?_
    refine lv_iload_n hx hb dX5_takes_35 rfl (lv_at hl9 2 rfl) ?_
    refine lv_dup2_11 hx hb dX5_takes_36 rfl rfl ?_
    have h45 : f41 dN = some (.inl (cI G, 2, .inl gN)) := by rw [ef41, va_up_ne _ _ (Ne.symm nd_dH_dN)]; exact k_dN
    refine hp_iald B0 hw h45 (by unfold vp_in; decide) dX5_takes_37 ?_
    refine hp_c (v := (nI (q0 + 1))) (kk0) ?_
    refine lv_iconst (v := 1) hx hb dX5_takes_38 (by decide) ?_
    refine lv_isub hx hb dX5_takes_39 ?_
    refine hp_c (v := (nI q0)) (nI_pred q0) ?_
    refine hp_iast B0 hw hS h45 (by unfold vp_in; decide) dX5_takes_40 (fun H locs f46 ef46 hw hS => ?_)
    have h47 : f46 dN = some (.inl (cI G, 2, .inl (upd gN (1 : Int32).toNatClampNeg (nI q0)))) := by rw [ef46, va_up_self]
    refine lv_iload_n hx hb dX5_takes_41 rfl (lv_at hl9 0 rfl) ?_
    have n49 : dQ ≠ dH := hneL k_dQ k_dH (Nat.ne_of_beq_eq_false rfl)
    have h48 : f41 dQ = some (.inl (cI G, 12, .inl gQ)) := by rw [ef41, va_up_ne _ _ n49]; exact k_dQ
    have n51 : dQ ≠ dN := hneL k_dQ k_dN (Nat.ne_of_beq_eq_false rfl)
    have h50 : f46 dQ = some (.inl (cI G, 12, .inl gQ)) := by rw [ef46, va_up_ne _ _ n51]; exact h48
    have h52 : f41 dS = some (.inl (cI G, 2, .inl gS)) := by rw [ef41, va_up_ne _ _ nd_dS_dH]; exact k_dS
    have h53 : f46 dS = some (.inl (cI G, 2, .inl gS)) := by rw [ef46, va_up_ne _ _ nd_dS_dN]; exact h52
    have h54 : f41 dL = some (.inl (cI G, 2, .inl gL)) := by rw [ef41, va_up_ne _ _ nd_dL_dH]; exact k_dL
    have h55 : f46 dL = some (.inl (cI G, 2, .inl gL)) := by rw [ef46, va_up_ne _ _ nd_dL_dN]; exact h54
    have h56 : f41 dR = some (.inl (cI G, 2, .inl gR)) := by rw [ef41, va_up_ne _ _ nd_dR_dH]; exact k_dR
    have h57 : f46 dR = some (.inl (cI G, 2, .inl gR)) := by rw [ef46, va_up_ne _ _ nd_dR_dN]; exact h56
    have h58 : f41 dT = some (.inl (cI G, 2, .inl gT)) := by rw [ef41, va_up_ne _ _ nd_dT_dH]; exact k_dT
    have h59 : f46 dT = some (.inl (cI G, 2, .inl gT)) := by rw [ef46, va_up_ne _ _ nd_dT_dN]; exact h58
    have h60 : f41 dZ = some (.inl (cZ G, 2, .inl gZ)) := by rw [ef41, va_up_ne _ _ nd_dZ_dH]; exact k_dZ
    have h61 : f46 dZ = some (.inl (cZ G, 2, .inl gZ)) := by rw [ef46, va_up_ne _ _ nd_dZ_dN]; exact h60
    have h62 : f41 dI = some (.inl (cI G, 2, .inl gI)) := by rw [ef41, va_up_ne _ _ nd_dI_dH]; exact k_dI
    have h63 : f46 dI = some (.inl (cI G, 2, .inl gI)) := by rw [ef46, va_up_ne _ _ nd_dI_dN]; exact h62
    have h64 : f46 dH = some (.inl (cI G, 2, .inl (upd gH (1 : Int32).toNatClampNeg (nI ((h0 + 1) % 1024))))) := by rw [ef46, va_up_ne _ _ nd_dH_dN]; exact h42
    have n66 : dK ≠ dH := hneL k_dK k_dH (Nat.ne_of_beq_eq_false rfl)
    have h65 : f41 dK = some (.inl (cI G, 2048, .inl gK)) := by rw [ef41, va_up_ne _ _ n66]; exact k_dK
    have n68 : dK ≠ dN := hneL k_dK k_dN (Nat.ne_of_beq_eq_false rfl)
    have h67 : f46 dK = some (.inl (cI G, 2048, .inl gK)) := by rw [ef46, va_up_ne _ _ n68]; exact h65
    have n70 : dJ ≠ dH := hneL k_dJ k_dH (Nat.ne_of_beq_eq_false rfl)
    have h69 : f41 dJ = some (.inl (cI G, 2048, .inl gJ)) := by rw [ef41, va_up_ne _ _ n70]; exact k_dJ
    have n72 : dJ ≠ dN := hneL k_dJ k_dN (Nat.ne_of_beq_eq_false rfl)
    have h71 : f46 dJ = some (.inl (cI G, 2048, .inl gJ)) := by rw [ef46, va_up_ne _ _ n72]; exact h69
    have n74 : dU ≠ dH := hneL k_dU k_dH (Nat.ne_of_beq_eq_false rfl)
    have h73 : f41 dU = some (.inl (cI G, 2048, .inl gU)) := by rw [ef41, va_up_ne _ _ n74]; exact k_dU
    have n76 : dU ≠ dN := hneL k_dU k_dN (Nat.ne_of_beq_eq_false rfl)
    have h75 : f46 dU = some (.inl (cI G, 2048, .inl gU)) := by rw [ef46, va_up_ne _ _ n76]; exact h73
    have n78 : dO ≠ dH := hneL k_dO k_dH (Nat.ne_of_beq_eq_false rfl)
    have h77 : f41 dO = some (.inl (cI G, 2048, .inl gO)) := by rw [ef41, va_up_ne _ _ n78]; exact k_dO
    have n80 : dO ≠ dN := hneL k_dO k_dN (Nat.ne_of_beq_eq_false rfl)
    have h79 : f46 dO = some (.inl (cI G, 2048, .inl gO)) := by rw [ef46, va_up_ne _ _ n80]; exact h77
    exact hp_iret (v := (nI (1024 + h0))) B0 hw hS hr ⟨Nat.le_of_ble_eq_true rfl, Nat.le_of_ble_eq_true rfl⟩ dX5_takes_42 (⟨⟨_, rfl, (vp_in_nI (show 1024 + h0 < 2048 by omega) (by decide))⟩, ⟨_, _, _, _, _, _, _, _, _, _, _, _, _, h50, h53, h55, h57, h59, h61, h63, h64, h47, h67, h71, h75, h79, (hHd.up hHd9 (Nat.mod_lt _ (by decide))), (hMn.mono (hMn.up (B1 := B) hMn9 (by omega) (by omega)) (by omega))⟩, ((show hEq [dQ, dS, dL, dR, dT, dZ, dI, dH, dN, dK, dJ, dU, dO] f f41 from (by rw [ef41]; exact hEq.up (List.mem_cons_of_mem _ (List.mem_cons_of_mem _ (List.mem_cons_of_mem _ (List.mem_cons_of_mem _ (List.mem_cons_of_mem _ (List.mem_cons_of_mem _ (List.mem_cons_of_mem _ List.mem_cons_self))))))))).tr (show hEq [dQ, dS, dL, dR, dT, dZ, dI, dH, dN, dK, dJ, dU, dO] f41 f46 from (by rw [ef46]; exact hEq.up (List.mem_cons_of_mem _ (List.mem_cons_of_mem _ (List.mem_cons_of_mem _ (List.mem_cons_of_mem _ (List.mem_cons_of_mem _ (List.mem_cons_of_mem _ (List.mem_cons_of_mem _ (List.mem_cons_of_mem _ List.mem_cons_self)))))))))))⟩)

set_option maxHeartbeats 4000000 in
set_option maxRecDepth 100000 in
theorem c_W5_goesBy {l : Launch} (hl : l.stackTraces = false) (G : hG) (f : hM) (mo dW dA dQ dM dS dL dR dT dZ dI dH dN dK dJ dU dO dF dP dE dX dY dG : Nat) (vth vpk vpc vnx vgv : Int32) (k_mo : f mo = some (.inr (5, [.int vth, .ref dW, .ref dA, .ref dQ, .ref dM, .ref dS, .ref dL, .ref dR, .ref dT, .ref dZ, .ref dI, .ref dH, .ref dN, .ref dK, .ref dJ, .ref dU, .ref dO, .int vpk, .int vpc, .ref dF, .ref dP, .ref dE, .ref dX, .ref dY, .int vnx, .int vgv, .ref dG]))) (hND : ND5 dW dA dQ dM dS dL dR dT dZ dI dH dN dK dJ dU dO dF dP dE dX dY dG) (gM gA : Nat → Int32) (k_dM : f dM = some (.inl (cI G, 2, .inl gM))) (k_dA : f dA = some (.inl (cI G, 12, .inl gA))) (hSA : ∀ j, j < 12 → sA (gA j)) (B : Nat) (hLM : LM G f dQ dS dL dR dT dZ dI dH dN dK dJ dU dO B) (hBB : B + 0 < 100000) (ee : Int32) (he : sE ee) : CT l yX5_goesBy (.code yX5_goesBy cX5_goesBy 2 (some .int)) 2 48 0 0 G [.ref mo, .int ee] f (fun v f1 => (∃ r : Int32, v = some (.int r)) ∧ LM G f1 dQ dS dL dR dT dZ dI dH dN dK dJ dU dO (B + 1) ∧ hEq [dQ, dS, dL, dR, dT, dZ, dI, dH, dN, dK, dJ, dU, dO] f f1) (fun E f1 => False) := by
  refine hp_start hl (own := RX5) (by decide) rfl (Nat.le_of_ble_eq_true rfl) ?_
  intro p e s m args below meth c B0 hr hnm hout hw hS ls hl9
  have hx := B0.1
  have hb := B0.2.1
  have hl9 : lv_has ls 2 [(0, .ref mo), (1, .int ee)] := hl9
  obtain ⟨nd_dW_dA, nd_dW_dQ, nd_dA_dQ, nd_dM_dS, nd_dM_dL, nd_dM_dR, nd_dM_dT, nd_dM_dZ, nd_dM_dI, nd_dM_dH, nd_dM_dN, nd_dS_dL, nd_dS_dR, nd_dS_dT, nd_dS_dZ, nd_dS_dI, nd_dS_dH, nd_dS_dN, nd_dL_dR, nd_dL_dT, nd_dL_dZ, nd_dL_dI, nd_dL_dH, nd_dL_dN, nd_dR_dT, nd_dR_dZ, nd_dR_dI, nd_dR_dH, nd_dR_dN, nd_dT_dZ, nd_dT_dI, nd_dT_dH, nd_dT_dN, nd_dZ_dI, nd_dZ_dH, nd_dZ_dN, nd_dI_dH, nd_dI_dN, nd_dH_dN, nd_dK_dJ, nd_dK_dU, nd_dK_dO, nd_dJ_dU, nd_dJ_dO, nd_dU_dO, nd_dP_dE, nd_dX_dY⟩ := id hND
  obtain ⟨gQ, gS, gL, gR, gT, gZ, gI, gH, gN, gK, gJ, gU, gO, k_dQ, k_dS, k_dL, k_dR, k_dT, k_dZ, k_dI, k_dH, k_dN, k_dK, k_dJ, k_dU, k_dO, hHd9, hMn9⟩ := id hLM
  rcases he with rfl | rfl
  · refine lv_aload_n hx hb dX5_goesBy_0 rfl (lv_at hl9 0 rfl) ?_
    refine hp_get B0 hw 5 rfl in_X5 k_mo 5 (by decide) qF_X5_22 rfl dX5_goesBy_1 ?_
    refine lv_iload_n hx hb dX5_goesBy_4 rfl (lv_at hl9 1 rfl) ?_
    refine hp_iald B0 hw k_dS (by unfold vp_in; decide) dX5_goesBy_5 ?_
    refine lv_if_eq (tgt := 19) hx hb dX5_goesBy_6 (by decide) (fun c1 => ?_) (fun c1 => ?_)
    · refine lv_iconst (v := 0) hx hb dX5_goesBy_19 (by decide) ?_
      exact hp_iret (v := 0) B0 hw hS hr ⟨Nat.le_of_ble_eq_true rfl, Nat.le_of_ble_eq_true rfl⟩ dX5_goesBy_20 (⟨⟨_, rfl⟩, ⟨_, _, _, _, _, _, _, _, _, _, _, _, _, k_dQ, k_dS, k_dL, k_dR, k_dT, k_dZ, k_dI, k_dH, k_dN, k_dK, k_dJ, k_dU, k_dO, hHd9, (hMn.mono hMn9 (by omega))⟩, hEq.rf⟩)
    · refine lv_aload_n hx hb dX5_goesBy_9 rfl (lv_at hl9 0 rfl) ?_
      refine hp_get B0 hw 5 rfl in_X5 k_mo 5 (by decide) qF_X5_22 rfl dX5_goesBy_10 ?_
      refine lv_iload_n hx hb dX5_goesBy_13 rfl (lv_at hl9 1 rfl) ?_
      refine hp_iald B0 hw k_dS (by unfold vp_in; decide) dX5_goesBy_14 ?_
      refine lv_iconst (v := 4) hx hb dX5_goesBy_15 (by decide) ?_
      refine lv_icmp_ne (tgt := 21) hx hb dX5_goesBy_16 (by decide) (fun c2 => ?_) (fun c2 => ?_)
      · refine lv_aload_n hx hb dX5_goesBy_21 rfl (lv_at hl9 0 rfl) ?_
        refine hp_get B0 hw 5 rfl in_X5 k_mo 8 (by decide) qF_X5_31 rfl dX5_goesBy_22 ?_
        refine lv_iload_n hx hb dX5_goesBy_25 rfl (lv_at hl9 1 rfl) ?_
        refine lv_dup2_11 hx hb dX5_goesBy_26 rfl rfl ?_
        refine hp_iald B0 hw k_dT (by unfold vp_in; decide) dX5_goesBy_27 ?_
        refine lv_iconst (v := 1) hx hb dX5_goesBy_28 (by decide) ?_
        refine lv_isub hx hb dX5_goesBy_29 ?_
        refine hp_iast B0 hw hS k_dT (by unfold vp_in; decide) dX5_goesBy_30 (fun H locs f3 ef3 hw hS => ?_)
        have h4 : f3 dT = some (.inl (cI G, 2, .inl (upd gT (0 : Int32).toNatClampNeg ((gT (0 : Int32).toNatClampNeg) - 1)))) := by rw [ef3, va_up_self]
        refine lv_aload_n hx hb dX5_goesBy_31 rfl (lv_at hl9 0 rfl) ?_
        have n6 : mo ≠ dT := hne k_mo k_dT (Nat.ne_of_beq_eq_false rfl)
        have h5 : f3 mo = some (.inr (5, [.int vth, .ref dW, .ref dA, .ref dQ, .ref dM, .ref dS, .ref dL, .ref dR, .ref dT, .ref dZ, .ref dI, .ref dH, .ref dN, .ref dK, .ref dJ, .ref dU, .ref dO, .int vpk, .int vpc, .ref dF, .ref dP, .ref dE, .ref dX, .ref dY, .int vnx, .int vgv, .ref dG])) := by rw [ef3, va_up_ne _ _ n6]; exact k_mo
        refine hp_get B0 hw 5 rfl in_X5 h5 8 (by decide) qF_X5_31 rfl dX5_goesBy_32 ?_
        refine lv_iload_n hx hb dX5_goesBy_35 rfl (lv_at hl9 1 rfl) ?_
        refine hp_iald B0 hw h4 (by unfold vp_in; decide) dX5_goesBy_36 ?_
        refine lv_if_le (tgt := 42) hx hb dX5_goesBy_37 (by decide) (fun c7 => ?_) (fun c7 => ?_)
        · refine lv_aload_n hx hb dX5_goesBy_42 rfl (lv_at hl9 0 rfl) ?_
          refine hp_get B0 hw 5 rfl in_X5 h5 5 (by decide) qF_X5_22 rfl dX5_goesBy_43 ?_
          refine lv_iload_n hx hb dX5_goesBy_46 rfl (lv_at hl9 1 rfl) ?_
          refine lv_aload_n hx hb dX5_goesBy_47 rfl (lv_at hl9 0 rfl) ?_
          refine hp_get B0 hw 5 rfl in_X5 h5 5 (by decide) qF_X5_22 rfl dX5_goesBy_48 ?_
          refine lv_iload_n hx hb dX5_goesBy_51 rfl (lv_at hl9 1 rfl) ?_
          have h8 : f3 dS = some (.inl (cI G, 2, .inl gS)) := by rw [ef3, va_up_ne _ _ nd_dS_dT]; exact k_dS
          refine hp_iald B0 hw h8 (by unfold vp_in; decide) dX5_goesBy_52 ?_
          refine lv_iconst (v := 2) hx hb dX5_goesBy_53 (by decide) ?_
          refine lv_icmp_ne (tgt := 61) hx hb dX5_goesBy_54 (by decide) (fun c9 => ?_) (fun c9 => ?_)
          · refine lv_aload_n hx hb dX5_goesBy_61 rfl (lv_at hl9 0 rfl) ?_
            refine hp_get B0 hw 5 rfl in_X5 h5 5 (by decide) qF_X5_22 rfl dX5_goesBy_62 ?_
            refine lv_iload_n hx hb dX5_goesBy_65 rfl (lv_at hl9 1 rfl) ?_
            refine hp_iald B0 hw h8 (by unfold vp_in; decide) dX5_goesBy_66 ?_
            refine hp_iast B0 hw hS h8 (by unfold vp_in; decide) dX5_goesBy_67 (fun H locs f10 ef10 hw hS => ?_)
            have h11 : f10 dS = some (.inl (cI G, 2, .inl (upd gS (0 : Int32).toNatClampNeg (gS (0 : Int32).toNatClampNeg)))) := by rw [ef10, va_up_self]
            refine lv_aload_n hx hb dX5_goesBy_68 rfl (lv_at hl9 0 rfl) ?_
            refine lv_iload_n hx hb dX5_goesBy_69 rfl (lv_at hl9 1 rfl) ?_
            have n13 : mo ≠ dS := hne k_mo k_dS (Nat.ne_of_beq_eq_false rfl)
            have h12 : f10 mo = some (.inr (5, [.int vth, .ref dW, .ref dA, .ref dQ, .ref dM, .ref dS, .ref dL, .ref dR, .ref dT, .ref dZ, .ref dI, .ref dH, .ref dN, .ref dK, .ref dJ, .ref dU, .ref dO, .int vpk, .int vpc, .ref dF, .ref dP, .ref dE, .ref dX, .ref dY, .int vnx, .int vgv, .ref dG])) := by rw [ef10, va_up_ne _ _ n13]; exact h5
            have h14 : f3 dM = some (.inl (cI G, 2, .inl gM)) := by rw [ef3, va_up_ne _ _ nd_dM_dT]; exact k_dM
            have h15 : f10 dM = some (.inl (cI G, 2, .inl gM)) := by rw [ef10, va_up_ne _ _ nd_dM_dS]; exact h14
            have n17 : dA ≠ dT := hneL k_dA k_dT (Nat.ne_of_beq_eq_false rfl)
            have h16 : f3 dA = some (.inl (cI G, 12, .inl gA)) := by rw [ef3, va_up_ne _ _ n17]; exact k_dA
            have n19 : dA ≠ dS := hneL k_dA k_dS (Nat.ne_of_beq_eq_false rfl)
            have h18 : f10 dA = some (.inl (cI G, 12, .inl gA)) := by rw [ef10, va_up_ne _ _ n19]; exact h16
            have n21 : dQ ≠ dT := hneL k_dQ k_dT (Nat.ne_of_beq_eq_false rfl)
            have h20 : f3 dQ = some (.inl (cI G, 12, .inl gQ)) := by rw [ef3, va_up_ne _ _ n21]; exact k_dQ
            have n23 : dQ ≠ dS := hneL k_dQ k_dS (Nat.ne_of_beq_eq_false rfl)
            have h22 : f10 dQ = some (.inl (cI G, 12, .inl gQ)) := by rw [ef10, va_up_ne _ _ n23]; exact h20
            have h24 : f3 dL = some (.inl (cI G, 2, .inl gL)) := by rw [ef3, va_up_ne _ _ nd_dL_dT]; exact k_dL
            have h25 : f10 dL = some (.inl (cI G, 2, .inl gL)) := by rw [ef10, va_up_ne _ _ (Ne.symm nd_dS_dL)]; exact h24
            have h26 : f3 dR = some (.inl (cI G, 2, .inl gR)) := by rw [ef3, va_up_ne _ _ nd_dR_dT]; exact k_dR
            have h27 : f10 dR = some (.inl (cI G, 2, .inl gR)) := by rw [ef10, va_up_ne _ _ (Ne.symm nd_dS_dR)]; exact h26
            have h28 : f10 dT = some (.inl (cI G, 2, .inl (upd gT (0 : Int32).toNatClampNeg ((gT (0 : Int32).toNatClampNeg) - 1)))) := by rw [ef10, va_up_ne _ _ (Ne.symm nd_dS_dT)]; exact h4
            have h29 : f3 dZ = some (.inl (cZ G, 2, .inl gZ)) := by rw [ef3, va_up_ne _ _ (Ne.symm nd_dT_dZ)]; exact k_dZ
            have h30 : f10 dZ = some (.inl (cZ G, 2, .inl gZ)) := by rw [ef10, va_up_ne _ _ (Ne.symm nd_dS_dZ)]; exact h29
            have h31 : f3 dI = some (.inl (cI G, 2, .inl gI)) := by rw [ef3, va_up_ne _ _ (Ne.symm nd_dT_dI)]; exact k_dI
            have h32 : f10 dI = some (.inl (cI G, 2, .inl gI)) := by rw [ef10, va_up_ne _ _ (Ne.symm nd_dS_dI)]; exact h31
            have h33 : f3 dH = some (.inl (cI G, 2, .inl gH)) := by rw [ef3, va_up_ne _ _ (Ne.symm nd_dT_dH)]; exact k_dH
            have h34 : f10 dH = some (.inl (cI G, 2, .inl gH)) := by rw [ef10, va_up_ne _ _ (Ne.symm nd_dS_dH)]; exact h33
            have h35 : f3 dN = some (.inl (cI G, 2, .inl gN)) := by rw [ef3, va_up_ne _ _ (Ne.symm nd_dT_dN)]; exact k_dN
            have h36 : f10 dN = some (.inl (cI G, 2, .inl gN)) := by rw [ef10, va_up_ne _ _ (Ne.symm nd_dS_dN)]; exact h35
            have n38 : dK ≠ dT := hneL k_dK k_dT (Nat.ne_of_beq_eq_false rfl)
            have h37 : f3 dK = some (.inl (cI G, 2048, .inl gK)) := by rw [ef3, va_up_ne _ _ n38]; exact k_dK
            have n40 : dK ≠ dS := hneL k_dK k_dS (Nat.ne_of_beq_eq_false rfl)
            have h39 : f10 dK = some (.inl (cI G, 2048, .inl gK)) := by rw [ef10, va_up_ne _ _ n40]; exact h37
            have n42 : dJ ≠ dT := hneL k_dJ k_dT (Nat.ne_of_beq_eq_false rfl)
            have h41 : f3 dJ = some (.inl (cI G, 2048, .inl gJ)) := by rw [ef3, va_up_ne _ _ n42]; exact k_dJ
            have n44 : dJ ≠ dS := hneL k_dJ k_dS (Nat.ne_of_beq_eq_false rfl)
            have h43 : f10 dJ = some (.inl (cI G, 2048, .inl gJ)) := by rw [ef10, va_up_ne _ _ n44]; exact h41
            have n46 : dU ≠ dT := hneL k_dU k_dT (Nat.ne_of_beq_eq_false rfl)
            have h45 : f3 dU = some (.inl (cI G, 2048, .inl gU)) := by rw [ef3, va_up_ne _ _ n46]; exact k_dU
            have n48 : dU ≠ dS := hneL k_dU k_dS (Nat.ne_of_beq_eq_false rfl)
            have h47 : f10 dU = some (.inl (cI G, 2048, .inl gU)) := by rw [ef10, va_up_ne _ _ n48]; exact h45
            have n50 : dO ≠ dT := hneL k_dO k_dT (Nat.ne_of_beq_eq_false rfl)
            have h49 : f3 dO = some (.inl (cI G, 2048, .inl gO)) := by rw [ef3, va_up_ne _ _ n50]; exact k_dO
            have n52 : dO ≠ dS := hneL k_dO k_dS (Nat.ne_of_beq_eq_false rfl)
            have h51 : f10 dO = some (.inl (cI G, 2048, .inl gO)) := by rw [ef10, va_up_ne _ _ n52]; exact h49
            refine hp_V (ci := 5) (As := [.int 0]) (rest := []) B0 hw hS (c_W5_begs hl G f10 mo dW dA dQ dM dS dL dR dT dZ dI dH dN dK dJ dU dO dF dP dE dX dY dG vth vpk vpc vnx vgv h12 hND gM gA h15 h18 hSA B ⟨_, _, _, _, _, _, _, _, _, _, _, _, _, h22, h11, h25, h27, h28, h30, h32, h34, h36, h39, h43, h47, h51, hHd9, (hMn.mono hMn9 (by omega))⟩ (by omega) 0 (Or.inl rfl)) mV_X5_begs qM_X5_107 rfl h12 rfl rfl hl9.1 (Nat.le_of_ble_eq_true rfl) ⟨⟨Nat.le_of_ble_eq_true rfl, Nat.le_of_ble_eq_true rfl⟩, Nat.le_of_ble_eq_true rfl, Nat.le_of_ble_eq_true rfl⟩ dX5_goesBy_70 (fun E ce q9 f53 H locs hPX hw hS hce hcv hcl => ?_) (fun v f53 H locs hP hw hS => ?_)
            · exact hPX.elim
            · obtain ⟨hv9, hr9⟩ := hP
              rcases hv9 with ev9 | ev9
              · have hP := And.intro ev9 hr9
                obtain ⟨ev8, h55, k56⟩ := hP
                have h55L := h55
                obtain ⟨gQ_n54, gS_n54, gL_n54, gR_n54, gT_n54, gZ_n54, gI_n54, gH_n54, gN_n54, gK_n54, gJ_n54, gU_n54, gO_n54, k_dQ_n54, k_dS_n54, k_dL_n54, k_dR_n54, k_dT_n54, k_dZ_n54, k_dI_n54, k_dH_n54, k_dN_n54, k_dK_n54, k_dJ_n54, k_dU_n54, k_dO_n54, hHd9_n54, hMn9_n54⟩ := id h55
                subst ev8
                refine W.eq (g2 := F0 m 73 ls [.int 0]) rfl ?_
                refine lv_if_eq (tgt := 80) hx hb dX5_goesBy_73 (by decide) (fun _ => ?_) (fun c9 => absurd (by decide) c9)
                refine lv_iconst (v := 0) hx hb dX5_goesBy_80 (by decide) ?_
                exact hp_iret (v := 0) B0 hw hS hr ⟨Nat.le_of_ble_eq_true rfl, Nat.le_of_ble_eq_true rfl⟩ dX5_goesBy_81 (⟨⟨_, rfl⟩, ⟨_, _, _, _, _, _, _, _, _, _, _, _, _, k_dQ_n54, k_dS_n54, k_dL_n54, k_dR_n54, k_dT_n54, k_dZ_n54, k_dI_n54, k_dH_n54, k_dN_n54, k_dK_n54, k_dJ_n54, k_dU_n54, k_dO_n54, hHd9_n54, (hMn.mono hMn9_n54 (by omega))⟩, ((show hEq [dQ, dS, dL, dR, dT, dZ, dI, dH, dN, dK, dJ, dU, dO] f f3 from (by rw [ef3]; exact hEq.up (List.mem_cons_of_mem _ (List.mem_cons_of_mem _ (List.mem_cons_of_mem _ (List.mem_cons_of_mem _ List.mem_cons_self)))))).tr ((show hEq [dQ, dS, dL, dR, dT, dZ, dI, dH, dN, dK, dJ, dU, dO] f3 f10 from (by rw [ef10]; exact hEq.up (List.mem_cons_of_mem _ List.mem_cons_self))).tr (show hEq [dQ, dS, dL, dR, dT, dZ, dI, dH, dN, dK, dJ, dU, dO] f10 f53 from (hEq.mono k56 (fun _ h9 => h9)))))⟩)
              · have hP := And.intro ev9 hr9
                obtain ⟨ev8, h58, k59⟩ := hP
                have h58L := h58
                obtain ⟨gQ_n57, gS_n57, gL_n57, gR_n57, gT_n57, gZ_n57, gI_n57, gH_n57, gN_n57, gK_n57, gJ_n57, gU_n57, gO_n57, k_dQ_n57, k_dS_n57, k_dL_n57, k_dR_n57, k_dT_n57, k_dZ_n57, k_dI_n57, k_dH_n57, k_dN_n57, k_dK_n57, k_dJ_n57, k_dU_n57, k_dO_n57, hHd9_n57, hMn9_n57⟩ := id h58
                subst ev8
                refine W.eq (g2 := F0 m 73 ls [.int 1]) rfl ?_
                refine lv_if_eq (tgt := 80) hx hb dX5_goesBy_73 (by decide) (fun c9 => absurd c9 (by decide)) (fun _ => ?_)
                refine lv_iconst (v := 1) hx hb dX5_goesBy_76 (by decide) ?_
                refine lv_goto (tgt := 81) hx hb dX5_goesBy_77 (by decide) ?_
                exact hp_iret (v := 1) B0 hw hS hr ⟨Nat.le_of_ble_eq_true rfl, Nat.le_of_ble_eq_true rfl⟩ dX5_goesBy_81 (⟨⟨_, rfl⟩, ⟨_, _, _, _, _, _, _, _, _, _, _, _, _, k_dQ_n57, k_dS_n57, k_dL_n57, k_dR_n57, k_dT_n57, k_dZ_n57, k_dI_n57, k_dH_n57, k_dN_n57, k_dK_n57, k_dJ_n57, k_dU_n57, k_dO_n57, hHd9_n57, (hMn.mono hMn9_n57 (by omega))⟩, ((show hEq [dQ, dS, dL, dR, dT, dZ, dI, dH, dN, dK, dJ, dU, dO] f f3 from (by rw [ef3]; exact hEq.up (List.mem_cons_of_mem _ (List.mem_cons_of_mem _ (List.mem_cons_of_mem _ (List.mem_cons_of_mem _ List.mem_cons_self)))))).tr ((show hEq [dQ, dS, dL, dR, dT, dZ, dI, dH, dN, dK, dJ, dU, dO] f3 f10 from (by rw [ef10]; exact hEq.up (List.mem_cons_of_mem _ List.mem_cons_self))).tr (show hEq [dQ, dS, dL, dR, dT, dZ, dI, dH, dN, dK, dJ, dU, dO] f10 f53 from (hEq.mono k59 (fun _ h9 => h9)))))⟩)
          · refine lv_iconst (v := 1) hx hb dX5_goesBy_57 (by decide) ?_
            refine lv_goto (tgt := 67) hx hb dX5_goesBy_58 (by decide) ?_
            refine hp_iast B0 hw hS h8 (by unfold vp_in; decide) dX5_goesBy_67 (fun H locs f60 ef60 hw hS => ?_)
            have h61 : f60 dS = some (.inl (cI G, 2, .inl (upd gS (0 : Int32).toNatClampNeg 1))) := by rw [ef60, va_up_self]
            refine lv_aload_n hx hb dX5_goesBy_68 rfl (lv_at hl9 0 rfl) ?_
            refine lv_iload_n hx hb dX5_goesBy_69 rfl (lv_at hl9 1 rfl) ?_
            have n63 : mo ≠ dS := hne k_mo k_dS (Nat.ne_of_beq_eq_false rfl)
            have h62 : f60 mo = some (.inr (5, [.int vth, .ref dW, .ref dA, .ref dQ, .ref dM, .ref dS, .ref dL, .ref dR, .ref dT, .ref dZ, .ref dI, .ref dH, .ref dN, .ref dK, .ref dJ, .ref dU, .ref dO, .int vpk, .int vpc, .ref dF, .ref dP, .ref dE, .ref dX, .ref dY, .int vnx, .int vgv, .ref dG])) := by rw [ef60, va_up_ne _ _ n63]; exact h5
            have h64 : f3 dM = some (.inl (cI G, 2, .inl gM)) := by rw [ef3, va_up_ne _ _ nd_dM_dT]; exact k_dM
            have h65 : f60 dM = some (.inl (cI G, 2, .inl gM)) := by rw [ef60, va_up_ne _ _ nd_dM_dS]; exact h64
            have n67 : dA ≠ dT := hneL k_dA k_dT (Nat.ne_of_beq_eq_false rfl)
            have h66 : f3 dA = some (.inl (cI G, 12, .inl gA)) := by rw [ef3, va_up_ne _ _ n67]; exact k_dA
            have n69 : dA ≠ dS := hneL k_dA k_dS (Nat.ne_of_beq_eq_false rfl)
            have h68 : f60 dA = some (.inl (cI G, 12, .inl gA)) := by rw [ef60, va_up_ne _ _ n69]; exact h66
            have n71 : dQ ≠ dT := hneL k_dQ k_dT (Nat.ne_of_beq_eq_false rfl)
            have h70 : f3 dQ = some (.inl (cI G, 12, .inl gQ)) := by rw [ef3, va_up_ne _ _ n71]; exact k_dQ
            have n73 : dQ ≠ dS := hneL k_dQ k_dS (Nat.ne_of_beq_eq_false rfl)
            have h72 : f60 dQ = some (.inl (cI G, 12, .inl gQ)) := by rw [ef60, va_up_ne _ _ n73]; exact h70
            have h74 : f3 dL = some (.inl (cI G, 2, .inl gL)) := by rw [ef3, va_up_ne _ _ nd_dL_dT]; exact k_dL
            have h75 : f60 dL = some (.inl (cI G, 2, .inl gL)) := by rw [ef60, va_up_ne _ _ (Ne.symm nd_dS_dL)]; exact h74
            have h76 : f3 dR = some (.inl (cI G, 2, .inl gR)) := by rw [ef3, va_up_ne _ _ nd_dR_dT]; exact k_dR
            have h77 : f60 dR = some (.inl (cI G, 2, .inl gR)) := by rw [ef60, va_up_ne _ _ (Ne.symm nd_dS_dR)]; exact h76
            have h78 : f60 dT = some (.inl (cI G, 2, .inl (upd gT (0 : Int32).toNatClampNeg ((gT (0 : Int32).toNatClampNeg) - 1)))) := by rw [ef60, va_up_ne _ _ (Ne.symm nd_dS_dT)]; exact h4
            have h79 : f3 dZ = some (.inl (cZ G, 2, .inl gZ)) := by rw [ef3, va_up_ne _ _ (Ne.symm nd_dT_dZ)]; exact k_dZ
            have h80 : f60 dZ = some (.inl (cZ G, 2, .inl gZ)) := by rw [ef60, va_up_ne _ _ (Ne.symm nd_dS_dZ)]; exact h79
            have h81 : f3 dI = some (.inl (cI G, 2, .inl gI)) := by rw [ef3, va_up_ne _ _ (Ne.symm nd_dT_dI)]; exact k_dI
            have h82 : f60 dI = some (.inl (cI G, 2, .inl gI)) := by rw [ef60, va_up_ne _ _ (Ne.symm nd_dS_dI)]; exact h81
            have h83 : f3 dH = some (.inl (cI G, 2, .inl gH)) := by rw [ef3, va_up_ne _ _ (Ne.symm nd_dT_dH)]; exact k_dH
            have h84 : f60 dH = some (.inl (cI G, 2, .inl gH)) := by rw [ef60, va_up_ne _ _ (Ne.symm nd_dS_dH)]; exact h83
            have h85 : f3 dN = some (.inl (cI G, 2, .inl gN)) := by rw [ef3, va_up_ne _ _ (Ne.symm nd_dT_dN)]; exact k_dN
            have h86 : f60 dN = some (.inl (cI G, 2, .inl gN)) := by rw [ef60, va_up_ne _ _ (Ne.symm nd_dS_dN)]; exact h85
            have n88 : dK ≠ dT := hneL k_dK k_dT (Nat.ne_of_beq_eq_false rfl)
            have h87 : f3 dK = some (.inl (cI G, 2048, .inl gK)) := by rw [ef3, va_up_ne _ _ n88]; exact k_dK
            have n90 : dK ≠ dS := hneL k_dK k_dS (Nat.ne_of_beq_eq_false rfl)
            have h89 : f60 dK = some (.inl (cI G, 2048, .inl gK)) := by rw [ef60, va_up_ne _ _ n90]; exact h87
            have n92 : dJ ≠ dT := hneL k_dJ k_dT (Nat.ne_of_beq_eq_false rfl)
            have h91 : f3 dJ = some (.inl (cI G, 2048, .inl gJ)) := by rw [ef3, va_up_ne _ _ n92]; exact k_dJ
            have n94 : dJ ≠ dS := hneL k_dJ k_dS (Nat.ne_of_beq_eq_false rfl)
            have h93 : f60 dJ = some (.inl (cI G, 2048, .inl gJ)) := by rw [ef60, va_up_ne _ _ n94]; exact h91
            have n96 : dU ≠ dT := hneL k_dU k_dT (Nat.ne_of_beq_eq_false rfl)
            have h95 : f3 dU = some (.inl (cI G, 2048, .inl gU)) := by rw [ef3, va_up_ne _ _ n96]; exact k_dU
            have n98 : dU ≠ dS := hneL k_dU k_dS (Nat.ne_of_beq_eq_false rfl)
            have h97 : f60 dU = some (.inl (cI G, 2048, .inl gU)) := by rw [ef60, va_up_ne _ _ n98]; exact h95
            have n100 : dO ≠ dT := hneL k_dO k_dT (Nat.ne_of_beq_eq_false rfl)
            have h99 : f3 dO = some (.inl (cI G, 2048, .inl gO)) := by rw [ef3, va_up_ne _ _ n100]; exact k_dO
            have n102 : dO ≠ dS := hneL k_dO k_dS (Nat.ne_of_beq_eq_false rfl)
            have h101 : f60 dO = some (.inl (cI G, 2048, .inl gO)) := by rw [ef60, va_up_ne _ _ n102]; exact h99
            refine hp_V (ci := 5) (As := [.int 0]) (rest := []) B0 hw hS (c_W5_begs hl G f60 mo dW dA dQ dM dS dL dR dT dZ dI dH dN dK dJ dU dO dF dP dE dX dY dG vth vpk vpc vnx vgv h62 hND gM gA h65 h68 hSA B ⟨_, _, _, _, _, _, _, _, _, _, _, _, _, h72, h61, h75, h77, h78, h80, h82, h84, h86, h89, h93, h97, h101, hHd9, (hMn.mono hMn9 (by omega))⟩ (by omega) 0 (Or.inl rfl)) mV_X5_begs qM_X5_107 rfl h62 rfl rfl hl9.1 (Nat.le_of_ble_eq_true rfl) ⟨⟨Nat.le_of_ble_eq_true rfl, Nat.le_of_ble_eq_true rfl⟩, Nat.le_of_ble_eq_true rfl, Nat.le_of_ble_eq_true rfl⟩ dX5_goesBy_70 (fun E ce q9 f103 H locs hPX hw hS hce hcv hcl => ?_) (fun v f103 H locs hP hw hS => ?_)
            · exact hPX.elim
            · obtain ⟨hv9, hr9⟩ := hP
              rcases hv9 with ev9 | ev9
              · have hP := And.intro ev9 hr9
                obtain ⟨ev8, h105, k106⟩ := hP
                have h105L := h105
                obtain ⟨gQ_n104, gS_n104, gL_n104, gR_n104, gT_n104, gZ_n104, gI_n104, gH_n104, gN_n104, gK_n104, gJ_n104, gU_n104, gO_n104, k_dQ_n104, k_dS_n104, k_dL_n104, k_dR_n104, k_dT_n104, k_dZ_n104, k_dI_n104, k_dH_n104, k_dN_n104, k_dK_n104, k_dJ_n104, k_dU_n104, k_dO_n104, hHd9_n104, hMn9_n104⟩ := id h105
                subst ev8
                refine W.eq (g2 := F0 m 73 ls [.int 0]) rfl ?_
                refine lv_if_eq (tgt := 80) hx hb dX5_goesBy_73 (by decide) (fun _ => ?_) (fun c9 => absurd (by decide) c9)
                refine lv_iconst (v := 0) hx hb dX5_goesBy_80 (by decide) ?_
                exact hp_iret (v := 0) B0 hw hS hr ⟨Nat.le_of_ble_eq_true rfl, Nat.le_of_ble_eq_true rfl⟩ dX5_goesBy_81 (⟨⟨_, rfl⟩, ⟨_, _, _, _, _, _, _, _, _, _, _, _, _, k_dQ_n104, k_dS_n104, k_dL_n104, k_dR_n104, k_dT_n104, k_dZ_n104, k_dI_n104, k_dH_n104, k_dN_n104, k_dK_n104, k_dJ_n104, k_dU_n104, k_dO_n104, hHd9_n104, (hMn.mono hMn9_n104 (by omega))⟩, ((show hEq [dQ, dS, dL, dR, dT, dZ, dI, dH, dN, dK, dJ, dU, dO] f f3 from (by rw [ef3]; exact hEq.up (List.mem_cons_of_mem _ (List.mem_cons_of_mem _ (List.mem_cons_of_mem _ (List.mem_cons_of_mem _ List.mem_cons_self)))))).tr ((show hEq [dQ, dS, dL, dR, dT, dZ, dI, dH, dN, dK, dJ, dU, dO] f3 f60 from (by rw [ef60]; exact hEq.up (List.mem_cons_of_mem _ List.mem_cons_self))).tr (show hEq [dQ, dS, dL, dR, dT, dZ, dI, dH, dN, dK, dJ, dU, dO] f60 f103 from (hEq.mono k106 (fun _ h9 => h9)))))⟩)
              · have hP := And.intro ev9 hr9
                obtain ⟨ev8, h108, k109⟩ := hP
                have h108L := h108
                obtain ⟨gQ_n107, gS_n107, gL_n107, gR_n107, gT_n107, gZ_n107, gI_n107, gH_n107, gN_n107, gK_n107, gJ_n107, gU_n107, gO_n107, k_dQ_n107, k_dS_n107, k_dL_n107, k_dR_n107, k_dT_n107, k_dZ_n107, k_dI_n107, k_dH_n107, k_dN_n107, k_dK_n107, k_dJ_n107, k_dU_n107, k_dO_n107, hHd9_n107, hMn9_n107⟩ := id h108
                subst ev8
                refine W.eq (g2 := F0 m 73 ls [.int 1]) rfl ?_
                refine lv_if_eq (tgt := 80) hx hb dX5_goesBy_73 (by decide) (fun c9 => absurd c9 (by decide)) (fun _ => ?_)
                refine lv_iconst (v := 1) hx hb dX5_goesBy_76 (by decide) ?_
                refine lv_goto (tgt := 81) hx hb dX5_goesBy_77 (by decide) ?_
                exact hp_iret (v := 1) B0 hw hS hr ⟨Nat.le_of_ble_eq_true rfl, Nat.le_of_ble_eq_true rfl⟩ dX5_goesBy_81 (⟨⟨_, rfl⟩, ⟨_, _, _, _, _, _, _, _, _, _, _, _, _, k_dQ_n107, k_dS_n107, k_dL_n107, k_dR_n107, k_dT_n107, k_dZ_n107, k_dI_n107, k_dH_n107, k_dN_n107, k_dK_n107, k_dJ_n107, k_dU_n107, k_dO_n107, hHd9_n107, (hMn.mono hMn9_n107 (by omega))⟩, ((show hEq [dQ, dS, dL, dR, dT, dZ, dI, dH, dN, dK, dJ, dU, dO] f f3 from (by rw [ef3]; exact hEq.up (List.mem_cons_of_mem _ (List.mem_cons_of_mem _ (List.mem_cons_of_mem _ (List.mem_cons_of_mem _ List.mem_cons_self)))))).tr ((show hEq [dQ, dS, dL, dR, dT, dZ, dI, dH, dN, dK, dJ, dU, dO] f3 f60 from (by rw [ef60]; exact hEq.up (List.mem_cons_of_mem _ List.mem_cons_self))).tr (show hEq [dQ, dS, dL, dR, dT, dZ, dI, dH, dN, dK, dJ, dU, dO] f60 f103 from (hEq.mono k109 (fun _ h9 => h9)))))⟩)
        · refine lv_iconst (v := 0) hx hb dX5_goesBy_40 (by decide) ?_
          have n111 : dQ ≠ dT := hneL k_dQ k_dT (Nat.ne_of_beq_eq_false rfl)
          have h110 : f3 dQ = some (.inl (cI G, 12, .inl gQ)) := by rw [ef3, va_up_ne _ _ n111]; exact k_dQ
          have h112 : f3 dS = some (.inl (cI G, 2, .inl gS)) := by rw [ef3, va_up_ne _ _ nd_dS_dT]; exact k_dS
          have h113 : f3 dL = some (.inl (cI G, 2, .inl gL)) := by rw [ef3, va_up_ne _ _ nd_dL_dT]; exact k_dL
          have h114 : f3 dR = some (.inl (cI G, 2, .inl gR)) := by rw [ef3, va_up_ne _ _ nd_dR_dT]; exact k_dR
          have h115 : f3 dZ = some (.inl (cZ G, 2, .inl gZ)) := by rw [ef3, va_up_ne _ _ (Ne.symm nd_dT_dZ)]; exact k_dZ
          have h116 : f3 dI = some (.inl (cI G, 2, .inl gI)) := by rw [ef3, va_up_ne _ _ (Ne.symm nd_dT_dI)]; exact k_dI
          have h117 : f3 dH = some (.inl (cI G, 2, .inl gH)) := by rw [ef3, va_up_ne _ _ (Ne.symm nd_dT_dH)]; exact k_dH
          have h118 : f3 dN = some (.inl (cI G, 2, .inl gN)) := by rw [ef3, va_up_ne _ _ (Ne.symm nd_dT_dN)]; exact k_dN
          have n120 : dK ≠ dT := hneL k_dK k_dT (Nat.ne_of_beq_eq_false rfl)
          have h119 : f3 dK = some (.inl (cI G, 2048, .inl gK)) := by rw [ef3, va_up_ne _ _ n120]; exact k_dK
          have n122 : dJ ≠ dT := hneL k_dJ k_dT (Nat.ne_of_beq_eq_false rfl)
          have h121 : f3 dJ = some (.inl (cI G, 2048, .inl gJ)) := by rw [ef3, va_up_ne _ _ n122]; exact k_dJ
          have n124 : dU ≠ dT := hneL k_dU k_dT (Nat.ne_of_beq_eq_false rfl)
          have h123 : f3 dU = some (.inl (cI G, 2048, .inl gU)) := by rw [ef3, va_up_ne _ _ n124]; exact k_dU
          have n126 : dO ≠ dT := hneL k_dO k_dT (Nat.ne_of_beq_eq_false rfl)
          have h125 : f3 dO = some (.inl (cI G, 2048, .inl gO)) := by rw [ef3, va_up_ne _ _ n126]; exact k_dO
          exact hp_iret (v := 0) B0 hw hS hr ⟨Nat.le_of_ble_eq_true rfl, Nat.le_of_ble_eq_true rfl⟩ dX5_goesBy_41 (⟨⟨_, rfl⟩, ⟨_, _, _, _, _, _, _, _, _, _, _, _, _, h110, h112, h113, h114, h4, h115, h116, h117, h118, h119, h121, h123, h125, hHd9, (hMn.mono hMn9 (by omega))⟩, (show hEq [dQ, dS, dL, dR, dT, dZ, dI, dH, dN, dK, dJ, dU, dO] f f3 from (by rw [ef3]; exact hEq.up (List.mem_cons_of_mem _ (List.mem_cons_of_mem _ (List.mem_cons_of_mem _ (List.mem_cons_of_mem _ List.mem_cons_self))))))⟩)
      · refine lv_iconst (v := 0) hx hb dX5_goesBy_19 (by decide) ?_
        exact hp_iret (v := 0) B0 hw hS hr ⟨Nat.le_of_ble_eq_true rfl, Nat.le_of_ble_eq_true rfl⟩ dX5_goesBy_20 (⟨⟨_, rfl⟩, ⟨_, _, _, _, _, _, _, _, _, _, _, _, _, k_dQ, k_dS, k_dL, k_dR, k_dT, k_dZ, k_dI, k_dH, k_dN, k_dK, k_dJ, k_dU, k_dO, hHd9, (hMn.mono hMn9 (by omega))⟩, hEq.rf⟩)
  · refine lv_aload_n hx hb dX5_goesBy_0 rfl (lv_at hl9 0 rfl) ?_
    refine hp_get B0 hw 5 rfl in_X5 k_mo 5 (by decide) qF_X5_22 rfl dX5_goesBy_1 ?_
    refine lv_iload_n hx hb dX5_goesBy_4 rfl (lv_at hl9 1 rfl) ?_
    refine hp_iald B0 hw k_dS (by unfold vp_in; decide) dX5_goesBy_5 ?_
    refine lv_if_eq (tgt := 19) hx hb dX5_goesBy_6 (by decide) (fun c127 => ?_) (fun c127 => ?_)
    · refine lv_iconst (v := 0) hx hb dX5_goesBy_19 (by decide) ?_
      exact hp_iret (v := 0) B0 hw hS hr ⟨Nat.le_of_ble_eq_true rfl, Nat.le_of_ble_eq_true rfl⟩ dX5_goesBy_20 (⟨⟨_, rfl⟩, ⟨_, _, _, _, _, _, _, _, _, _, _, _, _, k_dQ, k_dS, k_dL, k_dR, k_dT, k_dZ, k_dI, k_dH, k_dN, k_dK, k_dJ, k_dU, k_dO, hHd9, (hMn.mono hMn9 (by omega))⟩, hEq.rf⟩)
    · refine lv_aload_n hx hb dX5_goesBy_9 rfl (lv_at hl9 0 rfl) ?_
      refine hp_get B0 hw 5 rfl in_X5 k_mo 5 (by decide) qF_X5_22 rfl dX5_goesBy_10 ?_
      refine lv_iload_n hx hb dX5_goesBy_13 rfl (lv_at hl9 1 rfl) ?_
      refine hp_iald B0 hw k_dS (by unfold vp_in; decide) dX5_goesBy_14 ?_
      refine lv_iconst (v := 4) hx hb dX5_goesBy_15 (by decide) ?_
      refine lv_icmp_ne (tgt := 21) hx hb dX5_goesBy_16 (by decide) (fun c128 => ?_) (fun c128 => ?_)
      · refine lv_aload_n hx hb dX5_goesBy_21 rfl (lv_at hl9 0 rfl) ?_
        refine hp_get B0 hw 5 rfl in_X5 k_mo 8 (by decide) qF_X5_31 rfl dX5_goesBy_22 ?_
        refine lv_iload_n hx hb dX5_goesBy_25 rfl (lv_at hl9 1 rfl) ?_
        refine lv_dup2_11 hx hb dX5_goesBy_26 rfl rfl ?_
        refine hp_iald B0 hw k_dT (by unfold vp_in; decide) dX5_goesBy_27 ?_
        refine lv_iconst (v := 1) hx hb dX5_goesBy_28 (by decide) ?_
        refine lv_isub hx hb dX5_goesBy_29 ?_
        refine hp_iast B0 hw hS k_dT (by unfold vp_in; decide) dX5_goesBy_30 (fun H locs f129 ef129 hw hS => ?_)
        have h130 : f129 dT = some (.inl (cI G, 2, .inl (upd gT (1 : Int32).toNatClampNeg ((gT (1 : Int32).toNatClampNeg) - 1)))) := by rw [ef129, va_up_self]
        refine lv_aload_n hx hb dX5_goesBy_31 rfl (lv_at hl9 0 rfl) ?_
        have n132 : mo ≠ dT := hne k_mo k_dT (Nat.ne_of_beq_eq_false rfl)
        have h131 : f129 mo = some (.inr (5, [.int vth, .ref dW, .ref dA, .ref dQ, .ref dM, .ref dS, .ref dL, .ref dR, .ref dT, .ref dZ, .ref dI, .ref dH, .ref dN, .ref dK, .ref dJ, .ref dU, .ref dO, .int vpk, .int vpc, .ref dF, .ref dP, .ref dE, .ref dX, .ref dY, .int vnx, .int vgv, .ref dG])) := by rw [ef129, va_up_ne _ _ n132]; exact k_mo
        refine hp_get B0 hw 5 rfl in_X5 h131 8 (by decide) qF_X5_31 rfl dX5_goesBy_32 ?_
        refine lv_iload_n hx hb dX5_goesBy_35 rfl (lv_at hl9 1 rfl) ?_
        refine hp_iald B0 hw h130 (by unfold vp_in; decide) dX5_goesBy_36 ?_
        refine lv_if_le (tgt := 42) hx hb dX5_goesBy_37 (by decide) (fun c133 => ?_) (fun c133 => ?_)
        · refine lv_aload_n hx hb dX5_goesBy_42 rfl (lv_at hl9 0 rfl) ?_
          refine hp_get B0 hw 5 rfl in_X5 h131 5 (by decide) qF_X5_22 rfl dX5_goesBy_43 ?_
          refine lv_iload_n hx hb dX5_goesBy_46 rfl (lv_at hl9 1 rfl) ?_
          refine lv_aload_n hx hb dX5_goesBy_47 rfl (lv_at hl9 0 rfl) ?_
          refine hp_get B0 hw 5 rfl in_X5 h131 5 (by decide) qF_X5_22 rfl dX5_goesBy_48 ?_
          refine lv_iload_n hx hb dX5_goesBy_51 rfl (lv_at hl9 1 rfl) ?_
          have h134 : f129 dS = some (.inl (cI G, 2, .inl gS)) := by rw [ef129, va_up_ne _ _ nd_dS_dT]; exact k_dS
          refine hp_iald B0 hw h134 (by unfold vp_in; decide) dX5_goesBy_52 ?_
          refine lv_iconst (v := 2) hx hb dX5_goesBy_53 (by decide) ?_
          refine lv_icmp_ne (tgt := 61) hx hb dX5_goesBy_54 (by decide) (fun c135 => ?_) (fun c135 => ?_)
          · refine lv_aload_n hx hb dX5_goesBy_61 rfl (lv_at hl9 0 rfl) ?_
            refine hp_get B0 hw 5 rfl in_X5 h131 5 (by decide) qF_X5_22 rfl dX5_goesBy_62 ?_
            refine lv_iload_n hx hb dX5_goesBy_65 rfl (lv_at hl9 1 rfl) ?_
            refine hp_iald B0 hw h134 (by unfold vp_in; decide) dX5_goesBy_66 ?_
            refine hp_iast B0 hw hS h134 (by unfold vp_in; decide) dX5_goesBy_67 (fun H locs f136 ef136 hw hS => ?_)
            have h137 : f136 dS = some (.inl (cI G, 2, .inl (upd gS (1 : Int32).toNatClampNeg (gS (1 : Int32).toNatClampNeg)))) := by rw [ef136, va_up_self]
            refine lv_aload_n hx hb dX5_goesBy_68 rfl (lv_at hl9 0 rfl) ?_
            refine lv_iload_n hx hb dX5_goesBy_69 rfl (lv_at hl9 1 rfl) ?_
            have n139 : mo ≠ dS := hne k_mo k_dS (Nat.ne_of_beq_eq_false rfl)
            have h138 : f136 mo = some (.inr (5, [.int vth, .ref dW, .ref dA, .ref dQ, .ref dM, .ref dS, .ref dL, .ref dR, .ref dT, .ref dZ, .ref dI, .ref dH, .ref dN, .ref dK, .ref dJ, .ref dU, .ref dO, .int vpk, .int vpc, .ref dF, .ref dP, .ref dE, .ref dX, .ref dY, .int vnx, .int vgv, .ref dG])) := by rw [ef136, va_up_ne _ _ n139]; exact h131
            have h140 : f129 dM = some (.inl (cI G, 2, .inl gM)) := by rw [ef129, va_up_ne _ _ nd_dM_dT]; exact k_dM
            have h141 : f136 dM = some (.inl (cI G, 2, .inl gM)) := by rw [ef136, va_up_ne _ _ nd_dM_dS]; exact h140
            have n143 : dA ≠ dT := hneL k_dA k_dT (Nat.ne_of_beq_eq_false rfl)
            have h142 : f129 dA = some (.inl (cI G, 12, .inl gA)) := by rw [ef129, va_up_ne _ _ n143]; exact k_dA
            have n145 : dA ≠ dS := hneL k_dA k_dS (Nat.ne_of_beq_eq_false rfl)
            have h144 : f136 dA = some (.inl (cI G, 12, .inl gA)) := by rw [ef136, va_up_ne _ _ n145]; exact h142
            have n147 : dQ ≠ dT := hneL k_dQ k_dT (Nat.ne_of_beq_eq_false rfl)
            have h146 : f129 dQ = some (.inl (cI G, 12, .inl gQ)) := by rw [ef129, va_up_ne _ _ n147]; exact k_dQ
            have n149 : dQ ≠ dS := hneL k_dQ k_dS (Nat.ne_of_beq_eq_false rfl)
            have h148 : f136 dQ = some (.inl (cI G, 12, .inl gQ)) := by rw [ef136, va_up_ne _ _ n149]; exact h146
            have h150 : f129 dL = some (.inl (cI G, 2, .inl gL)) := by rw [ef129, va_up_ne _ _ nd_dL_dT]; exact k_dL
            have h151 : f136 dL = some (.inl (cI G, 2, .inl gL)) := by rw [ef136, va_up_ne _ _ (Ne.symm nd_dS_dL)]; exact h150
            have h152 : f129 dR = some (.inl (cI G, 2, .inl gR)) := by rw [ef129, va_up_ne _ _ nd_dR_dT]; exact k_dR
            have h153 : f136 dR = some (.inl (cI G, 2, .inl gR)) := by rw [ef136, va_up_ne _ _ (Ne.symm nd_dS_dR)]; exact h152
            have h154 : f136 dT = some (.inl (cI G, 2, .inl (upd gT (1 : Int32).toNatClampNeg ((gT (1 : Int32).toNatClampNeg) - 1)))) := by rw [ef136, va_up_ne _ _ (Ne.symm nd_dS_dT)]; exact h130
            have h155 : f129 dZ = some (.inl (cZ G, 2, .inl gZ)) := by rw [ef129, va_up_ne _ _ (Ne.symm nd_dT_dZ)]; exact k_dZ
            have h156 : f136 dZ = some (.inl (cZ G, 2, .inl gZ)) := by rw [ef136, va_up_ne _ _ (Ne.symm nd_dS_dZ)]; exact h155
            have h157 : f129 dI = some (.inl (cI G, 2, .inl gI)) := by rw [ef129, va_up_ne _ _ (Ne.symm nd_dT_dI)]; exact k_dI
            have h158 : f136 dI = some (.inl (cI G, 2, .inl gI)) := by rw [ef136, va_up_ne _ _ (Ne.symm nd_dS_dI)]; exact h157
            have h159 : f129 dH = some (.inl (cI G, 2, .inl gH)) := by rw [ef129, va_up_ne _ _ (Ne.symm nd_dT_dH)]; exact k_dH
            have h160 : f136 dH = some (.inl (cI G, 2, .inl gH)) := by rw [ef136, va_up_ne _ _ (Ne.symm nd_dS_dH)]; exact h159
            have h161 : f129 dN = some (.inl (cI G, 2, .inl gN)) := by rw [ef129, va_up_ne _ _ (Ne.symm nd_dT_dN)]; exact k_dN
            have h162 : f136 dN = some (.inl (cI G, 2, .inl gN)) := by rw [ef136, va_up_ne _ _ (Ne.symm nd_dS_dN)]; exact h161
            have n164 : dK ≠ dT := hneL k_dK k_dT (Nat.ne_of_beq_eq_false rfl)
            have h163 : f129 dK = some (.inl (cI G, 2048, .inl gK)) := by rw [ef129, va_up_ne _ _ n164]; exact k_dK
            have n166 : dK ≠ dS := hneL k_dK k_dS (Nat.ne_of_beq_eq_false rfl)
            have h165 : f136 dK = some (.inl (cI G, 2048, .inl gK)) := by rw [ef136, va_up_ne _ _ n166]; exact h163
            have n168 : dJ ≠ dT := hneL k_dJ k_dT (Nat.ne_of_beq_eq_false rfl)
            have h167 : f129 dJ = some (.inl (cI G, 2048, .inl gJ)) := by rw [ef129, va_up_ne _ _ n168]; exact k_dJ
            have n170 : dJ ≠ dS := hneL k_dJ k_dS (Nat.ne_of_beq_eq_false rfl)
            have h169 : f136 dJ = some (.inl (cI G, 2048, .inl gJ)) := by rw [ef136, va_up_ne _ _ n170]; exact h167
            have n172 : dU ≠ dT := hneL k_dU k_dT (Nat.ne_of_beq_eq_false rfl)
            have h171 : f129 dU = some (.inl (cI G, 2048, .inl gU)) := by rw [ef129, va_up_ne _ _ n172]; exact k_dU
            have n174 : dU ≠ dS := hneL k_dU k_dS (Nat.ne_of_beq_eq_false rfl)
            have h173 : f136 dU = some (.inl (cI G, 2048, .inl gU)) := by rw [ef136, va_up_ne _ _ n174]; exact h171
            have n176 : dO ≠ dT := hneL k_dO k_dT (Nat.ne_of_beq_eq_false rfl)
            have h175 : f129 dO = some (.inl (cI G, 2048, .inl gO)) := by rw [ef129, va_up_ne _ _ n176]; exact k_dO
            have n178 : dO ≠ dS := hneL k_dO k_dS (Nat.ne_of_beq_eq_false rfl)
            have h177 : f136 dO = some (.inl (cI G, 2048, .inl gO)) := by rw [ef136, va_up_ne _ _ n178]; exact h175
            refine hp_V (ci := 5) (As := [.int 1]) (rest := []) B0 hw hS (c_W5_begs hl G f136 mo dW dA dQ dM dS dL dR dT dZ dI dH dN dK dJ dU dO dF dP dE dX dY dG vth vpk vpc vnx vgv h138 hND gM gA h141 h144 hSA B ⟨_, _, _, _, _, _, _, _, _, _, _, _, _, h148, h137, h151, h153, h154, h156, h158, h160, h162, h165, h169, h173, h177, hHd9, (hMn.mono hMn9 (by omega))⟩ (by omega) 1 (Or.inr rfl)) mV_X5_begs qM_X5_107 rfl h138 rfl rfl hl9.1 (Nat.le_of_ble_eq_true rfl) ⟨⟨Nat.le_of_ble_eq_true rfl, Nat.le_of_ble_eq_true rfl⟩, Nat.le_of_ble_eq_true rfl, Nat.le_of_ble_eq_true rfl⟩ dX5_goesBy_70 (fun E ce q9 f179 H locs hPX hw hS hce hcv hcl => ?_) (fun v f179 H locs hP hw hS => ?_)
            · exact hPX.elim
            · obtain ⟨hv9, hr9⟩ := hP
              rcases hv9 with ev9 | ev9
              · have hP := And.intro ev9 hr9
                obtain ⟨ev8, h181, k182⟩ := hP
                have h181L := h181
                obtain ⟨gQ_n180, gS_n180, gL_n180, gR_n180, gT_n180, gZ_n180, gI_n180, gH_n180, gN_n180, gK_n180, gJ_n180, gU_n180, gO_n180, k_dQ_n180, k_dS_n180, k_dL_n180, k_dR_n180, k_dT_n180, k_dZ_n180, k_dI_n180, k_dH_n180, k_dN_n180, k_dK_n180, k_dJ_n180, k_dU_n180, k_dO_n180, hHd9_n180, hMn9_n180⟩ := id h181
                subst ev8
                refine W.eq (g2 := F0 m 73 ls [.int 0]) rfl ?_
                refine lv_if_eq (tgt := 80) hx hb dX5_goesBy_73 (by decide) (fun _ => ?_) (fun c9 => absurd (by decide) c9)
                refine lv_iconst (v := 0) hx hb dX5_goesBy_80 (by decide) ?_
                exact hp_iret (v := 0) B0 hw hS hr ⟨Nat.le_of_ble_eq_true rfl, Nat.le_of_ble_eq_true rfl⟩ dX5_goesBy_81 (⟨⟨_, rfl⟩, ⟨_, _, _, _, _, _, _, _, _, _, _, _, _, k_dQ_n180, k_dS_n180, k_dL_n180, k_dR_n180, k_dT_n180, k_dZ_n180, k_dI_n180, k_dH_n180, k_dN_n180, k_dK_n180, k_dJ_n180, k_dU_n180, k_dO_n180, hHd9_n180, (hMn.mono hMn9_n180 (by omega))⟩, ((show hEq [dQ, dS, dL, dR, dT, dZ, dI, dH, dN, dK, dJ, dU, dO] f f129 from (by rw [ef129]; exact hEq.up (List.mem_cons_of_mem _ (List.mem_cons_of_mem _ (List.mem_cons_of_mem _ (List.mem_cons_of_mem _ List.mem_cons_self)))))).tr ((show hEq [dQ, dS, dL, dR, dT, dZ, dI, dH, dN, dK, dJ, dU, dO] f129 f136 from (by rw [ef136]; exact hEq.up (List.mem_cons_of_mem _ List.mem_cons_self))).tr (show hEq [dQ, dS, dL, dR, dT, dZ, dI, dH, dN, dK, dJ, dU, dO] f136 f179 from (hEq.mono k182 (fun _ h9 => h9)))))⟩)
              · have hP := And.intro ev9 hr9
                obtain ⟨ev8, h184, k185⟩ := hP
                have h184L := h184
                obtain ⟨gQ_n183, gS_n183, gL_n183, gR_n183, gT_n183, gZ_n183, gI_n183, gH_n183, gN_n183, gK_n183, gJ_n183, gU_n183, gO_n183, k_dQ_n183, k_dS_n183, k_dL_n183, k_dR_n183, k_dT_n183, k_dZ_n183, k_dI_n183, k_dH_n183, k_dN_n183, k_dK_n183, k_dJ_n183, k_dU_n183, k_dO_n183, hHd9_n183, hMn9_n183⟩ := id h184
                subst ev8
                refine W.eq (g2 := F0 m 73 ls [.int 1]) rfl ?_
                refine lv_if_eq (tgt := 80) hx hb dX5_goesBy_73 (by decide) (fun c9 => absurd c9 (by decide)) (fun _ => ?_)
                refine lv_iconst (v := 1) hx hb dX5_goesBy_76 (by decide) ?_
                refine lv_goto (tgt := 81) hx hb dX5_goesBy_77 (by decide) ?_
                exact hp_iret (v := 1) B0 hw hS hr ⟨Nat.le_of_ble_eq_true rfl, Nat.le_of_ble_eq_true rfl⟩ dX5_goesBy_81 (⟨⟨_, rfl⟩, ⟨_, _, _, _, _, _, _, _, _, _, _, _, _, k_dQ_n183, k_dS_n183, k_dL_n183, k_dR_n183, k_dT_n183, k_dZ_n183, k_dI_n183, k_dH_n183, k_dN_n183, k_dK_n183, k_dJ_n183, k_dU_n183, k_dO_n183, hHd9_n183, (hMn.mono hMn9_n183 (by omega))⟩, ((show hEq [dQ, dS, dL, dR, dT, dZ, dI, dH, dN, dK, dJ, dU, dO] f f129 from (by rw [ef129]; exact hEq.up (List.mem_cons_of_mem _ (List.mem_cons_of_mem _ (List.mem_cons_of_mem _ (List.mem_cons_of_mem _ List.mem_cons_self)))))).tr ((show hEq [dQ, dS, dL, dR, dT, dZ, dI, dH, dN, dK, dJ, dU, dO] f129 f136 from (by rw [ef136]; exact hEq.up (List.mem_cons_of_mem _ List.mem_cons_self))).tr (show hEq [dQ, dS, dL, dR, dT, dZ, dI, dH, dN, dK, dJ, dU, dO] f136 f179 from (hEq.mono k185 (fun _ h9 => h9)))))⟩)
          · refine lv_iconst (v := 1) hx hb dX5_goesBy_57 (by decide) ?_
            refine lv_goto (tgt := 67) hx hb dX5_goesBy_58 (by decide) ?_
            refine hp_iast B0 hw hS h134 (by unfold vp_in; decide) dX5_goesBy_67 (fun H locs f186 ef186 hw hS => ?_)
            have h187 : f186 dS = some (.inl (cI G, 2, .inl (upd gS (1 : Int32).toNatClampNeg 1))) := by rw [ef186, va_up_self]
            refine lv_aload_n hx hb dX5_goesBy_68 rfl (lv_at hl9 0 rfl) ?_
            refine lv_iload_n hx hb dX5_goesBy_69 rfl (lv_at hl9 1 rfl) ?_
            have n189 : mo ≠ dS := hne k_mo k_dS (Nat.ne_of_beq_eq_false rfl)
            have h188 : f186 mo = some (.inr (5, [.int vth, .ref dW, .ref dA, .ref dQ, .ref dM, .ref dS, .ref dL, .ref dR, .ref dT, .ref dZ, .ref dI, .ref dH, .ref dN, .ref dK, .ref dJ, .ref dU, .ref dO, .int vpk, .int vpc, .ref dF, .ref dP, .ref dE, .ref dX, .ref dY, .int vnx, .int vgv, .ref dG])) := by rw [ef186, va_up_ne _ _ n189]; exact h131
            have h190 : f129 dM = some (.inl (cI G, 2, .inl gM)) := by rw [ef129, va_up_ne _ _ nd_dM_dT]; exact k_dM
            have h191 : f186 dM = some (.inl (cI G, 2, .inl gM)) := by rw [ef186, va_up_ne _ _ nd_dM_dS]; exact h190
            have n193 : dA ≠ dT := hneL k_dA k_dT (Nat.ne_of_beq_eq_false rfl)
            have h192 : f129 dA = some (.inl (cI G, 12, .inl gA)) := by rw [ef129, va_up_ne _ _ n193]; exact k_dA
            have n195 : dA ≠ dS := hneL k_dA k_dS (Nat.ne_of_beq_eq_false rfl)
            have h194 : f186 dA = some (.inl (cI G, 12, .inl gA)) := by rw [ef186, va_up_ne _ _ n195]; exact h192
            have n197 : dQ ≠ dT := hneL k_dQ k_dT (Nat.ne_of_beq_eq_false rfl)
            have h196 : f129 dQ = some (.inl (cI G, 12, .inl gQ)) := by rw [ef129, va_up_ne _ _ n197]; exact k_dQ
            have n199 : dQ ≠ dS := hneL k_dQ k_dS (Nat.ne_of_beq_eq_false rfl)
            have h198 : f186 dQ = some (.inl (cI G, 12, .inl gQ)) := by rw [ef186, va_up_ne _ _ n199]; exact h196
            have h200 : f129 dL = some (.inl (cI G, 2, .inl gL)) := by rw [ef129, va_up_ne _ _ nd_dL_dT]; exact k_dL
            have h201 : f186 dL = some (.inl (cI G, 2, .inl gL)) := by rw [ef186, va_up_ne _ _ (Ne.symm nd_dS_dL)]; exact h200
            have h202 : f129 dR = some (.inl (cI G, 2, .inl gR)) := by rw [ef129, va_up_ne _ _ nd_dR_dT]; exact k_dR
            have h203 : f186 dR = some (.inl (cI G, 2, .inl gR)) := by rw [ef186, va_up_ne _ _ (Ne.symm nd_dS_dR)]; exact h202
            have h204 : f186 dT = some (.inl (cI G, 2, .inl (upd gT (1 : Int32).toNatClampNeg ((gT (1 : Int32).toNatClampNeg) - 1)))) := by rw [ef186, va_up_ne _ _ (Ne.symm nd_dS_dT)]; exact h130
            have h205 : f129 dZ = some (.inl (cZ G, 2, .inl gZ)) := by rw [ef129, va_up_ne _ _ (Ne.symm nd_dT_dZ)]; exact k_dZ
            have h206 : f186 dZ = some (.inl (cZ G, 2, .inl gZ)) := by rw [ef186, va_up_ne _ _ (Ne.symm nd_dS_dZ)]; exact h205
            have h207 : f129 dI = some (.inl (cI G, 2, .inl gI)) := by rw [ef129, va_up_ne _ _ (Ne.symm nd_dT_dI)]; exact k_dI
            have h208 : f186 dI = some (.inl (cI G, 2, .inl gI)) := by rw [ef186, va_up_ne _ _ (Ne.symm nd_dS_dI)]; exact h207
            have h209 : f129 dH = some (.inl (cI G, 2, .inl gH)) := by rw [ef129, va_up_ne _ _ (Ne.symm nd_dT_dH)]; exact k_dH
            have h210 : f186 dH = some (.inl (cI G, 2, .inl gH)) := by rw [ef186, va_up_ne _ _ (Ne.symm nd_dS_dH)]; exact h209
            have h211 : f129 dN = some (.inl (cI G, 2, .inl gN)) := by rw [ef129, va_up_ne _ _ (Ne.symm nd_dT_dN)]; exact k_dN
            have h212 : f186 dN = some (.inl (cI G, 2, .inl gN)) := by rw [ef186, va_up_ne _ _ (Ne.symm nd_dS_dN)]; exact h211
            have n214 : dK ≠ dT := hneL k_dK k_dT (Nat.ne_of_beq_eq_false rfl)
            have h213 : f129 dK = some (.inl (cI G, 2048, .inl gK)) := by rw [ef129, va_up_ne _ _ n214]; exact k_dK
            have n216 : dK ≠ dS := hneL k_dK k_dS (Nat.ne_of_beq_eq_false rfl)
            have h215 : f186 dK = some (.inl (cI G, 2048, .inl gK)) := by rw [ef186, va_up_ne _ _ n216]; exact h213
            have n218 : dJ ≠ dT := hneL k_dJ k_dT (Nat.ne_of_beq_eq_false rfl)
            have h217 : f129 dJ = some (.inl (cI G, 2048, .inl gJ)) := by rw [ef129, va_up_ne _ _ n218]; exact k_dJ
            have n220 : dJ ≠ dS := hneL k_dJ k_dS (Nat.ne_of_beq_eq_false rfl)
            have h219 : f186 dJ = some (.inl (cI G, 2048, .inl gJ)) := by rw [ef186, va_up_ne _ _ n220]; exact h217
            have n222 : dU ≠ dT := hneL k_dU k_dT (Nat.ne_of_beq_eq_false rfl)
            have h221 : f129 dU = some (.inl (cI G, 2048, .inl gU)) := by rw [ef129, va_up_ne _ _ n222]; exact k_dU
            have n224 : dU ≠ dS := hneL k_dU k_dS (Nat.ne_of_beq_eq_false rfl)
            have h223 : f186 dU = some (.inl (cI G, 2048, .inl gU)) := by rw [ef186, va_up_ne _ _ n224]; exact h221
            have n226 : dO ≠ dT := hneL k_dO k_dT (Nat.ne_of_beq_eq_false rfl)
            have h225 : f129 dO = some (.inl (cI G, 2048, .inl gO)) := by rw [ef129, va_up_ne _ _ n226]; exact k_dO
            have n228 : dO ≠ dS := hneL k_dO k_dS (Nat.ne_of_beq_eq_false rfl)
            have h227 : f186 dO = some (.inl (cI G, 2048, .inl gO)) := by rw [ef186, va_up_ne _ _ n228]; exact h225
            refine hp_V (ci := 5) (As := [.int 1]) (rest := []) B0 hw hS (c_W5_begs hl G f186 mo dW dA dQ dM dS dL dR dT dZ dI dH dN dK dJ dU dO dF dP dE dX dY dG vth vpk vpc vnx vgv h188 hND gM gA h191 h194 hSA B ⟨_, _, _, _, _, _, _, _, _, _, _, _, _, h198, h187, h201, h203, h204, h206, h208, h210, h212, h215, h219, h223, h227, hHd9, (hMn.mono hMn9 (by omega))⟩ (by omega) 1 (Or.inr rfl)) mV_X5_begs qM_X5_107 rfl h188 rfl rfl hl9.1 (Nat.le_of_ble_eq_true rfl) ⟨⟨Nat.le_of_ble_eq_true rfl, Nat.le_of_ble_eq_true rfl⟩, Nat.le_of_ble_eq_true rfl, Nat.le_of_ble_eq_true rfl⟩ dX5_goesBy_70 (fun E ce q9 f229 H locs hPX hw hS hce hcv hcl => ?_) (fun v f229 H locs hP hw hS => ?_)
            · exact hPX.elim
            · obtain ⟨hv9, hr9⟩ := hP
              rcases hv9 with ev9 | ev9
              · have hP := And.intro ev9 hr9
                obtain ⟨ev8, h231, k232⟩ := hP
                have h231L := h231
                obtain ⟨gQ_n230, gS_n230, gL_n230, gR_n230, gT_n230, gZ_n230, gI_n230, gH_n230, gN_n230, gK_n230, gJ_n230, gU_n230, gO_n230, k_dQ_n230, k_dS_n230, k_dL_n230, k_dR_n230, k_dT_n230, k_dZ_n230, k_dI_n230, k_dH_n230, k_dN_n230, k_dK_n230, k_dJ_n230, k_dU_n230, k_dO_n230, hHd9_n230, hMn9_n230⟩ := id h231
                subst ev8
                refine W.eq (g2 := F0 m 73 ls [.int 0]) rfl ?_
                refine lv_if_eq (tgt := 80) hx hb dX5_goesBy_73 (by decide) (fun _ => ?_) (fun c9 => absurd (by decide) c9)
                refine lv_iconst (v := 0) hx hb dX5_goesBy_80 (by decide) ?_
                exact hp_iret (v := 0) B0 hw hS hr ⟨Nat.le_of_ble_eq_true rfl, Nat.le_of_ble_eq_true rfl⟩ dX5_goesBy_81 (⟨⟨_, rfl⟩, ⟨_, _, _, _, _, _, _, _, _, _, _, _, _, k_dQ_n230, k_dS_n230, k_dL_n230, k_dR_n230, k_dT_n230, k_dZ_n230, k_dI_n230, k_dH_n230, k_dN_n230, k_dK_n230, k_dJ_n230, k_dU_n230, k_dO_n230, hHd9_n230, (hMn.mono hMn9_n230 (by omega))⟩, ((show hEq [dQ, dS, dL, dR, dT, dZ, dI, dH, dN, dK, dJ, dU, dO] f f129 from (by rw [ef129]; exact hEq.up (List.mem_cons_of_mem _ (List.mem_cons_of_mem _ (List.mem_cons_of_mem _ (List.mem_cons_of_mem _ List.mem_cons_self)))))).tr ((show hEq [dQ, dS, dL, dR, dT, dZ, dI, dH, dN, dK, dJ, dU, dO] f129 f186 from (by rw [ef186]; exact hEq.up (List.mem_cons_of_mem _ List.mem_cons_self))).tr (show hEq [dQ, dS, dL, dR, dT, dZ, dI, dH, dN, dK, dJ, dU, dO] f186 f229 from (hEq.mono k232 (fun _ h9 => h9)))))⟩)
              · have hP := And.intro ev9 hr9
                obtain ⟨ev8, h234, k235⟩ := hP
                have h234L := h234
                obtain ⟨gQ_n233, gS_n233, gL_n233, gR_n233, gT_n233, gZ_n233, gI_n233, gH_n233, gN_n233, gK_n233, gJ_n233, gU_n233, gO_n233, k_dQ_n233, k_dS_n233, k_dL_n233, k_dR_n233, k_dT_n233, k_dZ_n233, k_dI_n233, k_dH_n233, k_dN_n233, k_dK_n233, k_dJ_n233, k_dU_n233, k_dO_n233, hHd9_n233, hMn9_n233⟩ := id h234
                subst ev8
                refine W.eq (g2 := F0 m 73 ls [.int 1]) rfl ?_
                refine lv_if_eq (tgt := 80) hx hb dX5_goesBy_73 (by decide) (fun c9 => absurd c9 (by decide)) (fun _ => ?_)
                refine lv_iconst (v := 1) hx hb dX5_goesBy_76 (by decide) ?_
                refine lv_goto (tgt := 81) hx hb dX5_goesBy_77 (by decide) ?_
                exact hp_iret (v := 1) B0 hw hS hr ⟨Nat.le_of_ble_eq_true rfl, Nat.le_of_ble_eq_true rfl⟩ dX5_goesBy_81 (⟨⟨_, rfl⟩, ⟨_, _, _, _, _, _, _, _, _, _, _, _, _, k_dQ_n233, k_dS_n233, k_dL_n233, k_dR_n233, k_dT_n233, k_dZ_n233, k_dI_n233, k_dH_n233, k_dN_n233, k_dK_n233, k_dJ_n233, k_dU_n233, k_dO_n233, hHd9_n233, (hMn.mono hMn9_n233 (by omega))⟩, ((show hEq [dQ, dS, dL, dR, dT, dZ, dI, dH, dN, dK, dJ, dU, dO] f f129 from (by rw [ef129]; exact hEq.up (List.mem_cons_of_mem _ (List.mem_cons_of_mem _ (List.mem_cons_of_mem _ (List.mem_cons_of_mem _ List.mem_cons_self)))))).tr ((show hEq [dQ, dS, dL, dR, dT, dZ, dI, dH, dN, dK, dJ, dU, dO] f129 f186 from (by rw [ef186]; exact hEq.up (List.mem_cons_of_mem _ List.mem_cons_self))).tr (show hEq [dQ, dS, dL, dR, dT, dZ, dI, dH, dN, dK, dJ, dU, dO] f186 f229 from (hEq.mono k235 (fun _ h9 => h9)))))⟩)
        · refine lv_iconst (v := 0) hx hb dX5_goesBy_40 (by decide) ?_
          have n237 : dQ ≠ dT := hneL k_dQ k_dT (Nat.ne_of_beq_eq_false rfl)
          have h236 : f129 dQ = some (.inl (cI G, 12, .inl gQ)) := by rw [ef129, va_up_ne _ _ n237]; exact k_dQ
          have h238 : f129 dS = some (.inl (cI G, 2, .inl gS)) := by rw [ef129, va_up_ne _ _ nd_dS_dT]; exact k_dS
          have h239 : f129 dL = some (.inl (cI G, 2, .inl gL)) := by rw [ef129, va_up_ne _ _ nd_dL_dT]; exact k_dL
          have h240 : f129 dR = some (.inl (cI G, 2, .inl gR)) := by rw [ef129, va_up_ne _ _ nd_dR_dT]; exact k_dR
          have h241 : f129 dZ = some (.inl (cZ G, 2, .inl gZ)) := by rw [ef129, va_up_ne _ _ (Ne.symm nd_dT_dZ)]; exact k_dZ
          have h242 : f129 dI = some (.inl (cI G, 2, .inl gI)) := by rw [ef129, va_up_ne _ _ (Ne.symm nd_dT_dI)]; exact k_dI
          have h243 : f129 dH = some (.inl (cI G, 2, .inl gH)) := by rw [ef129, va_up_ne _ _ (Ne.symm nd_dT_dH)]; exact k_dH
          have h244 : f129 dN = some (.inl (cI G, 2, .inl gN)) := by rw [ef129, va_up_ne _ _ (Ne.symm nd_dT_dN)]; exact k_dN
          have n246 : dK ≠ dT := hneL k_dK k_dT (Nat.ne_of_beq_eq_false rfl)
          have h245 : f129 dK = some (.inl (cI G, 2048, .inl gK)) := by rw [ef129, va_up_ne _ _ n246]; exact k_dK
          have n248 : dJ ≠ dT := hneL k_dJ k_dT (Nat.ne_of_beq_eq_false rfl)
          have h247 : f129 dJ = some (.inl (cI G, 2048, .inl gJ)) := by rw [ef129, va_up_ne _ _ n248]; exact k_dJ
          have n250 : dU ≠ dT := hneL k_dU k_dT (Nat.ne_of_beq_eq_false rfl)
          have h249 : f129 dU = some (.inl (cI G, 2048, .inl gU)) := by rw [ef129, va_up_ne _ _ n250]; exact k_dU
          have n252 : dO ≠ dT := hneL k_dO k_dT (Nat.ne_of_beq_eq_false rfl)
          have h251 : f129 dO = some (.inl (cI G, 2048, .inl gO)) := by rw [ef129, va_up_ne _ _ n252]; exact k_dO
          exact hp_iret (v := 0) B0 hw hS hr ⟨Nat.le_of_ble_eq_true rfl, Nat.le_of_ble_eq_true rfl⟩ dX5_goesBy_41 (⟨⟨_, rfl⟩, ⟨_, _, _, _, _, _, _, _, _, _, _, _, _, h236, h238, h239, h240, h130, h241, h242, h243, h244, h245, h247, h249, h251, hHd9, (hMn.mono hMn9 (by omega))⟩, (show hEq [dQ, dS, dL, dR, dT, dZ, dI, dH, dN, dK, dJ, dU, dO] f f129 from (by rw [ef129]; exact hEq.up (List.mem_cons_of_mem _ (List.mem_cons_of_mem _ (List.mem_cons_of_mem _ (List.mem_cons_of_mem _ List.mem_cons_self))))))⟩)
      · refine lv_iconst (v := 0) hx hb dX5_goesBy_19 (by decide) ?_
        exact hp_iret (v := 0) B0 hw hS hr ⟨Nat.le_of_ble_eq_true rfl, Nat.le_of_ble_eq_true rfl⟩ dX5_goesBy_20 (⟨⟨_, rfl⟩, ⟨_, _, _, _, _, _, _, _, _, _, _, _, _, k_dQ, k_dS, k_dL, k_dR, k_dT, k_dZ, k_dI, k_dH, k_dN, k_dK, k_dJ, k_dU, k_dO, hHd9, (hMn.mono hMn9 (by omega))⟩, hEq.rf⟩)

