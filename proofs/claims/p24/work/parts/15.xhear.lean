theorem vin6j {j : Nat} (h : j < 6) : vp_in (nI j) 6 := vp_in_nI h (by decide)
theorem va_up_id {f : hM} {a : Nat} {e : Option va_E} (h : f a = e) : f = va_up f a e := by
  funext b
  by_cases z : b = a
  · rw [z, va_up_self, h]
  · rw [va_up_ne _ _ z]
theorem kFn_3 {ga v : Nat → Int32} {n j : Nat} {kd : Int32} (h : unk ga v j) : kFn ga v (n + 1) j kd = 3 := if_pos h
theorem kFn_2 {ga v : Nat → Int32} {n j : Nat} {kd : Int32} (h : ¬ unk ga v j) (h2 : rfs ga v j) : kFn ga v (n + 1) j kd = kFn ga v n (j + 1) 2 := by
  show (if unk ga v j then 3 else kFn ga v n (j + 1) (if rfs ga v j then 2 else kd)) = _
  rw [if_neg h, if_pos h2]
theorem kFn_1 {ga v : Nat → Int32} {n j : Nat} {kd : Int32} (h : ¬ unk ga v j) (h2 : ¬ rfs ga v j) : kFn ga v (n + 1) j kd = kFn ga v n (j + 1) kd := by
  show (if unk ga v j then 3 else kFn ga v n (j + 1) (if rfs ga v j then 2 else kd)) = _
  rw [if_neg h, if_neg h2]
theorem kFn_val (ga v : Nat → Int32) : ∀ (n j : Nat) (kd : Int32), (kd = 1 ∨ kd = 2) → kFn ga v n j kd = 1 ∨ kFn ga v n j kd = 2 ∨ kFn ga v n j kd = 3 := by
  intro n
  induction n with
  | zero => intro j kd h; exact h.elim Or.inl (fun h => Or.inr (Or.inl h))
  | succ n ih =>
    intro j kd h
    by_cases h3 : unk ga v j
    · exact Or.inr (Or.inr (kFn_3 h3))
    · by_cases h2 : rfs ga v j
      · rw [kFn_2 h3 h2]; exact ih _ _ (Or.inr rfl)
      · rw [kFn_1 h3 h2]; exact ih _ _ h
theorem kindF_val (ga v : Nat → Int32) : kindF ga v = 1 ∨ kindF ga v = 2 ∨ kindF ga v = 3 := kFn_val ga v 6 0 1 (Or.inl rfl)
theorem kindF_ne0 (ga v : Nat → Int32) : ¬ kindF ga v = 0 := by
  rcases kindF_val ga v with h | h | h <;> (rw [h]; decide)
theorem lowN_1 {g : Int32} {n j : Nat} (h : ((g >>> (nI j &&& 31)) &&& 1) = 1) : lowN g (n + 1) j = nI j := if_pos h
theorem lowN_0 {g : Int32} {n j : Nat} (h : ¬ ((g >>> (nI j &&& 31)) &&& 1) = 1) : lowN g (n + 1) j = lowN g n (j + 1) := if_neg h
theorem toldN_0 (ga v : Nat → Int32) (kd : Int32) : toldN ga v kd 0 = N6 := by
  funext i
  exact if_neg (Nat.not_lt_zero _)
theorem toldN_s {ga v : Nat → Int32} {kd x : Int32} {j k : Nat} (hk : k = j) (h : tlF ga v kd j = x) : upd (toldN ga v kd j) k x = toldN ga v kd (j + 1) := by
  subst hk
  funext i
  simp only [upd, toldN]
  by_cases e : i = k
  · rw [if_pos e, if_pos (by omega), e, h]
  · rw [if_neg e]
    by_cases l : i < k
    · rw [if_pos l, if_pos (by omega)]
    · rw [if_neg l, if_neg (by omega)]
theorem toldN_k {ga v : Nat → Int32} {kd : Int32} {j : Nat} (hj : j < 6) (h : tlF ga v kd j = -1) : toldN ga v kd j = toldN ga v kd (j + 1) := by
  funext i
  simp only [toldN]
  by_cases e : i = j
  · rw [if_neg (by omega), if_pos (by omega), e, h]
    exact if_pos hj
  · by_cases l : i < j
    · rw [if_pos l, if_pos (by omega)]
    · rw [if_neg l, if_neg (by omega)]
theorem chgN_0 (gq v : Nat → Int32) (kd : Int32) : chgN gq v kd 0 = gq := by
  funext i
  exact if_neg (fun h => Nat.not_lt_zero _ h.1)
theorem chgN_s {gq v : Nat → Int32} {kd x : Int32} {j k : Nat} (hk : k = j) (h : ¬ v j = -1) (hx : (if kd = 2 then v j else -1) = x) : upd (chgN gq v kd j) k x = chgN gq v kd (j + 1) := by
  subst hk
  funext i
  simp only [upd, chgN]
  by_cases e : i = k
  · rw [if_pos e, if_pos ⟨by omega, by rw [e]; exact h⟩, e, hx]
  · rw [if_neg e]
    by_cases l : i < k ∧ ¬ v i = -1
    · rw [if_pos l, if_pos ⟨by omega, l.2⟩]
    · rw [if_neg l, if_neg (fun h9 => l ⟨by omega, h9.2⟩)]
theorem chgN_k {gq v : Nat → Int32} {kd : Int32} {j : Nat} (h : v j = -1) : chgN gq v kd j = chgN gq v kd (j + 1) := by
  funext i
  simp only [chgN]
  by_cases l : i < j ∧ ¬ v i = -1
  · rw [if_pos l, if_pos ⟨by omega, l.2⟩]
  · rw [if_neg l, if_neg (fun h9 => l ⟨by
      have := h9.1
      by_cases e : i = j
      · exact absurd (by rw [e]; exact h) h9.2
      · omega, h9.2⟩)]
theorem i32_of {x : Int32} {k : Int} (y : Int32) (h : x.toInt = k) (hy : y.toInt = k) : x = y := Int32.toInt_inj.mp (h.trans hy.symm)
set_option maxHeartbeats 4000000 in
set_option maxRecDepth 100000 in
theorem c_X1_allowsX {l : Launch} (hl : l.stackTraces = false) (G : hG) (f : hM) (en nw na nq nr : Nat) (mg st tm sr li lp mi : Int32) (ga : Nat → Int32) (k_en : f en = some (.inr (1, [.ref nw, .ref na, .ref nq, .ref nr, .int mg, .int st, .int tm, .int sr, .int li, .int lp, .int mi]))) (k_na : f na = some (.inl (cI G, 6, .inl ga))) (j : Nat) (hj : j < 6) (x : Int32) : CT l yX1_allows (.code yX1_allows cX1_allows 3 (some .boolean)) 0 0 0 0 G [.ref en, .int (nI j), .int x] f (fun v f1 => f1 = f ∧ ((v = some (.int 1) ∧ ((ga j >>> (x &&& 31)) &&& 1) = 1) ∨ (v = some (.int 0) ∧ ¬ (((ga j >>> (x &&& 31)) &&& 1) = 1)))) (fun E f1 => False) := by
  refine hp_start hl (own := RX1) (by decide) rfl (Nat.le_of_ble_eq_true rfl) ?_
  intro p e s m args below meth c B0 hr hnm hout hw hS ls hl9
  have hx := B0.1
  have hb := B0.2.1
  have hl9 : lv_has ls 3 [(0, .ref en), (1, .int (nI j)), (2, .int x)] := hl9
  refine lv_aload_n hx hb dX1_allows_0 rfl (lv_at hl9 0 rfl) ?_
  refine hp_get B0 hw 1 rfl in_X1 k_en 1 (by decide) qF_X1_15 rfl dX1_allows_1 ?_
  refine lv_iload_n hx hb dX1_allows_4 rfl (lv_at hl9 1 rfl) ?_
  refine hp_iald B0 hw k_na (vin6j hj) dX1_allows_5 ?_
  refine hp_c (v := (ga j)) (congrArg ga (nI_clamp (by omega))) ?_
  refine lv_iload_n hx hb dX1_allows_6 rfl (lv_at hl9 2 rfl) ?_
  refine lv_ishr hx hb dX1_allows_7 ?_
  refine lv_iconst (v := 1) hx hb dX1_allows_8 (by decide) ?_
  refine lv_iand hx hb dX1_allows_9 ?_
  refine lv_iconst (v := 1) hx hb dX1_allows_10 (by decide) ?_
  refine lv_icmp_ne (tgt := 18) hx hb dX1_allows_11 (by decide) (fun c1 => ?_) (fun c1 => ?_)
  · refine lv_iconst (v := 0) hx hb dX1_allows_18 (by decide) ?_
    exact hp_zret (v := 0) B0 hw hS hr ⟨Nat.le_of_ble_eq_true rfl, Nat.le_of_ble_eq_true rfl⟩ (rfl) dX1_allows_19 (⟨rfl, Or.inr ⟨rfl, c1⟩⟩)
  · refine lv_iconst (v := 1) hx hb dX1_allows_14 (by decide) ?_
    refine lv_goto (tgt := 19) hx hb dX1_allows_15 (by decide) ?_
    exact hp_zret (v := 1) B0 hw hS hr ⟨Nat.le_of_ble_eq_true rfl, Nat.le_of_ble_eq_true rfl⟩ (rfl) dX1_allows_19 (⟨rfl, Or.inl ⟨rfl, c1⟩⟩)

set_option maxHeartbeats 4000000 in
set_option maxRecDepth 100000 in
theorem c_X1_unkX {l : Launch} (hl : l.stackTraces = false) (G : hG) (f : hM) (en nw na nq nr : Nat) (mg st tm sr li lp mi : Int32) (ga : Nat → Int32) (k_en : f en = some (.inr (1, [.ref nw, .ref na, .ref nq, .ref nr, .int mg, .int st, .int tm, .int sr, .int li, .int lp, .int mi]))) (k_na : f na = some (.inl (cI G, 6, .inl ga))) (j : Nat) (hj : j < 6) (x : Int32) : CT l yX1_isUnknown (.code yX1_isUnknown cX1_isUnknown 3 (some .boolean)) 0 0 0 0 G [.ref en, .int (nI j), .int x] f (fun v f1 => f1 = f ∧ ((v = some (.int 1) ∧ ¬ x = -1 ∧ ga j = 0) ∨ (v = some (.int 0) ∧ ¬ (¬ x = -1 ∧ ga j = 0)))) (fun E f1 => False) := by
  refine hp_start hl (own := RX1) (by decide) rfl (Nat.le_of_ble_eq_true rfl) ?_
  intro p e s m args below meth c B0 hr hnm hout hw hS ls hl9
  have hx := B0.1
  have hb := B0.2.1
  have hl9 : lv_has ls 3 [(0, .ref en), (1, .int (nI j)), (2, .int x)] := hl9
  refine lv_iload_n hx hb dX1_isUnknown_0 rfl (lv_at hl9 2 rfl) ?_
  refine lv_iconst (v := (-1)) hx hb dX1_isUnknown_1 (by decide) ?_
  refine lv_icmp_eq (tgt := 18) hx hb dX1_isUnknown_2 (by decide) (fun c1 => ?_) (fun c1 => ?_)
  · refine lv_iconst (v := 0) hx hb dX1_isUnknown_18 (by decide) ?_
    exact hp_zret (v := 0) B0 hw hS hr ⟨Nat.le_of_ble_eq_true rfl, Nat.le_of_ble_eq_true rfl⟩ (rfl) dX1_isUnknown_19 (⟨rfl, Or.inr ⟨rfl, fun h9 => h9.1 c1⟩⟩)
  · refine lv_aload_n hx hb dX1_isUnknown_5 rfl (lv_at hl9 0 rfl) ?_
    refine hp_get B0 hw 1 rfl in_X1 k_en 1 (by decide) qF_X1_15 rfl dX1_isUnknown_6 ?_
    refine lv_iload_n hx hb dX1_isUnknown_9 rfl (lv_at hl9 1 rfl) ?_
    refine hp_iald B0 hw k_na (vin6j hj) dX1_isUnknown_10 ?_
    refine hp_c (v := (ga j)) (congrArg ga (nI_clamp (by omega))) ?_
    refine lv_if_ne (tgt := 18) hx hb dX1_isUnknown_11 (by decide) (fun c2 => ?_) (fun c2 => ?_)
    · refine lv_iconst (v := 0) hx hb dX1_isUnknown_18 (by decide) ?_
      exact hp_zret (v := 0) B0 hw hS hr ⟨Nat.le_of_ble_eq_true rfl, Nat.le_of_ble_eq_true rfl⟩ (rfl) dX1_isUnknown_19 (⟨rfl, Or.inr ⟨rfl, fun h9 => c2 h9.2⟩⟩)
    · refine lv_iconst (v := 1) hx hb dX1_isUnknown_14 (by decide) ?_
      refine lv_goto (tgt := 19) hx hb dX1_isUnknown_15 (by decide) ?_
      exact hp_zret (v := 1) B0 hw hS hr ⟨Nat.le_of_ble_eq_true rfl, Nat.le_of_ble_eq_true rfl⟩ (rfl) dX1_isUnknown_19 (⟨rfl, Or.inl ⟨rfl, ⟨c1, c2⟩⟩⟩)

set_option maxHeartbeats 4000000 in
set_option maxRecDepth 100000 in
theorem c_X1_rfsX {l : Launch} (hl : l.stackTraces = false) (G : hG) (f : hM) (en nw na nq nr : Nat) (mg st tm sr li lp mi : Int32) (ga : Nat → Int32) (k_en : f en = some (.inr (1, [.ref nw, .ref na, .ref nq, .ref nr, .int mg, .int st, .int tm, .int sr, .int li, .int lp, .int mi]))) (k_na : f na = some (.inl (cI G, 6, .inl ga))) (j : Nat) (hj : j < 6) (x : Int32) : CT l yX1_isRefused (.code yX1_isRefused cX1_isRefused 3 (some .boolean)) 1 22 0 0 G [.ref en, .int (nI j), .int x] f (fun v f1 => f1 = f ∧ ((v = some (.int 1) ∧ ¬ x = -1 ∧ ¬ ((ga j >>> (x &&& 31)) &&& 1) = 1) ∨ (v = some (.int 0) ∧ ¬ (¬ x = -1 ∧ ¬ ((ga j >>> (x &&& 31)) &&& 1) = 1)))) (fun E f1 => False) := by
  refine hp_start hl (own := RX1) (by decide) rfl (Nat.le_of_ble_eq_true rfl) ?_
  intro p e s m args below meth c B0 hr hnm hout hw hS ls hl9
  have hx := B0.1
  have hb := B0.2.1
  have hl9 : lv_has ls 3 [(0, .ref en), (1, .int (nI j)), (2, .int x)] := hl9
  refine lv_iload_n hx hb dX1_isRefused_0 rfl (lv_at hl9 2 rfl) ?_
  refine lv_iconst (v := (-1)) hx hb dX1_isRefused_1 (by decide) ?_
  refine lv_icmp_eq (tgt := 18) hx hb dX1_isRefused_2 (by decide) (fun c1 => ?_) (fun c1 => ?_)
  · refine lv_iconst (v := 0) hx hb dX1_isRefused_18 (by decide) ?_
    exact hp_zret (v := 0) B0 hw hS hr ⟨Nat.le_of_ble_eq_true rfl, Nat.le_of_ble_eq_true rfl⟩ (rfl) dX1_isRefused_19 (⟨rfl, Or.inr ⟨rfl, fun h9 => h9.1 c1⟩⟩)
  · refine lv_aload_n hx hb dX1_isRefused_5 rfl (lv_at hl9 0 rfl) ?_
    refine lv_iload_n hx hb dX1_isRefused_6 rfl (lv_at hl9 1 rfl) ?_
    refine lv_iload_n hx hb dX1_isRefused_7 rfl (lv_at hl9 2 rfl) ?_
    refine hp_V (ci := 1) (As := [.int (nI j), .int x]) (rest := []) B0 hw hS (c_X1_allowsX hl G f en nw na nq nr mg st tm sr li lp mi ga k_en k_na j hj x) mV_X1_allows qM_X1_128 rfl k_en rfl rfl hl9.1 (Nat.le_of_ble_eq_true rfl) ⟨⟨Nat.le_of_ble_eq_true rfl, Nat.le_of_ble_eq_true rfl⟩, Nat.le_of_ble_eq_true rfl, Nat.le_of_ble_eq_true rfl⟩ dX1_isRefused_8 (fun E ce q9 f2 H locs hPX hw hS hce hcv hcl => ?_) (fun v f2 H locs hP hw hS => ?_)
    · exact hPX.elim
    · obtain ⟨ef9, hv9⟩ := hP
      rw [ef9] at hw
      rcases hv9 with ⟨ev9, c3⟩ | ⟨ev9, c3⟩
      · subst ev9
        refine W.eq (g2 := F0 m 11 ls [.int 1]) rfl ?_
        refine lv_if_ne (tgt := 18) hx hb dX1_isRefused_11 (by decide) (fun _ => ?_) (fun c9 => absurd c9 (by decide))
        refine lv_iconst (v := 0) hx hb dX1_isRefused_18 (by decide) ?_
        exact hp_zret (v := 0) B0 hw hS hr ⟨Nat.le_of_ble_eq_true rfl, Nat.le_of_ble_eq_true rfl⟩ (rfl) dX1_isRefused_19 (⟨rfl, Or.inr ⟨rfl, fun h9 => h9.2 c3⟩⟩)
      · subst ev9
        refine W.eq (g2 := F0 m 11 ls [.int 0]) rfl ?_
        refine lv_if_ne (tgt := 18) hx hb dX1_isRefused_11 (by decide) (fun c9 => absurd (by decide) c9) (fun _ => ?_)
        refine lv_iconst (v := 1) hx hb dX1_isRefused_14 (by decide) ?_
        refine lv_goto (tgt := 19) hx hb dX1_isRefused_15 (by decide) ?_
        exact hp_zret (v := 1) B0 hw hS hr ⟨Nat.le_of_ble_eq_true rfl, Nat.le_of_ble_eq_true rfl⟩ (rfl) dX1_isRefused_19 (⟨rfl, Or.inl ⟨rfl, ⟨c1, c3⟩⟩⟩)

set_option maxHeartbeats 4000000 in
set_option maxRecDepth 100000 in
theorem c_X1_lowX {l : Launch} (hl : l.stackTraces = false) (G : hG) (f : hM) (en nw na nq nr : Nat) (mg st tm sr li lp mi : Int32) (ga : Nat → Int32) (k_en : f en = some (.inr (1, [.ref nw, .ref na, .ref nq, .ref nr, .int mg, .int st, .int tm, .int sr, .int li, .int lp, .int mi]))) (k_na : f na = some (.inl (cI G, 6, .inl ga))) (j : Nat) (hj : j < 6) : CT l yX1_lowestAllowed (.code yX1_lowestAllowed cX1_lowestAllowed 3 (some .int)) 1 22 0 0 G [.ref en, .int (nI j)] f (fun v f1 => f1 = f ∧ v = some (.int (lowF (ga j)))) (fun E f1 => False) := by
  refine hp_start hl (own := RX1) (by decide) rfl (Nat.le_of_ble_eq_true rfl) ?_
  intro p e s m args below meth c B0 hr hnm hout hw hS ls hl9
  have hx := B0.1
  have hb := B0.2.1
  have hl9 : lv_has ls 3 [(0, .ref en), (1, .int (nI j))] := hl9
  refine lv_iconst (v := 0) hx hb dX1_lowestAllowed_0 (by decide) ?_
  refine lv_istore_n (lv' := [(2, .int 0), (0, .ref en), (1, .int (nI j))]) hx hb dX1_lowestAllowed_1 rfl hl9 (by decide) rfl (fun ls hl9 => ?_)
  refine hp_for (nL := 3) (pc := 2) (fun k f9 lv9 => f9 = f ∧  lowN (ga j) (10 - k) k = lowF (ga j) ∧ lv9 = [(2, .int (nI k)), (0, .ref en), (1, .int (nI j))]) 10 (fun k f9 lv9 H locs ls hk hI hw hS hl9 ih => ?_) (fun f9 lv9 H locs ls hI hw hS hl9 => ?_) 10 0 (by decide) f _ _ _ ls ⟨rfl, rfl, rfl⟩ hw hS (lv_sub hl9 [0, 1, 2] rfl)
  · obtain ⟨ef9, hv9, el9⟩ := hI
    rw [ef9] at hw
    rw [el9] at hl9
    refine lv_iload_n hx hb dX1_lowestAllowed_2 rfl (lv_at hl9 0 rfl) ?_
    refine lv_bipush (v := 9) hx hb dX1_lowestAllowed_3 (by decide) ?_
    refine lv_icmp_gt (tgt := 25) hx hb dX1_lowestAllowed_5 (by decide) (fun c9 => absurd c9 (by rw [show (9 : Int32) = nI 9 from rfl]; exact nI_nlt (by omega) (by omega))) (fun _ => ?_)
    refine lv_aload_n hx hb dX1_lowestAllowed_8 rfl (lv_at hl9 1 rfl) ?_
    refine lv_iload_n hx hb dX1_lowestAllowed_9 rfl (lv_at hl9 2 rfl) ?_
    refine lv_iload_n hx hb dX1_lowestAllowed_10 rfl (lv_at hl9 0 rfl) ?_
    refine hp_V (ci := 1) (As := [.int (nI j), .int (nI k)]) (rest := []) B0 hw hS (c_X1_allowsX hl G f en nw na nq nr mg st tm sr li lp mi ga k_en k_na j hj (nI k)) mV_X1_allows qM_X1_128 rfl k_en rfl rfl hl9.1 (Nat.le_of_ble_eq_true rfl) ⟨⟨Nat.le_of_ble_eq_true rfl, Nat.le_of_ble_eq_true rfl⟩, Nat.le_of_ble_eq_true rfl, Nat.le_of_ble_eq_true rfl⟩ dX1_lowestAllowed_11 (fun E ce q9 f1 H locs hPX hw hS hce hcv hcl => ?_) (fun v f1 H locs hP hw hS => ?_)
    · exact hPX.elim
    · obtain ⟨ef9, hv9⟩ := hP
      rw [ef9] at hw
      rcases hv9 with ⟨ev9, c2⟩ | ⟨ev9, c2⟩
      · subst ev9
        refine W.eq (g2 := F0 m 14 ls [.int 1]) rfl ?_
        refine lv_if_eq (tgt := 19) hx hb dX1_lowestAllowed_14 (by decide) (fun c9 => absurd c9 (by decide)) (fun _ => ?_)
        refine lv_iload_n hx hb dX1_lowestAllowed_17 rfl (lv_at hl9 0 rfl) ?_
        exact hp_iret (v := (nI k)) B0 hw hS hr ⟨Nat.le_of_ble_eq_true rfl, Nat.le_of_ble_eq_true rfl⟩ dX1_lowestAllowed_18 (⟨rfl, congrArg (fun z9 => some (Value.int z9)) (by rw [← hv9, show 10 - k = (10 - (k + 1)) + 1 by omega, lowN_1 c2])⟩)
      · subst ev9
        refine W.eq (g2 := F0 m 14 ls [.int 0]) rfl ?_
        refine lv_if_eq (tgt := 19) hx hb dX1_lowestAllowed_14 (by decide) (fun _ => ?_) (fun c9 => absurd (by decide) c9)
        refine lv_iinc (v := (nI (k + 1))) (lv' := [(2, .int (nI (k + 1))), (0, .ref en), (1, .int (nI j))]) hx hb dX1_lowestAllowed_19 hl9 (k := 0) rfl (nI_1 k) (by decide) rfl (fun ls hl9 => ?_)
        refine lv_goto (tgt := 2) hx hb dX1_lowestAllowed_22 (by decide) ?_
        exact ih _ _ H locs ls ⟨rfl, (by rw [← hv9, show 10 - k = (10 - (k + 1)) + 1 by omega, lowN_0 c2]), rfl⟩ hw hS (lv_sub hl9 [0, 1, 2] rfl)
  · obtain ⟨ef9, hv9, el9⟩ := hI
    rw [ef9] at hw
    rw [el9] at hl9
    refine lv_iload_n hx hb dX1_lowestAllowed_2 rfl (lv_at hl9 0 rfl) ?_
    refine lv_bipush (v := 9) hx hb dX1_lowestAllowed_3 (by decide) ?_
    refine lv_icmp_gt (tgt := 25) hx hb dX1_lowestAllowed_5 (by decide) (fun _ => ?_) (fun c9 => absurd (by decide) c9)
    refine lv_iconst (v := (-1)) hx hb dX1_lowestAllowed_25 (by decide) ?_
    exact hp_iret (v := (-1)) B0 hw hS hr ⟨Nat.le_of_ble_eq_true rfl, Nat.le_of_ble_eq_true rfl⟩ dX1_lowestAllowed_26 (⟨rfl, congrArg (fun z9 => some (Value.int z9)) hv9⟩)

set_option maxHeartbeats 4000000 in
set_option maxRecDepth 100000 in
theorem c_X1_kindX {l : Launch} (hl : l.stackTraces = false) (G : hG) (f : hM) (en nw na nq nr : Nat) (mg st tm sr li lp mi : Int32) (ga : Nat → Int32) (k_en : f en = some (.inr (1, [.ref nw, .ref na, .ref nq, .ref nr, .int mg, .int st, .int tm, .int sr, .int li, .int lp, .int mi]))) (k_na : f na = some (.inl (cI G, 6, .inl ga))) (nv : Nat) (gv : Nat → Int32) (k_nv : f nv = some (.inl (cI G, 6, .inl gv))) : CT l yX1_kindOfAnswer (.code yX1_kindOfAnswer cX1_kindOfAnswer 4 (some .int)) 2 44 0 0 G [.ref en, .ref nv] f (fun v f1 => f1 = f ∧ v = some (.int (kindF ga gv))) (fun E f1 => False) := by
  refine hp_start hl (own := RX1) (by decide) rfl (Nat.le_of_ble_eq_true rfl) ?_
  intro p e s m args below meth c B0 hr hnm hout hw hS ls hl9
  have hx := B0.1
  have hb := B0.2.1
  have hl9 : lv_has ls 4 [(0, .ref en), (1, .ref nv)] := hl9
  refine lv_iconst (v := 1) hx hb dX1_kindOfAnswer_0 (by decide) ?_
  refine lv_istore_n (lv' := [(2, .int 1), (0, .ref en), (1, .ref nv)]) hx hb dX1_kindOfAnswer_1 rfl hl9 (by decide) rfl (fun ls hl9 => ?_)
  refine lv_iconst (v := 0) hx hb dX1_kindOfAnswer_2 (by decide) ?_
  refine lv_istore_n (lv' := [(3, .int 0), (2, .int 1), (0, .ref en), (1, .ref nv)]) hx hb dX1_kindOfAnswer_3 rfl hl9 (by decide) rfl (fun ls hl9 => ?_)
  refine hp_for (nL := 4) (pc := 4) (fun j f9 lv9 => f9 = f ∧ ∃ k9 : Int32, kFn ga gv (6 - j) j k9 = kindF ga gv ∧ lv9 = [(3, .int (nI j)), (2, .int k9), (0, .ref en), (1, .ref nv)]) 6 (fun j f9 lv9 H locs ls hj hI hw hS hl9 ih => ?_) (fun f9 lv9 H locs ls hI hw hS hl9 => ?_) 6 0 (by decide) f _ _ _ ls ⟨rfl, _, rfl, rfl⟩ hw hS (lv_sub hl9 [0, 1, 2, 3] rfl)
  · obtain ⟨ef9, k9, hv9, el9⟩ := hI
    rw [ef9] at hw
    rw [el9] at hl9
    refine lv_iload_n hx hb dX1_kindOfAnswer_4 rfl (lv_at hl9 0 rfl) ?_
    refine lv_bipush (v := 6) hx hb dX1_kindOfAnswer_5 (by decide) ?_
    refine lv_icmp_ge (tgt := 42) hx hb dX1_kindOfAnswer_7 (by decide) (fun c9 => absurd c9 (by rw [show (6 : Int32) = nI 6 from rfl]; exact nI_ge hj (by omega))) (fun _ => ?_)
    refine lv_aload_n hx hb dX1_kindOfAnswer_10 rfl (lv_at hl9 2 rfl) ?_
    refine lv_iload_n hx hb dX1_kindOfAnswer_11 rfl (lv_at hl9 0 rfl) ?_
    refine lv_aload_n hx hb dX1_kindOfAnswer_12 rfl (lv_at hl9 3 rfl) ?_
    refine lv_iload_n hx hb dX1_kindOfAnswer_13 rfl (lv_at hl9 0 rfl) ?_
    refine hp_iald B0 hw k_nv (vin6j hj) dX1_kindOfAnswer_14 ?_
    refine hp_c (v := (gv j)) (congrArg gv (nI_clamp (by omega))) ?_
    refine hp_V (ci := 1) (As := [.int (nI j), .int (gv j)]) (rest := []) B0 hw hS (c_X1_unkX hl G f en nw na nq nr mg st tm sr li lp mi ga k_en k_na j hj (gv j)) mV_X1_isUnknown qM_X1_117 rfl k_en rfl rfl hl9.1 (Nat.le_of_ble_eq_true rfl) ⟨⟨Nat.le_of_ble_eq_true rfl, Nat.le_of_ble_eq_true rfl⟩, Nat.le_of_ble_eq_true rfl, Nat.le_of_ble_eq_true rfl⟩ dX1_kindOfAnswer_15 (fun E ce q9 f1 H locs hPX hw hS hce hcv hcl => ?_) (fun v f1 H locs hP hw hS => ?_)
    · exact hPX.elim
    · obtain ⟨ef9, hv9⟩ := hP
      rw [ef9] at hw
      rcases hv9 with ⟨ev9, c2⟩ | ⟨ev9, c2⟩
      · subst ev9
        refine W.eq (g2 := F0 m 18 ls [.int 1]) rfl ?_
        refine lv_if_eq (tgt := 23) hx hb dX1_kindOfAnswer_18 (by decide) (fun c9 => absurd c9 (by decide)) (fun _ => ?_)
        refine lv_iconst (v := 3) hx hb dX1_kindOfAnswer_21 (by decide) ?_
        exact hp_iret (v := 3) B0 hw hS hr ⟨Nat.le_of_ble_eq_true rfl, Nat.le_of_ble_eq_true rfl⟩ dX1_kindOfAnswer_22 (⟨rfl, congrArg (fun z9 => some (Value.int z9)) (by rw [← hv9, show 6 - j = (6 - (j + 1)) + 1 by omega, kFn_3 c2])⟩)
      · subst ev9
        refine W.eq (g2 := F0 m 18 ls [.int 0]) rfl ?_
        refine lv_if_eq (tgt := 23) hx hb dX1_kindOfAnswer_18 (by decide) (fun _ => ?_) (fun c9 => absurd (by decide) c9)
        refine lv_aload_n hx hb dX1_kindOfAnswer_23 rfl (lv_at hl9 2 rfl) ?_
        refine lv_iload_n hx hb dX1_kindOfAnswer_24 rfl (lv_at hl9 0 rfl) ?_
        refine lv_aload_n hx hb dX1_kindOfAnswer_25 rfl (lv_at hl9 3 rfl) ?_
        refine lv_iload_n hx hb dX1_kindOfAnswer_26 rfl (lv_at hl9 0 rfl) ?_
        refine hp_iald B0 hw k_nv (vin6j hj) dX1_kindOfAnswer_27 ?_
        refine hp_c (v := (gv j)) (congrArg gv (nI_clamp (by omega))) ?_
        refine hp_V (ci := 1) (As := [.int (nI j), .int (gv j)]) (rest := []) B0 hw hS (c_X1_rfsX hl G f en nw na nq nr mg st tm sr li lp mi ga k_en k_na j hj (gv j)) mV_X1_isRefused qM_X1_121 rfl k_en rfl rfl hl9.1 (Nat.le_of_ble_eq_true rfl) ⟨⟨Nat.le_of_ble_eq_true rfl, Nat.le_of_ble_eq_true rfl⟩, Nat.le_of_ble_eq_true rfl, Nat.le_of_ble_eq_true rfl⟩ dX1_kindOfAnswer_28 (fun E ce q9 f3 H locs hPX hw hS hce hcv hcl => ?_) (fun v f3 H locs hP hw hS => ?_)
        · exact hPX.elim
        · obtain ⟨ef9, hv9⟩ := hP
          rw [ef9] at hw
          rcases hv9 with ⟨ev9, c4⟩ | ⟨ev9, c4⟩
          · subst ev9
            refine W.eq (g2 := F0 m 31 ls [.int 1]) rfl ?_
            refine lv_if_eq (tgt := 36) hx hb dX1_kindOfAnswer_31 (by decide) (fun c9 => absurd c9 (by decide)) (fun _ => ?_)
            refine lv_iconst (v := 2) hx hb dX1_kindOfAnswer_34 (by decide) ?_
            refine lv_istore_n (lv' := [(2, .int 2), (3, .int (nI j)), (0, .ref en), (1, .ref nv)]) hx hb dX1_kindOfAnswer_35 rfl hl9 (by decide) rfl (fun ls hl9 => ?_)
            refine lv_iinc (v := (nI (j + 1))) (lv' := [(3, .int (nI (j + 1))), (2, .int 2), (0, .ref en), (1, .ref nv)]) hx hb dX1_kindOfAnswer_36 hl9 (k := 1) rfl (nI_1 j) (by decide) rfl (fun ls hl9 => ?_)
            refine lv_goto (tgt := 4) hx hb dX1_kindOfAnswer_39 (by decide) ?_
            exact ih _ _ H locs ls ⟨rfl, _, (by rw [← hv9, show 6 - j = (6 - (j + 1)) + 1 by omega, kFn_2 c2 c4]), rfl⟩ hw hS (lv_sub hl9 [0, 1, 2, 3] rfl)
          · subst ev9
            refine W.eq (g2 := F0 m 31 ls [.int 0]) rfl ?_
            refine lv_if_eq (tgt := 36) hx hb dX1_kindOfAnswer_31 (by decide) (fun _ => ?_) (fun c9 => absurd (by decide) c9)
            refine lv_iinc (v := (nI (j + 1))) (lv' := [(3, .int (nI (j + 1))), (2, .int k9), (0, .ref en), (1, .ref nv)]) hx hb dX1_kindOfAnswer_36 hl9 (k := 0) rfl (nI_1 j) (by decide) rfl (fun ls hl9 => ?_)
            refine lv_goto (tgt := 4) hx hb dX1_kindOfAnswer_39 (by decide) ?_
            exact ih _ _ H locs ls ⟨rfl, _, (by rw [← hv9, show 6 - j = (6 - (j + 1)) + 1 by omega, kFn_1 c2 c4]), rfl⟩ hw hS (lv_sub hl9 [0, 1, 2, 3] rfl)
  · obtain ⟨ef9, k9, hv9, el9⟩ := hI
    rw [ef9] at hw
    rw [el9] at hl9
    refine lv_iload_n hx hb dX1_kindOfAnswer_4 rfl (lv_at hl9 0 rfl) ?_
    refine lv_bipush (v := 6) hx hb dX1_kindOfAnswer_5 (by decide) ?_
    refine lv_icmp_ge (tgt := 42) hx hb dX1_kindOfAnswer_7 (by decide) (fun _ => ?_) (fun c9 => absurd (by decide) c9)
    refine lv_iload_n hx hb dX1_kindOfAnswer_42 rfl (lv_at hl9 1 rfl) ?_
    exact hp_iret (v := k9) B0 hw hS hr ⟨Nat.le_of_ble_eq_true rfl, Nat.le_of_ble_eq_true rfl⟩ dX1_kindOfAnswer_43 (⟨rfl, congrArg (fun z9 => some (Value.int z9)) hv9⟩)

set_option maxHeartbeats 4000000 in
set_option maxRecDepth 100000 in
theorem c_X1_toldX {l : Launch} (hl : l.stackTraces = false) (G : hG) (f : hM) (en nw na nq nr : Nat) (mg st tm sr li lp mi : Int32) (ga : Nat → Int32) (k_en : f en = some (.inr (1, [.ref nw, .ref na, .ref nq, .ref nr, .int mg, .int st, .int tm, .int sr, .int li, .int lp, .int mi]))) (k_na : f na = some (.inl (cI G, 6, .inl ga))) (nv : Nat) (gv : Nat → Int32) (k_nv : f nv = some (.inl (cI G, 6, .inl gv))) (k : Int32) : CT l yX1_toldOptions (.code yX1_toldOptions cX1_toldOptions 5 (some (.array .int))) 2 44 1 6 G [.ref en, .int k, .ref nv] f (fun v f1 => ∃ q : Nat, v = some (.ref q) ∧ f q = none ∧ f1 = va_up f q (some (.inl (cI G, 6, .inl (toldF ga gv k))))) (fun E f1 => False) := by
  refine hp_start hl (own := RX1) (by decide) rfl (Nat.le_of_ble_eq_true rfl) ?_
  intro p e s m args below meth c B0 hr hnm hout hw hS ls hl9
  have hx := B0.1
  have hb := B0.2.1
  have hl9 : lv_has ls 5 [(0, .ref en), (1, .int k), (2, .ref nv)] := hl9
  refine hp_S (As := []) (rest := []) B0 hw hS (c_X1_tellX hl G f ) mS_X1_tellNothing qM_X1_105 rfl rfl hl9.1 (Nat.le_of_ble_eq_true rfl) ⟨⟨Nat.le_of_ble_eq_true rfl, Nat.le_of_ble_eq_true rfl⟩, Nat.le_of_ble_eq_true rfl, Nat.le_of_ble_eq_true rfl⟩ dX1_toldOptions_0 (fun E ce q9 f1 H locs hPX hw hS hce hcv hcl => ?_) (fun v f1 H locs hP hw hS => ?_)
  · exact hPX.elim
  · obtain ⟨q2, ev9, w3, e4⟩ := hP
    subst ev9
    have h5 : f1 q2 = some (.inl (cI G, 6, .inl N6)) := by rw [e4, va_up_self]
    refine W.eq (g2 := F0 m 3 ls [.ref q2]) rfl ?_
    refine lv_astore_n (lv' := [(3, .ref q2), (0, .ref en), (1, .int k), (2, .ref nv)]) hx hb dX1_toldOptions_3 rfl hl9 (by decide) rfl (fun ls hl9 => ?_)
    refine lv_iconst (v := 0) hx hb dX1_toldOptions_4 (by decide) ?_
    refine lv_istore (lv' := [(4, .int 0), (3, .ref q2), (0, .ref en), (1, .int k), (2, .ref nv)]) hx hb dX1_toldOptions_5 hl9 (by decide) rfl (fun ls hl9 => ?_)
    refine hp_for (nL := 5) (pc := 7) (fun j f9 lv9 => f9 = va_up f q2 (some (.inl (cI G, 6, .inl (toldN ga gv k j)))) ∧ lv9 = [(4, .int (nI j)), (3, .ref q2), (0, .ref en), (1, .int k), (2, .ref nv)]) 6 (fun j f9 lv9 H locs ls hj hI hw hS hl9 ih => ?_) (fun f9 lv9 H locs ls hI hw hS hl9 => ?_) 6 0 (by decide) f1 _ _ _ ls ⟨(by rw [toldN_0]; exact e4), rfl⟩ hw hS (lv_sub hl9 [0, 1, 2, 3, 4] rfl)
    · obtain ⟨efq, el9⟩ := hI
      rw [el9] at hl9
      have h6 : f9 q2 = some (.inl (cI G, 6, .inl (toldN ga gv k j))) := by rw [efq, va_up_self]
      refine lv_iload hx hb dX1_toldOptions_7 (lv_at hl9 0 rfl) ?_
      refine lv_bipush (v := 6) hx hb dX1_toldOptions_9 (by decide) ?_
      refine lv_icmp_ge (tgt := 74) hx hb dX1_toldOptions_11 (by decide) (fun c9 => absurd c9 (by rw [show (6 : Int32) = nI 6 from rfl]; exact nI_ge hj (by omega))) (fun _ => ?_)
      refine lv_iload_n hx hb dX1_toldOptions_14 rfl (lv_at hl9 3 rfl) ?_
      refine lv_iconst (v := 3) hx hb dX1_toldOptions_15 (by decide) ?_
      refine lv_icmp_ne (tgt := 40) hx hb dX1_toldOptions_16 (by decide) (fun c7 => ?_) (fun c7 => ?_)
      · refine lv_iload_n hx hb dX1_toldOptions_40 rfl (lv_at hl9 3 rfl) ?_
        refine lv_iconst (v := 2) hx hb dX1_toldOptions_41 (by decide) ?_
        refine lv_icmp_ne (tgt := 68) hx hb dX1_toldOptions_42 (by decide) (fun c8 => ?_) (fun c8 => ?_)
        · refine lv_iinc (v := (nI (j + 1))) (lv' := [(4, .int (nI (j + 1))), (3, .ref q2), (0, .ref en), (1, .int k), (2, .ref nv)]) hx hb dX1_toldOptions_68 hl9 (k := 0) rfl (nI_1 j) (by decide) rfl (fun ls hl9 => ?_)
          refine lv_goto (tgt := 7) hx hb dX1_toldOptions_71 (by decide) ?_
          exact ih _ _ H locs ls ⟨(by rw [← toldN_k hj (by unfold tlF; rw [if_neg (fun h9 => c8 h9.1), if_neg (fun h9 => c7 h9.1)])]; exact efq), rfl⟩ hw hS (lv_sub hl9 [0, 1, 2, 3, 4] rfl)
        · refine lv_aload_n hx hb dX1_toldOptions_45 rfl (lv_at hl9 2 rfl) ?_
          refine lv_iload hx hb dX1_toldOptions_46 (lv_at hl9 0 rfl) ?_
          refine lv_aload_n hx hb dX1_toldOptions_48 rfl (lv_at hl9 4 rfl) ?_
          refine lv_iload hx hb dX1_toldOptions_49 (lv_at hl9 0 rfl) ?_
          have h9 : f9 nv = some (.inl (cI G, 6, .inl gv)) := by rw [efq, va_up_ne _ _ (hnew k_nv w3)]; exact k_nv
          refine hp_iald B0 hw h9 (vin6j hj) dX1_toldOptions_51 ?_
          refine hp_c (v := (gv j)) (congrArg gv (nI_clamp (by omega))) ?_
          have h10 : f9 en = some (.inr (1, [.ref nw, .ref na, .ref nq, .ref nr, .int mg, .int st, .int tm, .int sr, .int li, .int lp, .int mi])) := by rw [efq, va_up_ne _ _ (hnew k_en w3)]; exact k_en
          have h11 : f9 na = some (.inl (cI G, 6, .inl ga)) := by rw [efq, va_up_ne _ _ (hnew k_na w3)]; exact k_na
          refine hp_V (ci := 1) (As := [.int (nI j), .int (gv j)]) (rest := []) B0 hw hS (c_X1_rfsX hl G f9 en nw na nq nr mg st tm sr li lp mi ga h10 h11 j hj (gv j)) mV_X1_isRefused qM_X1_121 rfl h10 rfl rfl hl9.1 (Nat.le_of_ble_eq_true rfl) ⟨⟨Nat.le_of_ble_eq_true rfl, Nat.le_of_ble_eq_true rfl⟩, Nat.le_of_ble_eq_true rfl, Nat.le_of_ble_eq_true rfl⟩ dX1_toldOptions_52 (fun E ce q9 f12 H locs hPX hw hS hce hcv hcl => ?_) (fun v f12 H locs hP hw hS => ?_)
          · exact hPX.elim
          · obtain ⟨ef9, hv9⟩ := hP
            rw [ef9] at hw
            rcases hv9 with ⟨ev9, c13⟩ | ⟨ev9, c13⟩
            · subst ev9
              refine W.eq (g2 := F0 m 55 ls [.int 1]) rfl ?_
              refine lv_if_eq (tgt := 68) hx hb dX1_toldOptions_55 (by decide) (fun c9 => absurd c9 (by decide)) (fun _ => ?_)
              refine lv_aload_n hx hb dX1_toldOptions_58 rfl (lv_at hl9 1 rfl) ?_
              refine lv_iload hx hb dX1_toldOptions_59 (lv_at hl9 0 rfl) ?_
              refine lv_aload_n hx hb dX1_toldOptions_61 rfl (lv_at hl9 2 rfl) ?_
              refine lv_iload hx hb dX1_toldOptions_62 (lv_at hl9 0 rfl) ?_
              refine hp_V (ci := 1) (As := [.int (nI j)]) (rest := [.int (nI j), .ref q2]) B0 hw hS (c_X1_lowX hl G f9 en nw na nq nr mg st tm sr li lp mi ga h10 h11 j hj) mV_X1_lowestAllowed qM_X1_124 rfl h10 rfl rfl hl9.1 (Nat.le_of_ble_eq_true rfl) ⟨⟨Nat.le_of_ble_eq_true rfl, Nat.le_of_ble_eq_true rfl⟩, Nat.le_of_ble_eq_true rfl, Nat.le_of_ble_eq_true rfl⟩ dX1_toldOptions_64 (fun E ce q9 f14 H locs hPX hw hS hce hcv hcl => ?_) (fun v f14 H locs hP hw hS => ?_)
              · exact hPX.elim
              · obtain ⟨ef9, ev9⟩ := hP
                rw [ef9] at hw
                subst ev9
                refine W.eq (g2 := F0 m 67 ls [.int (lowF (ga j)), .int (nI j), .ref q2]) rfl ?_
                refine hp_iast B0 hw hS h6 (vin6j hj) dX1_toldOptions_67 (fun H locs f15 ef15 hw hS => ?_)
                have e16 : f15 = va_up f q2 (some (.inl (cI G, 6, .inl (upd (toldN ga gv k j) ((nI j) : Int32).toNatClampNeg (lowF (ga j)))))) := by rw [ef15, efq, bx_uu]
                have h17 : f15 q2 = some (.inl (cI G, 6, .inl (upd (toldN ga gv k j) ((nI j) : Int32).toNatClampNeg (lowF (ga j))))) := by rw [ef15, va_up_self]
                refine lv_iinc (v := (nI (j + 1))) (lv' := [(4, .int (nI (j + 1))), (3, .ref q2), (0, .ref en), (1, .int k), (2, .ref nv)]) hx hb dX1_toldOptions_68 hl9 (k := 0) rfl (nI_1 j) (by decide) rfl (fun ls hl9 => ?_)
                refine lv_goto (tgt := 7) hx hb dX1_toldOptions_71 (by decide) ?_
                exact ih _ _ H locs ls ⟨(by rw [e16, toldN_s (nI_clamp (by omega)) (by unfold tlF; rw [if_pos ⟨c8, c13⟩])]), rfl⟩ hw hS (lv_sub hl9 [0, 1, 2, 3, 4] rfl)
            · subst ev9
              refine W.eq (g2 := F0 m 55 ls [.int 0]) rfl ?_
              refine lv_if_eq (tgt := 68) hx hb dX1_toldOptions_55 (by decide) (fun _ => ?_) (fun c9 => absurd (by decide) c9)
              refine lv_iinc (v := (nI (j + 1))) (lv' := [(4, .int (nI (j + 1))), (3, .ref q2), (0, .ref en), (1, .int k), (2, .ref nv)]) hx hb dX1_toldOptions_68 hl9 (k := 0) rfl (nI_1 j) (by decide) rfl (fun ls hl9 => ?_)
              refine lv_goto (tgt := 7) hx hb dX1_toldOptions_71 (by decide) ?_
              exact ih _ _ H locs ls ⟨(by rw [← toldN_k hj (by unfold tlF; rw [if_neg (fun h9 => c13 h9.2), if_neg (fun h9 => c7 h9.1)])]; exact efq), rfl⟩ hw hS (lv_sub hl9 [0, 1, 2, 3, 4] rfl)
      · refine lv_aload_n hx hb dX1_toldOptions_19 rfl (lv_at hl9 2 rfl) ?_
        refine lv_iload hx hb dX1_toldOptions_20 (lv_at hl9 0 rfl) ?_
        refine lv_aload_n hx hb dX1_toldOptions_22 rfl (lv_at hl9 4 rfl) ?_
        refine lv_iload hx hb dX1_toldOptions_23 (lv_at hl9 0 rfl) ?_
        have h18 : f9 nv = some (.inl (cI G, 6, .inl gv)) := by rw [efq, va_up_ne _ _ (hnew k_nv w3)]; exact k_nv
        refine hp_iald B0 hw h18 (vin6j hj) dX1_toldOptions_25 ?_
        refine hp_c (v := (gv j)) (congrArg gv (nI_clamp (by omega))) ?_
        have h19 : f9 en = some (.inr (1, [.ref nw, .ref na, .ref nq, .ref nr, .int mg, .int st, .int tm, .int sr, .int li, .int lp, .int mi])) := by rw [efq, va_up_ne _ _ (hnew k_en w3)]; exact k_en
        have h20 : f9 na = some (.inl (cI G, 6, .inl ga)) := by rw [efq, va_up_ne _ _ (hnew k_na w3)]; exact k_na
        refine hp_V (ci := 1) (As := [.int (nI j), .int (gv j)]) (rest := []) B0 hw hS (c_X1_unkX hl G f9 en nw na nq nr mg st tm sr li lp mi ga h19 h20 j hj (gv j)) mV_X1_isUnknown qM_X1_117 rfl h19 rfl rfl hl9.1 (Nat.le_of_ble_eq_true rfl) ⟨⟨Nat.le_of_ble_eq_true rfl, Nat.le_of_ble_eq_true rfl⟩, Nat.le_of_ble_eq_true rfl, Nat.le_of_ble_eq_true rfl⟩ dX1_toldOptions_26 (fun E ce q9 f21 H locs hPX hw hS hce hcv hcl => ?_) (fun v f21 H locs hP hw hS => ?_)
        · exact hPX.elim
        · obtain ⟨ef9, hv9⟩ := hP
          rw [ef9] at hw
          rcases hv9 with ⟨ev9, c22⟩ | ⟨ev9, c22⟩
          · subst ev9
            refine W.eq (g2 := F0 m 29 ls [.int 1]) rfl ?_
            refine lv_if_eq (tgt := 40) hx hb dX1_toldOptions_29 (by decide) (fun c9 => absurd c9 (by decide)) (fun _ => ?_)
            refine lv_aload_n hx hb dX1_toldOptions_32 rfl (lv_at hl9 1 rfl) ?_
            refine lv_iload hx hb dX1_toldOptions_33 (lv_at hl9 0 rfl) ?_
            refine lv_aload_n hx hb dX1_toldOptions_35 rfl (lv_at hl9 4 rfl) ?_
            refine lv_iload hx hb dX1_toldOptions_36 (lv_at hl9 0 rfl) ?_
            refine hp_iald B0 hw h18 (vin6j hj) dX1_toldOptions_38 ?_
            refine hp_c (v := (gv j)) (congrArg gv (nI_clamp (by omega))) ?_
            refine hp_iast B0 hw hS h6 (vin6j hj) dX1_toldOptions_39 (fun H locs f23 ef23 hw hS => ?_)
            have e24 : f23 = va_up f q2 (some (.inl (cI G, 6, .inl (upd (toldN ga gv k j) ((nI j) : Int32).toNatClampNeg (gv j))))) := by rw [ef23, efq, bx_uu]
            have h25 : f23 q2 = some (.inl (cI G, 6, .inl (upd (toldN ga gv k j) ((nI j) : Int32).toNatClampNeg (gv j)))) := by rw [ef23, va_up_self]
            refine lv_iload_n hx hb dX1_toldOptions_40 rfl (lv_at hl9 3 rfl) ?_
            refine lv_iconst (v := 2) hx hb dX1_toldOptions_41 (by decide) ?_
            refine lv_icmp_ne (tgt := 68) hx hb dX1_toldOptions_42 (by decide) (fun _ => ?_) (fun c9 => absurd c9 (by rw [c7]; decide))
            refine lv_iinc (v := (nI (j + 1))) (lv' := [(4, .int (nI (j + 1))), (3, .ref q2), (0, .ref en), (1, .int k), (2, .ref nv)]) hx hb dX1_toldOptions_68 hl9 (k := 0) rfl (nI_1 j) (by decide) rfl (fun ls hl9 => ?_)
            refine lv_goto (tgt := 7) hx hb dX1_toldOptions_71 (by decide) ?_
            exact ih _ _ H locs ls ⟨(by rw [e24, toldN_s (nI_clamp (by omega)) (by unfold tlF; rw [if_neg (fun h9 => absurd h9.1 (by rw [c7]; decide)), if_pos ⟨c7, c22⟩])]), rfl⟩ hw hS (lv_sub hl9 [0, 1, 2, 3, 4] rfl)
          · subst ev9
            refine W.eq (g2 := F0 m 29 ls [.int 0]) rfl ?_
            refine lv_if_eq (tgt := 40) hx hb dX1_toldOptions_29 (by decide) (fun _ => ?_) (fun c9 => absurd (by decide) c9)
            refine lv_iload_n hx hb dX1_toldOptions_40 rfl (lv_at hl9 3 rfl) ?_
            refine lv_iconst (v := 2) hx hb dX1_toldOptions_41 (by decide) ?_
            refine lv_icmp_ne (tgt := 68) hx hb dX1_toldOptions_42 (by decide) (fun _ => ?_) (fun c9 => absurd c9 (by rw [c7]; decide))
            refine lv_iinc (v := (nI (j + 1))) (lv' := [(4, .int (nI (j + 1))), (3, .ref q2), (0, .ref en), (1, .int k), (2, .ref nv)]) hx hb dX1_toldOptions_68 hl9 (k := 0) rfl (nI_1 j) (by decide) rfl (fun ls hl9 => ?_)
            refine lv_goto (tgt := 7) hx hb dX1_toldOptions_71 (by decide) ?_
            exact ih _ _ H locs ls ⟨(by rw [← toldN_k hj (by unfold tlF; rw [if_neg (fun h9 => absurd h9.1 (by rw [c7]; decide)), if_neg (fun h9 => c22 h9.2)])]; exact efq), rfl⟩ hw hS (lv_sub hl9 [0, 1, 2, 3, 4] rfl)
    · obtain ⟨efq, el9⟩ := hI
      rw [el9] at hl9
      have h26 : f9 q2 = some (.inl (cI G, 6, .inl (toldN ga gv k 6))) := by rw [efq, va_up_self]
      refine lv_iload hx hb dX1_toldOptions_7 (lv_at hl9 0 rfl) ?_
      refine lv_bipush (v := 6) hx hb dX1_toldOptions_9 (by decide) ?_
      refine lv_icmp_ge (tgt := 74) hx hb dX1_toldOptions_11 (by decide) (fun _ => ?_) (fun c9 => absurd (by decide) c9)
      refine lv_aload_n hx hb dX1_toldOptions_74 rfl (lv_at hl9 1 rfl) ?_
      exact hp_aret (v := .ref q2) B0 hw hS hr (Or.inr ⟨_, rfl⟩) (Or.inr ⟨_, rfl⟩) ⟨Nat.le_of_ble_eq_true rfl, Nat.le_of_ble_eq_true rfl⟩ dX1_toldOptions_75 (⟨q2, rfl, w3, efq⟩)

set_option maxHeartbeats 4000000 in
set_option maxRecDepth 100000 in
theorem c_X1_answerX {l : Launch} (hl : l.stackTraces = false) (G : hG) (f : hM) (en nw na nq nr : Nat) (st li sr tm lp mi ix : Int32) (gq : Nat → Int32) (L : List Fr) (Q : List (Nat × Nat)) (hE : EX G f en nw na nq nr (st, li, sr, tm, lp, mi, ix, gq, L) Q) (hn : Q.length < 4000) (ga : Nat → Int32) (k_na : f na = some (.inl (cI G, 6, .inl ga))) (haq : na ≠ nq) (fr u : Nat) (rk ri rx : Int32) (rv : Nat → Int32) (nx : Value) (k_fr : f fr = some (.inr (2, [.int rk, .int ri, .int (mgF (rk, ri, rx, rv)), .ref u, nx]))) (k_u : f u = some (.inl (cI G, 6, .inl rv))) (hfQ : fr ∉ ws Q) (huq : u ≠ nq) : CT l yX1_answer (.code yX1_answer cX1_answer 3 none) 3 68 2 11 G [.ref en, .ref fr] f (fun v f1 => v = none ∧ XP G f f1 en nw na nq nr Q (ansS ga (rk, ri, rx, rv) (st, li, sr, tm, lp, mi, ix, gq, L))) (fun E f1 => False) := by
  refine hp_start hl (own := RX1) (by decide) rfl (Nat.le_of_ble_eq_true rfl) ?_
  intro p e s m args below meth c B0 hr hnm hout hw hS ls hl9
  have hx := B0.1
  have hb := B0.2.1
  have hl9 : lv_has ls 3 [(0, .ref en), (1, .ref fr)] := hl9
  have ke1 : f en = some (.inr (1, [.ref nw, .ref na, .ref nq, .ref nr, .int (num ix), .int st, .int tm, .int sr, .int li, .int lp, .int mi])) := (hE).1
  have kq2 : f nq = some (.inl (cI G, 6, .inl gq)) := (hE).2.1
  obtain ⟨hd4, kr3, hc5⟩ := (hE).2.2.1
  refine lv_aload_n hx hb dX1_answer_0 rfl (lv_at hl9 0 rfl) ?_
  refine lv_aload_n hx hb dX1_answer_1 rfl (lv_at hl9 1 rfl) ?_
  refine hp_get B0 hw 2 rfl in_X2 k_fr 3 (by decide) qF_X1_92 rfl dX1_answer_2 ?_
  refine hp_V (ci := 1) (As := [.ref u]) (rest := []) B0 hw hS (c_X1_kindX hl G f en nw na nq nr (num ix) st tm sr li lp mi ga ke1 k_na u rv k_u) mV_X1_kindOfAnswer qM_X1_109 rfl ke1 rfl rfl hl9.1 (Nat.le_of_ble_eq_true rfl) ⟨⟨Nat.le_of_ble_eq_true rfl, Nat.le_of_ble_eq_true rfl⟩, Nat.le_of_ble_eq_true rfl, Nat.le_of_ble_eq_true rfl⟩ dX1_answer_5 (fun E ce q9 f6 H locs hPX hw hS hce hcv hcl => ?_) (fun v f6 H locs hP hw hS => ?_)
  · exact hPX.elim
  · obtain ⟨ef9, ev9⟩ := hP
    rw [ef9] at hw
    subst ev9
    refine W.eq (g2 := F0 m 8 ls [.int (kindF ga rv)]) rfl ?_
    refine lv_istore_n (lv' := [(2, .int (kindF ga rv)), (0, .ref en), (1, .ref fr)]) hx hb dX1_answer_8 rfl hl9 (by decide) rfl (fun ls hl9 => ?_)
    refine lv_aload_n hx hb dX1_answer_9 rfl (lv_at hl9 1 rfl) ?_
    refine hp_get B0 hw 1 rfl in_X1 ke1 3 (by decide) qF_X1_24 rfl dX1_answer_10 ?_
    refine hp_new (fs := [.int 0, .int 0, .int 0, .null, .null]) B0 hw hS 2 rfl in_X2 tyX2 tyX2_ok qC_X1_71 qI_X2 qN_X2 (fun j hj => by rcases (show j = 0 ∨ j = 1 ∨ j = 2 ∨ j = 3 ∨ j = 4 by omega) with rfl | rfl | rfl | rfl | rfl <;> rfl) (Nat.le_of_ble_eq_true rfl) (Nat.le_of_ble_eq_true rfl) dX1_answer_13 (fun q7 H f9 w8 ef9 hw hS => ?_)
    have h10 : f9 q7 = some (.inr (2, [.int 0, .int 0, .int 0, .null, .null])) := by rw [ef9, va_up_self]
    refine lv_dup hx hb dX1_answer_16 rfl ?_
    refine lv_iload_n hx hb dX1_answer_17 rfl (lv_at hl9 0 rfl) ?_
    refine lv_aload_n hx hb dX1_answer_18 rfl (lv_at hl9 2 rfl) ?_
    have h11 : f9 fr = some (.inr (2, [.int rk, .int ri, .int (mgF (rk, ri, rx, rv)), .ref u, nx])) := by rw [ef9, va_up_ne _ _ (hnew k_fr w8)]; exact k_fr
    refine hp_get B0 hw 2 rfl in_X2 h11 1 (by decide) qF_X1_86 rfl dX1_answer_19 ?_
    refine lv_iconst (v := 0) hx hb dX1_answer_22 (by decide) ?_
    refine lv_aload_n hx hb dX1_answer_23 rfl (lv_at hl9 1 rfl) ?_
    refine lv_iload_n hx hb dX1_answer_24 rfl (lv_at hl9 0 rfl) ?_
    refine lv_aload_n hx hb dX1_answer_25 rfl (lv_at hl9 2 rfl) ?_
    refine hp_get B0 hw 2 rfl in_X2 h11 3 (by decide) qF_X1_92 rfl dX1_answer_26 ?_
    have h12 : f9 u = some (.inl (cI G, 6, .inl rv)) := by rw [ef9, va_up_ne _ _ (hnew k_u w8)]; exact k_u
    have h13 : f9 en = some (.inr (1, [.ref nw, .ref na, .ref nq, .ref nr, .int (num ix), .int st, .int tm, .int sr, .int li, .int lp, .int mi])) := by rw [ef9, va_up_ne _ _ (hnew ke1 w8)]; exact ke1
    have h14 : f9 na = some (.inl (cI G, 6, .inl ga)) := by rw [ef9, va_up_ne _ _ (hnew k_na w8)]; exact k_na
    refine hp_V (ci := 1) (As := [.int (kindF ga rv), .ref u]) (rest := [.int 0, .int ri, .int (kindF ga rv), .ref q7, .ref q7, .ref nr]) B0 hw hS (c_X1_toldX hl G f9 en nw na nq nr (num ix) st tm sr li lp mi ga h13 h14 u rv h12 (kindF ga rv)) mV_X1_toldOptions qM_X1_113 rfl h13 rfl rfl hl9.1 (Nat.le_of_ble_eq_true rfl) ⟨⟨Nat.le_of_ble_eq_true rfl, Nat.le_of_ble_eq_true rfl⟩, Nat.le_of_ble_eq_true rfl, Nat.le_of_ble_eq_true rfl⟩ dX1_answer_29 (fun E ce q9 f15 H locs hPX hw hS hce hcv hcl => ?_) (fun v f15 H locs hP hw hS => ?_)
    · exact hPX.elim
    · obtain ⟨q16, ev9, w17, e18⟩ := hP
      subst ev9
      have h19 : f15 q16 = some (.inl (cI G, 6, .inl (toldF ga rv (kindF ga rv)))) := by rw [e18, va_up_self]
      refine W.eq (g2 := F0 m 32 ls [.ref q16, .int 0, .int ri, .int (kindF ga rv), .ref q7, .ref q7, .ref nr]) rfl ?_
      have h20 : f15 q7 = some (.inr (2, [.int 0, .int 0, .int 0, .null, .null])) := by rw [e18, va_up_ne _ _ (hnew h10 w17)]; exact h10
      refine hp_I (As := [.int (kindF ga rv), .int ri, .int 0, .ref q16]) (rest := [.ref q7, .ref nr]) (b := q7) B0 hw hS (c_X2_initE hl G f15 q7 q16 (kindF ga rv) ri 0 h20) mI_X2_init qM_X1_99 rfl rfl hl9.1 (Nat.le_of_ble_eq_true rfl) ⟨⟨Nat.le_of_ble_eq_true rfl, Nat.le_of_ble_eq_true rfl⟩, Nat.le_of_ble_eq_true rfl, Nat.le_of_ble_eq_true rfl⟩ dX1_answer_32 (fun E ce q9 f21 H locs hPX hw hS hce hcv hcl => ?_) (fun v f21 H locs hP hw hS => ?_)
      · exact hPX.elim
      · obtain ⟨ev9, e22⟩ := hP
        subst ev9
        have h23 : f21 q7 = some (.inr (2, [.int (kindF ga rv), .int ri, .int 0, .ref q16, .null])) := by rw [e22, va_up_self]
        refine W.eq (g2 := F0 m 35 ls [.ref q7, .ref nr]) rfl ?_
        have n25 : q7 ≠ q16 := hnew h10 w17
        have h24 : f21 q16 = some (.inl (cI G, 6, .inl (toldF ga rv (kindF ga rv)))) := by rw [e22, va_up_ne _ _ (Ne.symm n25)]; exact h19
        have h26 : f9 nr = some (.inr (3, [hd4, (lastV Q), .int (nI (Q).length)])) := by rw [ef9, va_up_ne _ _ (hnew kr3 w8)]; exact kr3
        have h27 : f15 nr = some (.inr (3, [hd4, (lastV Q), .int (nI (Q).length)])) := by rw [e18, va_up_ne _ _ (hnew h26 w17)]; exact h26
        have n29 : nr ≠ q7 := hnew kr3 w8
        have h28 : f21 nr = some (.inr (3, [hd4, (lastV Q), .int (nI (Q).length)])) := by rw [e22, va_up_ne _ _ n29]; exact h27
        have k30 : f21 q7 = some (.inr (2, [.int (kindF ga rv), .int ri, .int (mgF (kindF ga rv, ri, ix, toldF ga rv (kindF ga rv))), .ref q16, .null])) := by rw [show mgF (kindF ga rv, ri, ix, toldF ga rv (kindF ga rv)) = 0 from if_neg (kindF_ne0 ga rv)]; exact h23
        have hN31 : ∀ c9 ∈ [(q7, q16)], f c9.1 = none ∧ f c9.2 = none := fun c9 hc9 => by rw [List.mem_singleton.mp hc9]; exact ⟨((fun _ h9 => h9) _ w8), ((hK2.trn w8 (show hK2 [q7] [] f f9 from (by rw [ef9]; exact hK2.new w8))).1 _ w17)⟩
        refine hp_V (ci := 3) (As := [.ref q7]) (rest := []) B0 hw hS (c_X3_putX hl G f21 nr q7 q16 (kindF ga rv, ri, ix, toldF ga rv (kindF ga rv)) Q L ⟨_, h28, (CH.kp (hK2.trn w8 ((show hK2 [q7, en, nq, nr] [] f f9 from (by rw [ef9]; exact hK2.new w8)).tr (hK2.trn w17 ((show hK2 [q16, q7, en, nq, nr] [] f9 f15 from (by rw [e18]; exact hK2.new w17)).tr (show hK2 [q16, q7, en, nq, nr] [] f15 f21 from (by rw [e22]; exact hK2.up (List.mem_cons_of_mem _ List.mem_cons_self))))))) hc5 (EX.cu (hE)) (EX.sf (hE)))⟩ k30 h24 (CH.fresh hc5 (hN31 (q7, q16) (List.mem_singleton.mpr rfl)).1) (hE).2.2.2.1 (Nat.lt_trans hn (by decide))) mV_X3_put qM_X1_102 rfl h28 rfl rfl hl9.1 (Nat.le_of_ble_eq_true rfl) ⟨⟨Nat.le_of_ble_eq_true rfl, Nat.le_of_ble_eq_true rfl⟩, Nat.le_of_ble_eq_true rfl, Nat.le_of_ble_eq_true rfl⟩ dX1_answer_35 (fun E ce q9 f32 H locs hPX hw hS hce hcv hcl => ?_) (fun v f32 H locs hP hw hS => ?_)
        · exact hPX.elim
        · obtain ⟨ev9, hR33, k34⟩ := hP
          subst ev9
          have h35 : f15 en = some (.inr (1, [.ref nw, .ref na, .ref nq, .ref nr, .int (num ix), .int st, .int tm, .int sr, .int li, .int lp, .int mi])) := by rw [e18, va_up_ne _ _ (hnew h13 w17)]; exact h13
          have n37 : en ≠ q7 := hnew ke1 w8
          have h36 : f21 en = some (.inr (1, [.ref nw, .ref na, .ref nq, .ref nr, .int (num ix), .int st, .int tm, .int sr, .int li, .int lp, .int mi])) := by rw [e22, va_up_ne _ _ n37]; exact h35
          have h38 : f9 nq = some (.inl (cI G, 6, .inl gq)) := by rw [ef9, va_up_ne _ _ (hnew kq2 w8)]; exact kq2
          have h39 : f15 nq = some (.inl (cI G, 6, .inl gq)) := by rw [e18, va_up_ne _ _ (hnew h38 w17)]; exact h38
          have n41 : nq ≠ q7 := hnew kq2 w8
          have h40 : f21 nq = some (.inl (cI G, 6, .inl gq)) := by rw [e22, va_up_ne _ _ n41]; exact h39
          have n42 : en ≠ nr := hne ke1 kr3 (Nat.ne_of_beq_eq_false rfl)
          have h43 : f32 en = some (.inr (1, [.ref nw, .ref na, .ref nq, .ref nr, .int (num ix), .int st, .int tm, .int sr, .int li, .int lp, .int mi])) := k34.2 _ _ h36 (ninc n42 nin0) (fun t9 => absurd t9 (Nat.ne_of_beq_eq_false rfl))
          have n44 : nq ≠ nr := hne kq2 kr3 (Nat.ne_of_beq_eq_false rfl)
          have h45 : f32 nq = some (.inl (cI G, 6, .inl gq)) := k34.2 _ _ h40 (ninc n44 nin0) (fun t9 => absurd t9 (Nat.ne_of_beq_eq_false rfl))
          have hE46 : EX G f32 en nw na nq nr (st, li, sr, tm, lp, mi, ix, gq, (L ++ [(kindF ga rv, ri, ix, toldF ga rv (kindF ga rv))])) (Q ++ [(q7, q16)]) := ⟨h43, h45, hR33, nd_snoc (hE).2.2.2.1 (CH.fresh hc5 (hN31 (q7, q16) (List.mem_singleton.mpr rfl)).1), nuN (hE).2.2.2.2.1 kq2 hN31, (hE).2.2.2.2.2⟩
          have ke47 : f32 en = some (.inr (1, [.ref nw, .ref na, .ref nq, .ref nr, .int (num ix), .int st, .int tm, .int sr, .int li, .int lp, .int mi])) := (hE46).1
          have kq48 : f32 nq = some (.inl (cI G, 6, .inl gq)) := (hE46).2.1
          obtain ⟨hd50, kr49, hc51⟩ := (hE46).2.2.1
          refine W.eq (g2 := F0 m 38 ls []) rfl ?_
          refine lv_iload_n hx hb dX1_answer_38 rfl (lv_at hl9 0 rfl) ?_
          refine lv_iconst (v := 1) hx hb dX1_answer_39 (by decide) ?_
          refine lv_icmp_eq (tgt := 66) hx hb dX1_answer_40 (by decide) (fun c52 => ?_) (fun c52 => ?_)
          · refine lv_aload_n hx hb dX1_answer_66 rfl (lv_at hl9 1 rfl) ?_
            refine hp_get B0 hw 1 rfl in_X1 ke47 5 (by decide) qF_X1_28 rfl dX1_answer_67 ?_
            refine lv_iconst (v := 1) hx hb dX1_answer_70 (by decide) ?_
            refine lv_icmp_ne (tgt := 82) hx hb dX1_answer_71 (by decide) (fun c53 => ?_) (fun c53 => ?_)
            · refine lv_aload_n hx hb dX1_answer_82 rfl (lv_at hl9 1 rfl) ?_
              refine hp_get B0 hw 1 rfl in_X1 ke47 5 (by decide) qF_X1_28 rfl dX1_answer_83 ?_
              refine lv_iconst (v := 2) hx hb dX1_answer_86 (by decide) ?_
              refine lv_icmp_ne (tgt := 95) hx hb dX1_answer_87 (by decide) (fun c54 => ?_) (fun c54 => ?_)
              · exact hp_vret B0 hw hS hr ⟨Nat.le_of_ble_eq_true rfl, Nat.le_of_ble_eq_true rfl⟩ dX1_answer_95 (⟨rfl, ⟨_, hN31, (by rw [show ansS ga (rk, ri, rx, rv) (st, li, sr, tm, lp, mi, ix, gq, L) = (st, li, sr, tm, lp, mi, ix, gq, (L ++ [(kindF ga rv, ri, ix, toldF ga rv (kindF ga rv))])) from congrArg (fun z9 => addS (z9, li, sr, tm, lp, mi, ix, gq, L) (kindF ga rv, ri, ix, toldF ga rv (kindF ga rv))) (show ansT st (kindF ga rv) = st from ((if_pos c52).trans (if_neg c53)).trans (if_neg c54))]; exact (show EX G f32 en nw na nq nr (st, li, sr, tm, lp, mi, ix, gq, (L ++ [(kindF ga rv, ri, ix, toldF ga rv (kindF ga rv))])) (Q ++ [(q7, q16)]) from ⟨ke47, kq48, ⟨_, kr49, hc51⟩, (hE46).2.2.2.1, (hE46).2.2.2.2.1, (hE).2.2.2.2.2⟩)), (hK2.trn w8 ((show hK2 [q7, en, nq, nr] Q f f9 from (by rw [ef9]; exact hK2.new w8)).tr (hK2.trn w17 ((show hK2 [q16, q7, en, nq, nr] Q f9 f15 from (by rw [e18]; exact hK2.new w17)).tr ((show hK2 [q16, q7, en, nq, nr] Q f15 f21 from (by rw [e22]; exact hK2.up (List.mem_cons_of_mem _ List.mem_cons_self))).tr (show hK2 [q16, q7, en, nq, nr] Q f21 f32 from (k34.mono (sub_cons (List.mem_cons_of_mem _ (List.mem_cons_of_mem _ (List.mem_cons_of_mem _ (List.mem_cons_of_mem _ List.mem_cons_self)))) sub_nil))))))))⟩⟩)
              · refine lv_aload_n hx hb dX1_answer_90 rfl (lv_at hl9 1 rfl) ?_
                refine lv_iconst (v := 4) hx hb dX1_answer_91 (by decide) ?_
                refine hp_put (fs1 := [.ref nw, .ref na, .ref nq, .ref nr, .int (num ix), .int 4, .int tm, .int sr, .int li, .int lp, .int mi]) (ty := .int) B0 hw hS 1 rfl in_X1 tyX1 tyX1_ok nmX1 ke47 5 (by decide) qF_X1_28 rfl (by decide +kernel) rfl rfl (Nat.le_of_ble_eq_true rfl) rfl dX1_answer_92 (fun H locs f55 ef55 hw hS => ?_)
                have h56 : f55 en = some (.inr (1, [.ref nw, .ref na, .ref nq, .ref nr, .int (num ix), .int 4, .int tm, .int sr, .int li, .int lp, .int mi])) := by rw [ef55, va_up_self]
                have n58 : nq ≠ en := hne kq2 ke1 (Nat.ne_of_beq_eq_false rfl)
                have h57 : f55 nq = some (.inl (cI G, 6, .inl gq)) := by rw [ef55, va_up_ne _ _ n58]; exact kq48
                have h59 : f55 nr = some (.inr (3, [hd50, (lastV (Q ++ [(q7, q16)])), .int (nI ((Q ++ [(q7, q16)])).length)])) := by rw [ef55, va_up_ne _ _ (Ne.symm n42)]; exact kr49
                exact hp_vret B0 hw hS hr ⟨Nat.le_of_ble_eq_true rfl, Nat.le_of_ble_eq_true rfl⟩ dX1_answer_95 (⟨rfl, ⟨_, hN31, (by rw [show ansS ga (rk, ri, rx, rv) (st, li, sr, tm, lp, mi, ix, gq, L) = (4, li, sr, tm, lp, mi, ix, gq, (L ++ [(kindF ga rv, ri, ix, toldF ga rv (kindF ga rv))])) from congrArg (fun z9 => addS (z9, li, sr, tm, lp, mi, ix, gq, L) (kindF ga rv, ri, ix, toldF ga rv (kindF ga rv))) (show ansT st (kindF ga rv) = 4 from ((if_pos c52).trans (if_neg c53)).trans (if_pos c54))]; exact (show EX G f55 en nw na nq nr (4, li, sr, tm, lp, mi, ix, gq, (L ++ [(kindF ga rv, ri, ix, toldF ga rv (kindF ga rv))])) (Q ++ [(q7, q16)]) from ⟨h56, h57, ⟨_, h59, (CH.kp (show hK2 [en, nq, nr] [] f32 f55 from (by rw [ef55]; exact hK2.up List.mem_cons_self)) hc51 (EX.cu (hE46)) (EX.sf (hE46)))⟩, (hE46).2.2.2.1, (hE46).2.2.2.2.1, (hE).2.2.2.2.2⟩)), (hK2.trn w8 ((show hK2 [q7, en, nq, nr] Q f f9 from (by rw [ef9]; exact hK2.new w8)).tr (hK2.trn w17 ((show hK2 [q16, q7, en, nq, nr] Q f9 f15 from (by rw [e18]; exact hK2.new w17)).tr ((show hK2 [q16, q7, en, nq, nr] Q f15 f21 from (by rw [e22]; exact hK2.up (List.mem_cons_of_mem _ List.mem_cons_self))).tr ((show hK2 [q16, q7, en, nq, nr] Q f21 f32 from (k34.mono (sub_cons (List.mem_cons_of_mem _ (List.mem_cons_of_mem _ (List.mem_cons_of_mem _ (List.mem_cons_of_mem _ List.mem_cons_self)))) sub_nil))).trq (show hK2 [q16, q7, en, nq, nr] (Q ++ [(q7, q16)]) f32 f55 from (by rw [ef55]; exact hK2.up (List.mem_cons_of_mem _ (List.mem_cons_of_mem _ List.mem_cons_self)))) (fun c9 h9 => (hN31 c9 h9).1)))))))⟩⟩)
            · refine lv_aload_n hx hb dX1_answer_74 rfl (lv_at hl9 1 rfl) ?_
              refine lv_iconst (v := 3) hx hb dX1_answer_75 (by decide) ?_
              refine hp_put (fs1 := [.ref nw, .ref na, .ref nq, .ref nr, .int (num ix), .int 3, .int tm, .int sr, .int li, .int lp, .int mi]) (ty := .int) B0 hw hS 1 rfl in_X1 tyX1 tyX1_ok nmX1 ke47 5 (by decide) qF_X1_28 rfl (by decide +kernel) rfl rfl (Nat.le_of_ble_eq_true rfl) rfl dX1_answer_76 (fun H locs f60 ef60 hw hS => ?_)
              have h61 : f60 en = some (.inr (1, [.ref nw, .ref na, .ref nq, .ref nr, .int (num ix), .int 3, .int tm, .int sr, .int li, .int lp, .int mi])) := by rw [ef60, va_up_self]
              refine lv_goto (tgt := 95) hx hb dX1_answer_79 (by decide) ?_
              have n63 : nq ≠ en := hne kq2 ke1 (Nat.ne_of_beq_eq_false rfl)
              have h62 : f60 nq = some (.inl (cI G, 6, .inl gq)) := by rw [ef60, va_up_ne _ _ n63]; exact kq48
              have h64 : f60 nr = some (.inr (3, [hd50, (lastV (Q ++ [(q7, q16)])), .int (nI ((Q ++ [(q7, q16)])).length)])) := by rw [ef60, va_up_ne _ _ (Ne.symm n42)]; exact kr49
              exact hp_vret B0 hw hS hr ⟨Nat.le_of_ble_eq_true rfl, Nat.le_of_ble_eq_true rfl⟩ dX1_answer_95 (⟨rfl, ⟨_, hN31, (by rw [show ansS ga (rk, ri, rx, rv) (st, li, sr, tm, lp, mi, ix, gq, L) = (3, li, sr, tm, lp, mi, ix, gq, (L ++ [(kindF ga rv, ri, ix, toldF ga rv (kindF ga rv))])) from congrArg (fun z9 => addS (z9, li, sr, tm, lp, mi, ix, gq, L) (kindF ga rv, ri, ix, toldF ga rv (kindF ga rv))) (show ansT st (kindF ga rv) = 3 from (if_pos c52).trans (if_pos c53))]; exact (show EX G f60 en nw na nq nr (3, li, sr, tm, lp, mi, ix, gq, (L ++ [(kindF ga rv, ri, ix, toldF ga rv (kindF ga rv))])) (Q ++ [(q7, q16)]) from ⟨h61, h62, ⟨_, h64, (CH.kp (show hK2 [en, nq, nr] [] f32 f60 from (by rw [ef60]; exact hK2.up List.mem_cons_self)) hc51 (EX.cu (hE46)) (EX.sf (hE46)))⟩, (hE46).2.2.2.1, (hE46).2.2.2.2.1, (hE).2.2.2.2.2⟩)), (hK2.trn w8 ((show hK2 [q7, en, nq, nr] Q f f9 from (by rw [ef9]; exact hK2.new w8)).tr (hK2.trn w17 ((show hK2 [q16, q7, en, nq, nr] Q f9 f15 from (by rw [e18]; exact hK2.new w17)).tr ((show hK2 [q16, q7, en, nq, nr] Q f15 f21 from (by rw [e22]; exact hK2.up (List.mem_cons_of_mem _ List.mem_cons_self))).tr ((show hK2 [q16, q7, en, nq, nr] Q f21 f32 from (k34.mono (sub_cons (List.mem_cons_of_mem _ (List.mem_cons_of_mem _ (List.mem_cons_of_mem _ (List.mem_cons_of_mem _ List.mem_cons_self)))) sub_nil))).trq (show hK2 [q16, q7, en, nq, nr] (Q ++ [(q7, q16)]) f32 f60 from (by rw [ef60]; exact hK2.up (List.mem_cons_of_mem _ (List.mem_cons_of_mem _ List.mem_cons_self)))) (fun c9 h9 => (hN31 c9 h9).1)))))))⟩⟩)
          · refine lv_aload_n hx hb dX1_answer_43 rfl (lv_at hl9 1 rfl) ?_
            refine lv_aload_n hx hb dX1_answer_44 rfl (lv_at hl9 1 rfl) ?_
            refine hp_get B0 hw 1 rfl in_X1 ke47 5 (by decide) qF_X1_28 rfl dX1_answer_45 ?_
            refine lv_iconst (v := 3) hx hb dX1_answer_48 (by decide) ?_
            refine lv_icmp_ne (tgt := 56) hx hb dX1_answer_49 (by decide) (fun c65 => ?_) (fun c65 => ?_)
            · refine lv_aload_n hx hb dX1_answer_56 rfl (lv_at hl9 1 rfl) ?_
              refine hp_get B0 hw 1 rfl in_X1 ke47 5 (by decide) qF_X1_28 rfl dX1_answer_57 ?_
              refine hp_put (fs1 := [.ref nw, .ref na, .ref nq, .ref nr, .int (num ix), .int st, .int tm, .int sr, .int li, .int lp, .int mi]) (ty := .int) B0 hw hS 1 rfl in_X1 tyX1 tyX1_ok nmX1 ke47 5 (by decide) qF_X1_28 rfl (by decide +kernel) rfl rfl (Nat.le_of_ble_eq_true rfl) rfl dX1_answer_60 (fun H locs f66 ef66 hw hS => ?_)
              have h67 : f66 en = some (.inr (1, [.ref nw, .ref na, .ref nq, .ref nr, .int (num ix), .int st, .int tm, .int sr, .int li, .int lp, .int mi])) := by rw [ef66, va_up_self]
              refine lv_goto (tgt := 95) hx hb dX1_answer_63 (by decide) ?_
              have n69 : nq ≠ en := hne kq2 ke1 (Nat.ne_of_beq_eq_false rfl)
              have h68 : f66 nq = some (.inl (cI G, 6, .inl gq)) := by rw [ef66, va_up_ne _ _ n69]; exact kq48
              have h70 : f66 nr = some (.inr (3, [hd50, (lastV (Q ++ [(q7, q16)])), .int (nI ((Q ++ [(q7, q16)])).length)])) := by rw [ef66, va_up_ne _ _ (Ne.symm n42)]; exact kr49
              exact hp_vret B0 hw hS hr ⟨Nat.le_of_ble_eq_true rfl, Nat.le_of_ble_eq_true rfl⟩ dX1_answer_95 (⟨rfl, ⟨_, hN31, (by rw [show ansS ga (rk, ri, rx, rv) (st, li, sr, tm, lp, mi, ix, gq, L) = (st, li, sr, tm, lp, mi, ix, gq, (L ++ [(kindF ga rv, ri, ix, toldF ga rv (kindF ga rv))])) from congrArg (fun z9 => addS (z9, li, sr, tm, lp, mi, ix, gq, L) (kindF ga rv, ri, ix, toldF ga rv (kindF ga rv))) (show ansT st (kindF ga rv) = st from (if_neg c52).trans (if_neg c65))]; exact (show EX G f66 en nw na nq nr (st, li, sr, tm, lp, mi, ix, gq, (L ++ [(kindF ga rv, ri, ix, toldF ga rv (kindF ga rv))])) (Q ++ [(q7, q16)]) from ⟨h67, h68, ⟨_, h70, (CH.kp (show hK2 [en, nq, nr] [] f32 f66 from (by rw [ef66]; exact hK2.up List.mem_cons_self)) hc51 (EX.cu (hE46)) (EX.sf (hE46)))⟩, (hE46).2.2.2.1, (hE46).2.2.2.2.1, (hE).2.2.2.2.2⟩)), (hK2.trn w8 ((show hK2 [q7, en, nq, nr] Q f f9 from (by rw [ef9]; exact hK2.new w8)).tr (hK2.trn w17 ((show hK2 [q16, q7, en, nq, nr] Q f9 f15 from (by rw [e18]; exact hK2.new w17)).tr ((show hK2 [q16, q7, en, nq, nr] Q f15 f21 from (by rw [e22]; exact hK2.up (List.mem_cons_of_mem _ List.mem_cons_self))).tr ((show hK2 [q16, q7, en, nq, nr] Q f21 f32 from (k34.mono (sub_cons (List.mem_cons_of_mem _ (List.mem_cons_of_mem _ (List.mem_cons_of_mem _ (List.mem_cons_of_mem _ List.mem_cons_self)))) sub_nil))).trq (show hK2 [q16, q7, en, nq, nr] (Q ++ [(q7, q16)]) f32 f66 from (by rw [ef66]; exact hK2.up (List.mem_cons_of_mem _ (List.mem_cons_of_mem _ List.mem_cons_self)))) (fun c9 h9 => (hN31 c9 h9).1)))))))⟩⟩)
            · refine lv_iconst (v := 1) hx hb dX1_answer_52 (by decide) ?_
              refine lv_goto (tgt := 60) hx hb dX1_answer_53 (by decide) ?_
              refine hp_put (fs1 := [.ref nw, .ref na, .ref nq, .ref nr, .int (num ix), .int 1, .int tm, .int sr, .int li, .int lp, .int mi]) (ty := .int) B0 hw hS 1 rfl in_X1 tyX1 tyX1_ok nmX1 ke47 5 (by decide) qF_X1_28 rfl (by decide +kernel) rfl rfl (Nat.le_of_ble_eq_true rfl) rfl dX1_answer_60 (fun H locs f71 ef71 hw hS => ?_)
              have h72 : f71 en = some (.inr (1, [.ref nw, .ref na, .ref nq, .ref nr, .int (num ix), .int 1, .int tm, .int sr, .int li, .int lp, .int mi])) := by rw [ef71, va_up_self]
              refine lv_goto (tgt := 95) hx hb dX1_answer_63 (by decide) ?_
              have n74 : nq ≠ en := hne kq2 ke1 (Nat.ne_of_beq_eq_false rfl)
              have h73 : f71 nq = some (.inl (cI G, 6, .inl gq)) := by rw [ef71, va_up_ne _ _ n74]; exact kq48
              have h75 : f71 nr = some (.inr (3, [hd50, (lastV (Q ++ [(q7, q16)])), .int (nI ((Q ++ [(q7, q16)])).length)])) := by rw [ef71, va_up_ne _ _ (Ne.symm n42)]; exact kr49
              exact hp_vret B0 hw hS hr ⟨Nat.le_of_ble_eq_true rfl, Nat.le_of_ble_eq_true rfl⟩ dX1_answer_95 (⟨rfl, ⟨_, hN31, (by rw [show ansS ga (rk, ri, rx, rv) (st, li, sr, tm, lp, mi, ix, gq, L) = (1, li, sr, tm, lp, mi, ix, gq, (L ++ [(kindF ga rv, ri, ix, toldF ga rv (kindF ga rv))])) from congrArg (fun z9 => addS (z9, li, sr, tm, lp, mi, ix, gq, L) (kindF ga rv, ri, ix, toldF ga rv (kindF ga rv))) (show ansT st (kindF ga rv) = 1 from (if_neg c52).trans (if_pos c65))]; exact (show EX G f71 en nw na nq nr (1, li, sr, tm, lp, mi, ix, gq, (L ++ [(kindF ga rv, ri, ix, toldF ga rv (kindF ga rv))])) (Q ++ [(q7, q16)]) from ⟨h72, h73, ⟨_, h75, (CH.kp (show hK2 [en, nq, nr] [] f32 f71 from (by rw [ef71]; exact hK2.up List.mem_cons_self)) hc51 (EX.cu (hE46)) (EX.sf (hE46)))⟩, (hE46).2.2.2.1, (hE46).2.2.2.2.1, (hE).2.2.2.2.2⟩)), (hK2.trn w8 ((show hK2 [q7, en, nq, nr] Q f f9 from (by rw [ef9]; exact hK2.new w8)).tr (hK2.trn w17 ((show hK2 [q16, q7, en, nq, nr] Q f9 f15 from (by rw [e18]; exact hK2.new w17)).tr ((show hK2 [q16, q7, en, nq, nr] Q f15 f21 from (by rw [e22]; exact hK2.up (List.mem_cons_of_mem _ List.mem_cons_self))).tr ((show hK2 [q16, q7, en, nq, nr] Q f21 f32 from (k34.mono (sub_cons (List.mem_cons_of_mem _ (List.mem_cons_of_mem _ (List.mem_cons_of_mem _ (List.mem_cons_of_mem _ List.mem_cons_self)))) sub_nil))).trq (show hK2 [q16, q7, en, nq, nr] (Q ++ [(q7, q16)]) f32 f71 from (by rw [ef71]; exact hK2.up (List.mem_cons_of_mem _ (List.mem_cons_of_mem _ List.mem_cons_self)))) (fun c9 h9 => (hN31 c9 h9).1)))))))⟩⟩)

set_option maxHeartbeats 4000000 in
set_option maxRecDepth 100000 in
theorem c_X1_chgX {l : Launch} (hl : l.stackTraces = false) (G : hG) (f : hM) (en nw na nq nr : Nat) (mg st tm sr li lp mi : Int32) (gq : Nat → Int32) (k_en : f en = some (.inr (1, [.ref nw, .ref na, .ref nq, .ref nr, .int mg, .int st, .int tm, .int sr, .int li, .int lp, .int mi]))) (k_nq : f nq = some (.inl (cI G, 6, .inl gq))) (fr u : Nat) (rk ri x3 : Int32) (bh : Value) (rv : Nat → Int32) (k_fr : f fr = some (.inr (2, [.int rk, .int ri, .int x3, .ref u, bh]))) (k_u : f u = some (.inl (cI G, 6, .inl rv))) (huq : u ≠ nq) : CT l yX1_changeAskedFor (.code yX1_changeAskedFor cX1_changeAskedFor 3 none) 0 0 0 0 G [.ref en, .ref fr] f (fun v f1 => v = none ∧ f1 = va_up f nq (some (.inl (cI G, 6, .inl (chgF gq rv rk))))) (fun E f1 => False) := by
  refine hp_start hl (own := RX1) (by decide) rfl (Nat.le_of_ble_eq_true rfl) ?_
  intro p e s m args below meth c B0 hr hnm hout hw hS ls hl9
  have hx := B0.1
  have hb := B0.2.1
  have hl9 : lv_has ls 3 [(0, .ref en), (1, .ref fr)] := hl9
  refine lv_iconst (v := 0) hx hb dX1_changeAskedFor_0 (by decide) ?_
  refine lv_istore_n (lv' := [(2, .int 0), (0, .ref en), (1, .ref fr)]) hx hb dX1_changeAskedFor_1 rfl hl9 (by decide) rfl (fun ls hl9 => ?_)
  refine hp_for (nL := 3) (pc := 2) (fun j f9 lv9 => f9 = va_up f nq (some (.inl (cI G, 6, .inl (chgN gq rv rk j)))) ∧ lv9 = [(2, .int (nI j)), (0, .ref en), (1, .ref fr)]) 6 (fun j f9 lv9 H locs ls hj hI hw hS hl9 ih => ?_) (fun f9 lv9 H locs ls hI hw hS hl9 => ?_) 6 0 (by decide) f _ _ _ ls ⟨va_up_id (by rw [chgN_0]; exact k_nq), rfl⟩ hw hS (lv_sub hl9 [0, 1, 2] rfl)
  · obtain ⟨ef9, el9⟩ := hI
    rw [el9] at hl9
    have h1 : f9 nq = some (.inl (cI G, 6, .inl (chgN gq rv rk j))) := by rw [ef9, va_up_self]
    refine lv_iload_n hx hb dX1_changeAskedFor_2 rfl (lv_at hl9 0 rfl) ?_
    refine lv_bipush (v := 6) hx hb dX1_changeAskedFor_3 (by decide) ?_
    refine lv_icmp_ge (tgt := 48) hx hb dX1_changeAskedFor_5 (by decide) (fun c9 => absurd c9 (by rw [show (6 : Int32) = nI 6 from rfl]; exact nI_ge hj (by omega))) (fun _ => ?_)
    refine lv_aload_n hx hb dX1_changeAskedFor_8 rfl (lv_at hl9 2 rfl) ?_
    have n3 : fr ≠ nq := hne k_fr k_nq (Nat.ne_of_beq_eq_false rfl)
    have h2 : f9 fr = some (.inr (2, [.int rk, .int ri, .int x3, .ref u, bh])) := by rw [ef9, va_up_ne _ _ n3]; exact k_fr
    refine hp_get B0 hw 2 rfl in_X2 h2 3 (by decide) qF_X1_92 rfl dX1_changeAskedFor_9 ?_
    refine lv_iload_n hx hb dX1_changeAskedFor_12 rfl (lv_at hl9 0 rfl) ?_
    have h4 : f9 u = some (.inl (cI G, 6, .inl rv)) := by rw [ef9, va_up_ne _ _ huq]; exact k_u
    refine hp_iald B0 hw h4 (vin6j hj) dX1_changeAskedFor_13 ?_
    refine hp_c (v := (rv j)) (congrArg rv (nI_clamp (by omega))) ?_
    refine lv_iconst (v := (-1)) hx hb dX1_changeAskedFor_14 (by decide) ?_
    refine lv_icmp_eq (tgt := 42) hx hb dX1_changeAskedFor_15 (by decide) (fun c5 => ?_) (fun c5 => ?_)
    · refine lv_iinc (v := (nI (j + 1))) (lv' := [(2, .int (nI (j + 1))), (0, .ref en), (1, .ref fr)]) hx hb dX1_changeAskedFor_42 hl9 (k := 0) rfl (nI_1 j) (by decide) rfl (fun ls hl9 => ?_)
      refine lv_goto (tgt := 2) hx hb dX1_changeAskedFor_45 (by decide) ?_
      exact ih _ _ H locs ls ⟨(by rw [← chgN_k c5]; exact ef9), rfl⟩ hw hS (lv_sub hl9 [0, 1, 2] rfl)
    · refine lv_aload_n hx hb dX1_changeAskedFor_18 rfl (lv_at hl9 1 rfl) ?_
      have n7 : en ≠ nq := hne k_en k_nq (Nat.ne_of_beq_eq_false rfl)
      have h6 : f9 en = some (.inr (1, [.ref nw, .ref na, .ref nq, .ref nr, .int mg, .int st, .int tm, .int sr, .int li, .int lp, .int mi])) := by rw [ef9, va_up_ne _ _ n7]; exact k_en
      refine hp_get B0 hw 1 rfl in_X1 h6 2 (by decide) qF_X1_18 rfl dX1_changeAskedFor_19 ?_
      refine lv_iload_n hx hb dX1_changeAskedFor_22 rfl (lv_at hl9 0 rfl) ?_
      refine lv_aload_n hx hb dX1_changeAskedFor_23 rfl (lv_at hl9 2 rfl) ?_
      refine hp_get B0 hw 2 rfl in_X2 h2 0 (by decide) qF_X1_70 rfl dX1_changeAskedFor_24 ?_
      refine lv_iconst (v := 2) hx hb dX1_changeAskedFor_27 (by decide) ?_
      refine lv_icmp_ne (tgt := 40) hx hb dX1_changeAskedFor_28 (by decide) (fun c8 => ?_) (fun c8 => ?_)
      · refine lv_iconst (v := (-1)) hx hb dX1_changeAskedFor_40 (by decide) ?_
        refine hp_iast B0 hw hS h1 (vin6j hj) dX1_changeAskedFor_41 (fun H locs f9 ef9 hw hS => ?_)
        have e10 : f9 = va_up f nq (some (.inl (cI G, 6, .inl (upd (chgN gq rv rk j) ((nI j) : Int32).toNatClampNeg (-1))))) := by rw [ef9, ef9, bx_uu]
        have h11 : f9 nq = some (.inl (cI G, 6, .inl (upd (chgN gq rv rk j) ((nI j) : Int32).toNatClampNeg (-1)))) := by rw [ef9, va_up_self]
        refine lv_iinc (v := (nI (j + 1))) (lv' := [(2, .int (nI (j + 1))), (0, .ref en), (1, .ref fr)]) hx hb dX1_changeAskedFor_42 hl9 (k := 0) rfl (nI_1 j) (by decide) rfl (fun ls hl9 => ?_)
        refine lv_goto (tgt := 2) hx hb dX1_changeAskedFor_45 (by decide) ?_
        exact ih _ _ H locs ls ⟨(by rw [e10, chgN_s (nI_clamp (by omega)) c5 (if_neg c8)]), rfl⟩ hw hS (lv_sub hl9 [0, 1, 2] rfl)
      · refine lv_aload_n hx hb dX1_changeAskedFor_31 rfl (lv_at hl9 2 rfl) ?_
        refine hp_get B0 hw 2 rfl in_X2 h2 3 (by decide) qF_X1_92 rfl dX1_changeAskedFor_32 ?_
        refine lv_iload_n hx hb dX1_changeAskedFor_35 rfl (lv_at hl9 0 rfl) ?_
        refine hp_iald B0 hw h4 (vin6j hj) dX1_changeAskedFor_36 ?_
        refine hp_c (v := (rv j)) (congrArg rv (nI_clamp (by omega))) ?_
        refine lv_goto (tgt := 41) hx hb dX1_changeAskedFor_37 (by decide) ?_
        refine hp_iast B0 hw hS h1 (vin6j hj) dX1_changeAskedFor_41 (fun H locs f12 ef12 hw hS => ?_)
        have e13 : f12 = va_up f nq (some (.inl (cI G, 6, .inl (upd (chgN gq rv rk j) ((nI j) : Int32).toNatClampNeg (rv j))))) := by rw [ef12, ef9, bx_uu]
        have h14 : f12 nq = some (.inl (cI G, 6, .inl (upd (chgN gq rv rk j) ((nI j) : Int32).toNatClampNeg (rv j)))) := by rw [ef12, va_up_self]
        refine lv_iinc (v := (nI (j + 1))) (lv' := [(2, .int (nI (j + 1))), (0, .ref en), (1, .ref fr)]) hx hb dX1_changeAskedFor_42 hl9 (k := 0) rfl (nI_1 j) (by decide) rfl (fun ls hl9 => ?_)
        refine lv_goto (tgt := 2) hx hb dX1_changeAskedFor_45 (by decide) ?_
        exact ih _ _ H locs ls ⟨(by rw [e13, chgN_s (nI_clamp (by omega)) c5 (if_pos c8)]), rfl⟩ hw hS (lv_sub hl9 [0, 1, 2] rfl)
  · obtain ⟨ef9, el9⟩ := hI
    rw [el9] at hl9
    have h15 : f9 nq = some (.inl (cI G, 6, .inl (chgN gq rv rk 6))) := by rw [ef9, va_up_self]
    refine lv_iload_n hx hb dX1_changeAskedFor_2 rfl (lv_at hl9 0 rfl) ?_
    refine lv_bipush (v := 6) hx hb dX1_changeAskedFor_3 (by decide) ?_
    refine lv_icmp_ge (tgt := 48) hx hb dX1_changeAskedFor_5 (by decide) (fun _ => ?_) (fun c9 => absurd (by decide) c9)
    exact hp_vret B0 hw hS hr ⟨Nat.le_of_ble_eq_true rfl, Nat.le_of_ble_eq_true rfl⟩ dX1_changeAskedFor_48 (⟨rfl, ef9⟩)

set_option maxHeartbeats 4000000 in
set_option maxRecDepth 100000 in
theorem c_X1_hearQX {l : Launch} (hl : l.stackTraces = false) (G : hG) (f : hM) (en nw na nq nr : Nat) (st li sr tm lp mi ix : Int32) (gq : Nat → Int32) (L : List Fr) (Q : List (Nat × Nat)) (hE : EX G f en nw na nq nr (st, li, sr, tm, lp, mi, ix, gq, L) Q) (hn : Q.length < 3900) (ga : Nat → Int32) (k_na : f na = some (.inl (cI G, 6, .inl ga))) (haq : na ≠ nq) (fr u : Nat) (rk ri rx : Int32) (rv : Nat → Int32) (nx : Value) (k_fr : f fr = some (.inr (2, [.int rk, .int ri, .int (mgF (rk, ri, rx, rv)), .ref u, nx]))) (k_u : f u = some (.inl (cI G, 6, .inl rv))) (hfQ : fr ∉ ws Q) (huq : u ≠ nq) (hk0 : rk = 0) : CT l yX1_hearRequest (.code yX1_hearRequest cX1_hearRequest 2 none) 4 90 4 22 G [.ref en, .ref fr] f (fun v f1 => v = none ∧ XP G f f1 en nw na nq nr Q (hearQ ga (rk, ri, rx, rv) (st, li, sr, tm, lp, mi, ix, gq, L))) (fun E f1 => False) := by
  refine hp_start hl (own := RX1) (by decide) rfl (Nat.le_of_ble_eq_true rfl) ?_
  intro p e s m args below meth c B0 hr hnm hout hw hS ls hl9
  have hx := B0.1
  have hb := B0.2.1
  have hl9 : lv_has ls 2 [(0, .ref en), (1, .ref fr)] := hl9
  have k_fr : f fr = some (.inr (2, [.int rk, .int ri, .int (num rx), .ref u, nx])) := by rw [← show mgF (rk, ri, rx, rv) = num rx from if_pos hk0]; exact k_fr
  have ke1 : f en = some (.inr (1, [.ref nw, .ref na, .ref nq, .ref nr, .int (num ix), .int st, .int tm, .int sr, .int li, .int lp, .int mi])) := (hE).1
  have kq2 : f nq = some (.inl (cI G, 6, .inl gq)) := (hE).2.1
  obtain ⟨hd4, kr3, hc5⟩ := (hE).2.2.1
  refine lv_aload_n hx hb dX1_hearRequest_0 rfl (lv_at hl9 0 rfl) ?_
  refine lv_aload_n hx hb dX1_hearRequest_1 rfl (lv_at hl9 1 rfl) ?_
  refine hp_get B0 hw 2 rfl in_X2 k_fr 2 (by decide) qF_X1_82 rfl dX1_hearRequest_2 ?_
  refine lv_aload_n hx hb dX1_hearRequest_5 rfl (lv_at hl9 0 rfl) ?_
  refine hp_get B0 hw 1 rfl in_X1 ke1 4 (by decide) qF_X1_48 rfl dX1_hearRequest_6 ?_
  refine lv_icmp_ne (tgt := 16) hx hb dX1_hearRequest_9 (by decide) (fun c6 => ?_) (fun c6 => ?_)
  · refine lv_iconst (v := 0) hx hb dX1_hearRequest_16 (by decide) ?_
    refine hp_put (fs1 := [.ref nw, .ref na, .ref nq, .ref nr, .int (num ix), .int st, .int tm, .int sr, .int li, .int 0, .int mi]) (ty := .boolean) B0 hw hS 1 rfl in_X1 tyX1 tyX1_ok nmX1 ke1 9 (by decide) qF_X1_41 rfl (by decide +kernel) rfl rfl (Nat.le_of_ble_eq_true rfl) rfl dX1_hearRequest_17 (fun H locs f7 ef7 hw hS => ?_)
    have h8 : f7 en = some (.inr (1, [.ref nw, .ref na, .ref nq, .ref nr, .int (num ix), .int st, .int tm, .int sr, .int li, .int 0, .int mi])) := by rw [ef7, va_up_self]
    refine lv_aload_n hx hb dX1_hearRequest_20 rfl (lv_at hl9 0 rfl) ?_
    refine hp_get B0 hw 1 rfl in_X1 h8 9 (by decide) qF_X1_41 rfl dX1_hearRequest_21 ?_
    refine lv_if_eq (tgt := 28) hx hb dX1_hearRequest_24 (by decide) (fun _ => ?_) (fun c9 => absurd (by decide) c9)
    refine lv_aload_n hx hb dX1_hearRequest_28 rfl (lv_at hl9 0 rfl) ?_
    refine hp_get B0 hw 1 rfl in_X1 h8 5 (by decide) qF_X1_28 rfl dX1_hearRequest_29 ?_
    refine lv_if_ne (tgt := 40) hx hb dX1_hearRequest_32 (by decide) (fun c9 => ?_) (fun c9 => ?_)
    · refine lv_aload_n hx hb dX1_hearRequest_40 rfl (lv_at hl9 0 rfl) ?_
      refine hp_get B0 hw 1 rfl in_X1 h8 5 (by decide) qF_X1_28 rfl dX1_hearRequest_41 ?_
      refine lv_iconst (v := 4) hx hb dX1_hearRequest_44 (by decide) ?_
      refine lv_icmp_ne (tgt := 61) hx hb dX1_hearRequest_45 (by decide) (fun c10 => ?_) (fun c10 => ?_)
      · refine lv_aload_n hx hb dX1_hearRequest_61 rfl (lv_at hl9 0 rfl) ?_
        refine lv_aload_n hx hb dX1_hearRequest_62 rfl (lv_at hl9 1 rfl) ?_
        have n12 : nq ≠ en := hne kq2 ke1 (Nat.ne_of_beq_eq_false rfl)
        have h11 : f7 nq = some (.inl (cI G, 6, .inl gq)) := by rw [ef7, va_up_ne _ _ n12]; exact kq2
        have n14 : nr ≠ en := hne kr3 ke1 (Nat.ne_of_beq_eq_false rfl)
        have h13 : f7 nr = some (.inr (3, [hd4, (lastV Q), .int (nI (Q).length)])) := by rw [ef7, va_up_ne _ _ n14]; exact kr3
        have n16 : fr ≠ en := hne k_fr ke1 (Nat.ne_of_beq_eq_false rfl)
        have h15 : f7 fr = some (.inr (2, [.int rk, .int ri, .int (num rx), .ref u, nx])) := by rw [ef7, va_up_ne _ _ n16]; exact k_fr
        have n18 : u ≠ en := hne k_u ke1 (Nat.ne_of_beq_eq_false rfl)
        have h17 : f7 u = some (.inl (cI G, 6, .inl rv)) := by rw [ef7, va_up_ne _ _ n18]; exact k_u
        have n20 : na ≠ en := hne k_na ke1 (Nat.ne_of_beq_eq_false rfl)
        have h19 : f7 na = some (.inl (cI G, 6, .inl ga)) := by rw [ef7, va_up_ne _ _ n20]; exact k_na
        refine hp_V (ci := 1) (As := [.ref fr]) (rest := []) B0 hw hS (c_X1_answerX hl G f7 en nw na nq nr st li sr tm 0 mi ix gq L Q (show EX G f7 en nw na nq nr (st, li, sr, tm, 0, mi, ix, gq, L) Q from ⟨h8, h11, ⟨_, h13, (CH.kp (show hK2 [en, nq, nr] [] f f7 from (by rw [ef7]; exact hK2.up List.mem_cons_self)) hc5 (EX.cu (hE)) (EX.sf (hE)))⟩, (hE).2.2.2.1, (hE).2.2.2.2.1, rfl⟩) (Nat.lt_trans hn (by decide)) ga h19 haq fr u rk ri rx rv nx (by rw [show mgF (rk, ri, rx, rv) = num rx from if_pos hk0]; exact h15) h17 hfQ huq) mV_X1_answer qM_X1_83 rfl h8 rfl rfl hl9.1 (Nat.le_of_ble_eq_true rfl) ⟨⟨Nat.le_of_ble_eq_true rfl, Nat.le_of_ble_eq_true rfl⟩, Nat.le_of_ble_eq_true rfl, Nat.le_of_ble_eq_true rfl⟩ dX1_hearRequest_63 (fun E ce q9 f21 H locs hPX hw hS hce hcv hcl => ?_) (fun v f21 H locs hP hw hS => ?_)
        · exact hPX.elim
        · obtain ⟨ev9, x22⟩ := hP
          subst ev9
          refine W.eq (g2 := F0 m 66 ls []) rfl ?_
          exact hp_vret B0 hw hS hr ⟨Nat.le_of_ble_eq_true rfl, Nat.le_of_ble_eq_true rfl⟩ dX1_hearRequest_66 (⟨rfl, (XP.tr (N := []) (fun c9 h9 => nomatch h9) (show hK2 [en, nq, nr] Q f f7 from (by rw [ef7]; exact hK2.up List.mem_cons_self)) (by rw [List.append_nil]; exact (by rw [show hearQ ga (rk, ri, rx, rv) (st, li, sr, tm, lp, mi, ix, gq, L) = ansS ga (rk, ri, rx, rv) (st, li, sr, tm, 0, mi, ix, gq, L) from ((if_neg c6).trans (if_neg c9)).trans (if_neg c10)]; exact x22)))⟩)
      · refine lv_aload_n hx hb dX1_hearRequest_48 rfl (lv_at hl9 0 rfl) ?_
        have n24 : nq ≠ en := hne kq2 ke1 (Nat.ne_of_beq_eq_false rfl)
        have h23 : f7 nq = some (.inl (cI G, 6, .inl gq)) := by rw [ef7, va_up_ne _ _ n24]; exact kq2
        have n26 : nr ≠ en := hne kr3 ke1 (Nat.ne_of_beq_eq_false rfl)
        have h25 : f7 nr = some (.inr (3, [hd4, (lastV Q), .int (nI (Q).length)])) := by rw [ef7, va_up_ne _ _ n26]; exact kr3
        refine hp_V (ci := 1) (As := []) (rest := []) B0 hw hS (c_X1_askX hl G f7 en nw na nq nr st li sr tm 0 mi ix gq L Q (show EX G f7 en nw na nq nr (st, li, sr, tm, 0, mi, ix, gq, L) Q from ⟨h8, h23, ⟨_, h25, (CH.kp (show hK2 [en, nq, nr] [] f f7 from (by rw [ef7]; exact hK2.up List.mem_cons_self)) hc5 (EX.cu (hE)) (EX.sf (hE)))⟩, (hE).2.2.2.1, (hE).2.2.2.2.1, rfl⟩) (Nat.lt_trans hn (by decide))) mV_X1_ask qM_X1_63 rfl h8 rfl rfl hl9.1 (Nat.le_of_ble_eq_true rfl) ⟨⟨Nat.le_of_ble_eq_true rfl, Nat.le_of_ble_eq_true rfl⟩, Nat.le_of_ble_eq_true rfl, Nat.le_of_ble_eq_true rfl⟩ dX1_hearRequest_49 (fun E ce q9 f27 H locs hPX hw hS hce hcv hcl => ?_) (fun v f27 H locs hP hw hS => ?_)
        · exact hPX.elim
        · rcases hP with ⟨c28, ev9, w29, u30, hw31, hu32, hE33, k34⟩ | ⟨c28, ev9, hE33, k34⟩
          · subst ev9
            have hN35 : ∀ c9 ∈ [(w29, u30)], f7 c9.1 = none ∧ f7 c9.2 = none := fun c9 hc9 => by rw [List.mem_singleton.mp hc9]; exact ⟨hw31, hu32⟩
            have ke36 : f27 en = some (.inr (1, [.ref nw, .ref na, .ref nq, .ref nr, .int (num ix), .int st, .int 3, .int (sr + 1), .int (li + 1), .int 0, .int mi])) := (hE33).1
            have kq37 : f27 nq = some (.inl (cI G, 6, .inl gq)) := (hE33).2.1
            obtain ⟨hd39, kr38, hc40⟩ := (hE33).2.2.1
            refine W.eq (g2 := F0 m 52 ls [.int 1]) rfl ?_
            refine lv_if_ne (tgt := 56) hx hb dX1_hearRequest_52 (by decide) (fun _ => ?_) (fun c9 => absurd c9 (by decide))
            refine lv_aload_n hx hb dX1_hearRequest_56 rfl (lv_at hl9 0 rfl) ?_
            refine lv_iconst (v := 1) hx hb dX1_hearRequest_57 (by decide) ?_
            refine hp_put (fs1 := [.ref nw, .ref na, .ref nq, .ref nr, .int (num ix), .int 1, .int 3, .int (sr + 1), .int (li + 1), .int 0, .int mi]) (ty := .int) B0 hw hS 1 rfl in_X1 tyX1 tyX1_ok nmX1 ke36 5 (by decide) qF_X1_28 rfl (by decide +kernel) rfl rfl (Nat.le_of_ble_eq_true rfl) rfl dX1_hearRequest_58 (fun H locs f41 ef41 hw hS => ?_)
            have h42 : f41 en = some (.inr (1, [.ref nw, .ref na, .ref nq, .ref nr, .int (num ix), .int 1, .int 3, .int (sr + 1), .int (li + 1), .int 0, .int mi])) := by rw [ef41, va_up_self]
            refine lv_aload_n hx hb dX1_hearRequest_61 rfl (lv_at hl9 0 rfl) ?_
            refine lv_aload_n hx hb dX1_hearRequest_62 rfl (lv_at hl9 1 rfl) ?_
            have h43 : f41 nq = some (.inl (cI G, 6, .inl gq)) := by rw [ef41, va_up_ne _ _ n24]; exact kq37
            have h44 : f41 nr = some (.inr (3, [hd39, (lastV (Q ++ [(w29, u30)])), .int (nI ((Q ++ [(w29, u30)])).length)])) := by rw [ef41, va_up_ne _ _ n26]; exact kr38
            have n46 : fr ≠ en := hne k_fr ke1 (Nat.ne_of_beq_eq_false rfl)
            have h45 : f7 fr = some (.inr (2, [.int rk, .int ri, .int (num rx), .ref u, nx])) := by rw [ef7, va_up_ne _ _ n46]; exact k_fr
            have n47 : fr ≠ nr := hne k_fr kr3 (Nat.ne_of_beq_eq_false rfl)
            have h48 : f27 fr = some (.inr (2, [.int rk, .int ri, .int (num rx), .ref u, nx])) := k34.2 _ _ h45 (ninc n46 (ninc n47 nin0)) (fun _ => hfQ)
            have h49 : f41 fr = some (.inr (2, [.int rk, .int ri, .int (num rx), .ref u, nx])) := by rw [ef41, va_up_ne _ _ n46]; exact h48
            have n51 : u ≠ en := hne k_u ke1 (Nat.ne_of_beq_eq_false rfl)
            have h50 : f7 u = some (.inl (cI G, 6, .inl rv)) := by rw [ef7, va_up_ne _ _ n51]; exact k_u
            have n52 : u ≠ nr := hne k_u kr3 (Nat.ne_of_beq_eq_false rfl)
            have h53 : f27 u = some (.inl (cI G, 6, .inl rv)) := k34.2 _ _ h50 (ninc n51 (ninc n52 nin0)) (fun t9 => absurd t9 (Nat.ne_of_beq_eq_false rfl))
            have h54 : f41 u = some (.inl (cI G, 6, .inl rv)) := by rw [ef41, va_up_ne _ _ n51]; exact h53
            have n56 : na ≠ en := hne k_na ke1 (Nat.ne_of_beq_eq_false rfl)
            have h55 : f7 na = some (.inl (cI G, 6, .inl ga)) := by rw [ef7, va_up_ne _ _ n56]; exact k_na
            have n57 : na ≠ nr := hne k_na kr3 (Nat.ne_of_beq_eq_false rfl)
            have h58 : f27 na = some (.inl (cI G, 6, .inl ga)) := k34.2 _ _ h55 (ninc n56 (ninc n57 nin0)) (fun t9 => absurd t9 (Nat.ne_of_beq_eq_false rfl))
            have h59 : f41 na = some (.inl (cI G, 6, .inl ga)) := by rw [ef41, va_up_ne _ _ n56]; exact h58
            refine hp_V (ci := 1) (As := [.ref fr]) (rest := []) B0 hw hS (c_X1_answerX hl G f41 en nw na nq nr 1 (li + 1) (sr + 1) 3 0 mi ix gq (L ++ [(0, li + 1, ix, gq)]) (Q ++ [(w29, u30)]) (show EX G f41 en nw na nq nr (1, (li + 1), (sr + 1), 3, 0, mi, ix, gq, (L ++ [(0, li + 1, ix, gq)])) (Q ++ [(w29, u30)]) from ⟨h42, h43, ⟨_, h44, (CH.kp (show hK2 [en, nq, nr] [] f27 f41 from (by rw [ef41]; exact hK2.up List.mem_cons_self)) hc40 (EX.cu (hE33)) (EX.sf (hE33)))⟩, (hE33).2.2.2.1, (hE33).2.2.2.2.1, rfl⟩) (by rw [List.length_append]; exact Nat.lt_of_lt_of_le (Nat.add_lt_add_right hn 1) (by decide)) ga h59 haq fr u rk ri rx rv nx (by rw [show mgF (rk, ri, rx, rv) = num rx from if_pos hk0]; exact h49) h54 (nws hfQ (nwsN h45 hN35)) huq) mV_X1_answer qM_X1_83 rfl h42 rfl rfl hl9.1 (Nat.le_of_ble_eq_true rfl) ⟨⟨Nat.le_of_ble_eq_true rfl, Nat.le_of_ble_eq_true rfl⟩, Nat.le_of_ble_eq_true rfl, Nat.le_of_ble_eq_true rfl⟩ dX1_hearRequest_63 (fun E ce q9 f60 H locs hPX hw hS hce hcv hcl => ?_) (fun v f60 H locs hP hw hS => ?_)
            · exact hPX.elim
            · obtain ⟨ev9, x61⟩ := hP
              subst ev9
              refine W.eq (g2 := F0 m 66 ls []) rfl ?_
              exact hp_vret B0 hw hS hr ⟨Nat.le_of_ble_eq_true rfl, Nat.le_of_ble_eq_true rfl⟩ dX1_hearRequest_66 (⟨rfl, (XP.tr (fun c9 h9 => ⟨(show hK2 [en] [] f f7 from (by rw [ef7]; exact hK2.up List.mem_cons_self)).1 _ (hN35 c9 h9).1, (show hK2 [en] [] f f7 from (by rw [ef7]; exact hK2.up List.mem_cons_self)).1 _ (hN35 c9 h9).2⟩) ((show hK2 [en, nq, nr] Q f f7 from (by rw [ef7]; exact hK2.up List.mem_cons_self)).tr ((show hK2 [en, nq, nr] Q f7 f27 from (k34.mono (sub_cons List.mem_cons_self (sub_cons (List.mem_cons_of_mem _ (List.mem_cons_of_mem _ List.mem_cons_self)) sub_nil)))).trq (show hK2 [en, nq, nr] (Q ++ [(w29, u30)]) f27 f41 from (by rw [ef41]; exact hK2.up List.mem_cons_self)) (fun c9 h9 => (hN35 c9 h9).1))) (by rw [show hearQ ga (rk, ri, rx, rv) (st, li, sr, tm, lp, mi, ix, gq, L) = ansS ga (rk, ri, rx, rv) (1, (li + 1), (sr + 1), 3, 0, mi, ix, gq, (L ++ [(0, li + 1, ix, gq)])) from ((((if_neg c6).trans (if_neg c9)).trans (if_pos c10)).trans (if_pos c28)).trans (by rw [show begS (lpS (st, li, sr, tm, lp, mi, ix, gq, L) 0) = _ from if_pos c28])]; exact x61))⟩)
          · subst ev9
            have ke62 : f27 en = some (.inr (1, [.ref nw, .ref na, .ref nq, .ref nr, .int (num ix), .int 0, .int tm, .int sr, .int li, .int 0, .int mi])) := (hE33).1
            have kq63 : f27 nq = some (.inl (cI G, 6, .inl gq)) := (hE33).2.1
            obtain ⟨hd65, kr64, hc66⟩ := (hE33).2.2.1
            refine W.eq (g2 := F0 m 52 ls [.int 0]) rfl ?_
            refine lv_if_ne (tgt := 56) hx hb dX1_hearRequest_52 (by decide) (fun c9 => absurd (by decide) c9) (fun _ => ?_)
            exact hp_vret B0 hw hS hr ⟨Nat.le_of_ble_eq_true rfl, Nat.le_of_ble_eq_true rfl⟩ dX1_hearRequest_55 (⟨rfl, (XP.zero (by rw [show hearQ ga (rk, ri, rx, rv) (st, li, sr, tm, lp, mi, ix, gq, L) = (0, li, sr, tm, 0, mi, ix, gq, L) from (((if_neg c6).trans (if_neg c9)).trans (if_pos c10)).trans (if_neg c28)]; exact (show EX G f27 en nw na nq nr (0, li, sr, tm, 0, mi, ix, gq, L) Q from ⟨ke62, kq63, ⟨_, kr64, hc66⟩, (hE33).2.2.2.1, (hE33).2.2.2.2.1, rfl⟩)) ((show hK2 [en, nq, nr] Q f f7 from (by rw [ef7]; exact hK2.up List.mem_cons_self)).tr (show hK2 [en, nq, nr] Q f7 f27 from (k34.mono (sub_cons List.mem_cons_self (sub_cons (List.mem_cons_of_mem _ (List.mem_cons_of_mem _ List.mem_cons_self)) sub_nil))))))⟩)
    · refine lv_aload_n hx hb dX1_hearRequest_35 rfl (lv_at hl9 0 rfl) ?_
      have n68 : nq ≠ en := hne kq2 ke1 (Nat.ne_of_beq_eq_false rfl)
      have h67 : f7 nq = some (.inl (cI G, 6, .inl gq)) := by rw [ef7, va_up_ne _ _ n68]; exact kq2
      have n70 : nr ≠ en := hne kr3 ke1 (Nat.ne_of_beq_eq_false rfl)
      have h69 : f7 nr = some (.inr (3, [hd4, (lastV Q), .int (nI (Q).length)])) := by rw [ef7, va_up_ne _ _ n70]; exact kr3
      refine hp_V (ci := 1) (As := []) (rest := []) B0 hw hS (c_X1_sendStopX hl G f7 en nw na nq nr st li sr tm 0 mi ix gq L Q (show EX G f7 en nw na nq nr (st, li, sr, tm, 0, mi, ix, gq, L) Q from ⟨h8, h67, ⟨_, h69, (CH.kp (show hK2 [en, nq, nr] [] f f7 from (by rw [ef7]; exact hK2.up List.mem_cons_self)) hc5 (EX.cu (hE)) (EX.sf (hE)))⟩, (hE).2.2.2.1, (hE).2.2.2.2.1, rfl⟩) (Nat.lt_trans hn (by decide))) mV_X1_sendStop qM_X1_67 rfl h8 rfl rfl hl9.1 (Nat.le_of_ble_eq_true rfl) ⟨⟨Nat.le_of_ble_eq_true rfl, Nat.le_of_ble_eq_true rfl⟩, Nat.le_of_ble_eq_true rfl, Nat.le_of_ble_eq_true rfl⟩ dX1_hearRequest_36 (fun E ce q9 f71 H locs hPX hw hS hce hcv hcl => ?_) (fun v f71 H locs hP hw hS => ?_)
      · exact hPX.elim
      · obtain ⟨ev9, w72, u73, hw74, hu75, hE76, k77⟩ := hP
        subst ev9
        have hN78 : ∀ c9 ∈ [(w72, u73)], f7 c9.1 = none ∧ f7 c9.2 = none := fun c9 hc9 => by rw [List.mem_singleton.mp hc9]; exact ⟨hw74, hu75⟩
        have ke79 : f71 en = some (.inr (1, [.ref nw, .ref na, .ref nq, .ref nr, .int (num ix), .int st, .int tm, .int sr, .int li, .int 0, .int mi])) := (hE76).1
        have kq80 : f71 nq = some (.inl (cI G, 6, .inl gq)) := (hE76).2.1
        obtain ⟨hd82, kr81, hc83⟩ := (hE76).2.2.1
        refine W.eq (g2 := F0 m 39 ls []) rfl ?_
        exact hp_vret B0 hw hS hr ⟨Nat.le_of_ble_eq_true rfl, Nat.le_of_ble_eq_true rfl⟩ dX1_hearRequest_39 (⟨rfl, ⟨_, (fun c9 h9 => ⟨(show hK2 [en] [] f f7 from (by rw [ef7]; exact hK2.up List.mem_cons_self)).1 _ (hN78 c9 h9).1, (show hK2 [en] [] f f7 from (by rw [ef7]; exact hK2.up List.mem_cons_self)).1 _ (hN78 c9 h9).2⟩), (by rw [show hearQ ga (rk, ri, rx, rv) (st, li, sr, tm, lp, mi, ix, gq, L) = (st, li, sr, tm, 0, mi, ix, gq, (L ++ [(4, 0, ix, N6)])) from (if_neg c6).trans (if_pos c9)]; exact (show EX G f71 en nw na nq nr (st, li, sr, tm, 0, mi, ix, gq, (L ++ [(4, 0, ix, N6)])) (Q ++ [(w72, u73)]) from ⟨ke79, kq80, ⟨_, kr81, hc83⟩, (hE76).2.2.2.1, (hE76).2.2.2.2.1, rfl⟩)), ((show hK2 [en, nq, nr] Q f f7 from (by rw [ef7]; exact hK2.up List.mem_cons_self)).tr (show hK2 [en, nq, nr] Q f7 f71 from (k77.mono (sub_cons List.mem_cons_self (sub_cons (List.mem_cons_of_mem _ (List.mem_cons_of_mem _ List.mem_cons_self)) sub_nil)))))⟩⟩)
  · refine lv_iconst (v := 1) hx hb dX1_hearRequest_12 (by decide) ?_
    refine lv_goto (tgt := 17) hx hb dX1_hearRequest_13 (by decide) ?_
    refine hp_put (fs1 := [.ref nw, .ref na, .ref nq, .ref nr, .int (num ix), .int st, .int tm, .int sr, .int li, .int 1, .int mi]) (ty := .boolean) B0 hw hS 1 rfl in_X1 tyX1 tyX1_ok nmX1 ke1 9 (by decide) qF_X1_41 rfl (by decide +kernel) rfl rfl (Nat.le_of_ble_eq_true rfl) rfl dX1_hearRequest_17 (fun H locs f84 ef84 hw hS => ?_)
    have h85 : f84 en = some (.inr (1, [.ref nw, .ref na, .ref nq, .ref nr, .int (num ix), .int st, .int tm, .int sr, .int li, .int 1, .int mi])) := by rw [ef84, va_up_self]
    refine lv_aload_n hx hb dX1_hearRequest_20 rfl (lv_at hl9 0 rfl) ?_
    refine hp_get B0 hw 1 rfl in_X1 h85 9 (by decide) qF_X1_41 rfl dX1_hearRequest_21 ?_
    refine lv_if_eq (tgt := 28) hx hb dX1_hearRequest_24 (by decide) (fun c9 => absurd c9 (by decide)) (fun _ => ?_)
    have n87 : nq ≠ en := hne kq2 ke1 (Nat.ne_of_beq_eq_false rfl)
    have h86 : f84 nq = some (.inl (cI G, 6, .inl gq)) := by rw [ef84, va_up_ne _ _ n87]; exact kq2
    have n89 : nr ≠ en := hne kr3 ke1 (Nat.ne_of_beq_eq_false rfl)
    have h88 : f84 nr = some (.inr (3, [hd4, (lastV Q), .int (nI (Q).length)])) := by rw [ef84, va_up_ne _ _ n89]; exact kr3
    exact hp_vret B0 hw hS hr ⟨Nat.le_of_ble_eq_true rfl, Nat.le_of_ble_eq_true rfl⟩ dX1_hearRequest_27 (⟨rfl, (XP.zero (by rw [show hearQ ga (rk, ri, rx, rv) (st, li, sr, tm, lp, mi, ix, gq, L) = (st, li, sr, tm, 1, mi, ix, gq, L) from if_pos c6]; exact (show EX G f84 en nw na nq nr (st, li, sr, tm, 1, mi, ix, gq, L) Q from ⟨h85, h86, ⟨_, h88, (CH.kp (show hK2 [en, nq, nr] [] f f84 from (by rw [ef84]; exact hK2.up List.mem_cons_self)) hc5 (EX.cu (hE)) (EX.sf (hE)))⟩, (hE).2.2.2.1, (hE).2.2.2.2.1, rfl⟩)) (show hK2 [en, nq, nr] Q f f84 from (by rw [ef84]; exact hK2.up List.mem_cons_self)))⟩)

set_option maxHeartbeats 4000000 in
set_option maxRecDepth 100000 in
theorem c_X1_hearAX {l : Launch} (hl : l.stackTraces = false) (G : hG) (f : hM) (en nw na nq nr : Nat) (st li sr tm lp mi ix : Int32) (gq : Nat → Int32) (L : List Fr) (Q : List (Nat × Nat)) (hE : EX G f en nw na nq nr (st, li, sr, tm, lp, mi, ix, gq, L) Q) (hn : Q.length < 3900) (fr u : Nat) (rk ri rx : Int32) (rv : Nat → Int32) (nx : Value) (k_fr : f fr = some (.inr (2, [.int rk, .int ri, .int (mgF (rk, ri, rx, rv)), .ref u, nx]))) (k_u : f u = some (.inl (cI G, 6, .inl rv))) (hfQ : fr ∉ ws Q) (huq : u ≠ nq) : CT l yX1_hearAnswer (.code yX1_hearAnswer cX1_hearAnswer 3 none) 3 57 2 11 G [.ref en, .ref fr] f (fun v f1 => v = none ∧ XP G f f1 en nw na nq nr Q (hearA (rk, ri, rx, rv) (st, li, sr, tm, lp, mi, ix, gq, L))) (fun E f1 => False) := by
  refine hp_start hl (own := RX1) (by decide) rfl (Nat.le_of_ble_eq_true rfl) ?_
  intro p e s m args below meth c B0 hr hnm hout hw hS ls hl9
  have hx := B0.1
  have hb := B0.2.1
  have hl9 : lv_has ls 3 [(0, .ref en), (1, .ref fr)] := hl9
  have ke1 : f en = some (.inr (1, [.ref nw, .ref na, .ref nq, .ref nr, .int (num ix), .int st, .int tm, .int sr, .int li, .int lp, .int mi])) := (hE).1
  have kq2 : f nq = some (.inl (cI G, 6, .inl gq)) := (hE).2.1
  obtain ⟨hd4, kr3, hc5⟩ := (hE).2.2.1
  refine lv_aload_n hx hb dX1_hearAnswer_0 rfl (lv_at hl9 0 rfl) ?_
  refine hp_get B0 hw 1 rfl in_X1 ke1 5 (by decide) qF_X1_28 rfl dX1_hearAnswer_1 ?_
  refine lv_iconst (v := 1) hx hb dX1_hearAnswer_4 (by decide) ?_
  refine lv_icmp_eq (tgt := 16) hx hb dX1_hearAnswer_5 (by decide) (fun c6 => ?_) (fun c6 => ?_)
  · refine lv_iconst (v := 1) hx hb dX1_hearAnswer_16 (by decide) ?_
    refine lv_goto (tgt := 21) hx hb dX1_hearAnswer_17 (by decide) ?_
    refine lv_istore_n (lv' := [(2, .int 1), (0, .ref en), (1, .ref fr)]) hx hb dX1_hearAnswer_21 rfl hl9 (by decide) rfl (fun ls hl9 => ?_)
    refine lv_iload_n hx hb dX1_hearAnswer_22 rfl (lv_at hl9 0 rfl) ?_
    refine lv_if_eq (tgt := 37) hx hb dX1_hearAnswer_23 (by decide) (fun c9 => absurd c9 (by decide)) (fun _ => ?_)
    refine lv_aload_n hx hb dX1_hearAnswer_26 rfl (lv_at hl9 2 rfl) ?_
    refine hp_get B0 hw 2 rfl in_X2 k_fr 1 (by decide) qF_X1_86 rfl dX1_hearAnswer_27 ?_
    refine lv_aload_n hx hb dX1_hearAnswer_30 rfl (lv_at hl9 1 rfl) ?_
    refine hp_get B0 hw 1 rfl in_X1 ke1 8 (by decide) qF_X1_38 rfl dX1_hearAnswer_31 ?_
    refine lv_icmp_eq (tgt := 38) hx hb dX1_hearAnswer_34 (by decide) (fun c7 => ?_) (fun c7 => ?_)
    · refine lv_aload_n hx hb dX1_hearAnswer_38 rfl (lv_at hl9 2 rfl) ?_
      refine hp_get B0 hw 2 rfl in_X2 k_fr 0 (by decide) qF_X1_70 rfl dX1_hearAnswer_39 ?_
      refine lv_iconst (v := 1) hx hb dX1_hearAnswer_42 (by decide) ?_
      refine lv_icmp_ne (tgt := 64) hx hb dX1_hearAnswer_43 (by decide) (fun c8 => ?_) (fun c8 => ?_)
      · refine lv_aload_n hx hb dX1_hearAnswer_64 rfl (lv_at hl9 1 rfl) ?_
        refine lv_aload_n hx hb dX1_hearAnswer_65 rfl (lv_at hl9 2 rfl) ?_
        refine hp_V (ci := 1) (As := [.ref fr]) (rest := []) B0 hw hS (c_X1_chgX hl G f en nw na nq nr (num ix) st tm sr li lp mi gq ke1 kq2 fr u rk ri (mgF (rk, ri, rx, rv)) nx rv k_fr k_u huq) mV_X1_changeAskedFor qM_X1_89 rfl ke1 rfl rfl hl9.1 (Nat.le_of_ble_eq_true rfl) ⟨⟨Nat.le_of_ble_eq_true rfl, Nat.le_of_ble_eq_true rfl⟩, Nat.le_of_ble_eq_true rfl, Nat.le_of_ble_eq_true rfl⟩ dX1_hearAnswer_66 (fun E ce q9 f9 H locs hPX hw hS hce hcv hcl => ?_) (fun v f9 H locs hP hw hS => ?_)
        · exact hPX.elim
        · obtain ⟨ev9, e10⟩ := hP
          subst ev9
          have h11 : f9 nq = some (.inl (cI G, 6, .inl (chgF gq rv rk))) := by rw [e10, va_up_self]
          refine W.eq (g2 := F0 m 69 ls []) rfl ?_
          refine lv_aload_n hx hb dX1_hearAnswer_69 rfl (lv_at hl9 1 rfl) ?_
          have n13 : en ≠ nq := hne ke1 kq2 (Nat.ne_of_beq_eq_false rfl)
          have h12 : f9 en = some (.inr (1, [.ref nw, .ref na, .ref nq, .ref nr, .int (num ix), .int st, .int tm, .int sr, .int li, .int lp, .int mi])) := by rw [e10, va_up_ne _ _ n13]; exact ke1
          have n15 : nr ≠ nq := hne kr3 kq2 (Nat.ne_of_beq_eq_false rfl)
          have h14 : f9 nr = some (.inr (3, [hd4, (lastV Q), .int (nI (Q).length)])) := by rw [e10, va_up_ne _ _ n15]; exact kr3
          refine hp_V (ci := 1) (As := []) (rest := []) B0 hw hS (c_X1_askX hl G f9 en nw na nq nr st li sr tm lp mi ix (chgF gq rv rk) L Q (show EX G f9 en nw na nq nr (st, li, sr, tm, lp, mi, ix, (chgF gq rv rk), L) Q from ⟨h12, h11, ⟨_, h14, (CH.kp (show hK2 [en, nq, nr] [] f f9 from (by rw [e10]; exact hK2.up (List.mem_cons_of_mem _ List.mem_cons_self))) hc5 (EX.cu (hE)) (EX.sf (hE)))⟩, (hE).2.2.2.1, (hE).2.2.2.2.1, (hE).2.2.2.2.2⟩) (Nat.lt_trans hn (by decide))) mV_X1_ask qM_X1_63 rfl h12 rfl rfl hl9.1 (Nat.le_of_ble_eq_true rfl) ⟨⟨Nat.le_of_ble_eq_true rfl, Nat.le_of_ble_eq_true rfl⟩, Nat.le_of_ble_eq_true rfl, Nat.le_of_ble_eq_true rfl⟩ dX1_hearAnswer_70 (fun E ce q9 f16 H locs hPX hw hS hce hcv hcl => ?_) (fun v f16 H locs hP hw hS => ?_)
          · exact hPX.elim
          · rcases hP with ⟨c17, ev9, w18, u19, hw20, hu21, hE22, k23⟩ | ⟨c17, ev9, hE22, k23⟩
            · subst ev9
              have hN24 : ∀ c9 ∈ [(w18, u19)], f9 c9.1 = none ∧ f9 c9.2 = none := fun c9 hc9 => by rw [List.mem_singleton.mp hc9]; exact ⟨hw20, hu21⟩
              have ke25 : f16 en = some (.inr (1, [.ref nw, .ref na, .ref nq, .ref nr, .int (num ix), .int st, .int 3, .int (sr + 1), .int (li + 1), .int lp, .int mi])) := (hE22).1
              have kq26 : f16 nq = some (.inl (cI G, 6, .inl (chgF gq rv rk))) := (hE22).2.1
              obtain ⟨hd28, kr27, hc29⟩ := (hE22).2.2.1
              refine W.eq (g2 := F0 m 73 ls [.int 1]) rfl ?_
              refine lv_pop hx hb dX1_hearAnswer_73 rfl ?_
              exact hp_vret B0 hw hS hr ⟨Nat.le_of_ble_eq_true rfl, Nat.le_of_ble_eq_true rfl⟩ dX1_hearAnswer_74 (⟨rfl, ⟨_, (fun c9 h9 => ⟨(show hK2 [nq] [] f f9 from (by rw [e10]; exact hK2.up List.mem_cons_self)).1 _ (hN24 c9 h9).1, (show hK2 [nq] [] f f9 from (by rw [e10]; exact hK2.up List.mem_cons_self)).1 _ (hN24 c9 h9).2⟩), (by rw [show hearA (rk, ri, rx, rv) (st, li, sr, tm, lp, mi, ix, gq, L) = (st, (li + 1), (sr + 1), 3, lp, mi, ix, (chgF gq rv rk), (L ++ [(0, li + 1, ix, (chgF gq rv rk))])) from ((if_pos ⟨(Or.inl c6), c7⟩).trans (if_neg c8)).trans (if_pos c17)]; exact (show EX G f16 en nw na nq nr (st, (li + 1), (sr + 1), 3, lp, mi, ix, (chgF gq rv rk), (L ++ [(0, li + 1, ix, (chgF gq rv rk))])) (Q ++ [(w18, u19)]) from ⟨ke25, kq26, ⟨_, kr27, hc29⟩, (hE22).2.2.2.1, (hE22).2.2.2.2.1, (hE).2.2.2.2.2⟩)), ((show hK2 [en, nq, nr] Q f f9 from (by rw [e10]; exact hK2.up (List.mem_cons_of_mem _ List.mem_cons_self))).tr (show hK2 [en, nq, nr] Q f9 f16 from (k23.mono (sub_cons List.mem_cons_self (sub_cons (List.mem_cons_of_mem _ (List.mem_cons_of_mem _ List.mem_cons_self)) sub_nil)))))⟩⟩)
            · subst ev9
              have ke30 : f16 en = some (.inr (1, [.ref nw, .ref na, .ref nq, .ref nr, .int (num ix), .int 0, .int tm, .int sr, .int li, .int lp, .int mi])) := (hE22).1
              have kq31 : f16 nq = some (.inl (cI G, 6, .inl (chgF gq rv rk))) := (hE22).2.1
              obtain ⟨hd33, kr32, hc34⟩ := (hE22).2.2.1
              refine W.eq (g2 := F0 m 73 ls [.int 0]) rfl ?_
              refine lv_pop hx hb dX1_hearAnswer_73 rfl ?_
              exact hp_vret B0 hw hS hr ⟨Nat.le_of_ble_eq_true rfl, Nat.le_of_ble_eq_true rfl⟩ dX1_hearAnswer_74 (⟨rfl, (XP.zero (by rw [show hearA (rk, ri, rx, rv) (st, li, sr, tm, lp, mi, ix, gq, L) = (0, li, sr, tm, lp, mi, ix, (chgF gq rv rk), L) from ((if_pos ⟨(Or.inl c6), c7⟩).trans (if_neg c8)).trans (if_neg c17)]; exact (show EX G f16 en nw na nq nr (0, li, sr, tm, lp, mi, ix, (chgF gq rv rk), L) Q from ⟨ke30, kq31, ⟨_, kr32, hc34⟩, (hE22).2.2.2.1, (hE22).2.2.2.2.1, (hE).2.2.2.2.2⟩)) ((show hK2 [en, nq, nr] Q f f9 from (by rw [e10]; exact hK2.up (List.mem_cons_of_mem _ List.mem_cons_self))).tr (show hK2 [en, nq, nr] Q f9 f16 from (k23.mono (sub_cons List.mem_cons_self (sub_cons (List.mem_cons_of_mem _ (List.mem_cons_of_mem _ List.mem_cons_self)) sub_nil))))))⟩)
      · refine lv_aload_n hx hb dX1_hearAnswer_46 rfl (lv_at hl9 1 rfl) ?_
        refine lv_aload_n hx hb dX1_hearAnswer_47 rfl (lv_at hl9 1 rfl) ?_
        refine hp_get B0 hw 1 rfl in_X1 ke1 5 (by decide) qF_X1_28 rfl dX1_hearAnswer_48 ?_
        refine lv_iconst (v := 1) hx hb dX1_hearAnswer_51 (by decide) ?_
        refine lv_icmp_ne (tgt := 59) hx hb dX1_hearAnswer_52 (by decide) (fun c9 => absurd c6 c9) (fun _ => ?_)
        refine lv_iconst (v := 2) hx hb dX1_hearAnswer_55 (by decide) ?_
        refine lv_goto (tgt := 60) hx hb dX1_hearAnswer_56 (by decide) ?_
        refine hp_put (fs1 := [.ref nw, .ref na, .ref nq, .ref nr, .int (num ix), .int 2, .int tm, .int sr, .int li, .int lp, .int mi]) (ty := .int) B0 hw hS 1 rfl in_X1 tyX1 tyX1_ok nmX1 ke1 5 (by decide) qF_X1_28 rfl (by decide +kernel) rfl rfl (Nat.le_of_ble_eq_true rfl) rfl dX1_hearAnswer_60 (fun H locs f35 ef35 hw hS => ?_)
        have h36 : f35 en = some (.inr (1, [.ref nw, .ref na, .ref nq, .ref nr, .int (num ix), .int 2, .int tm, .int sr, .int li, .int lp, .int mi])) := by rw [ef35, va_up_self]
        have n38 : nq ≠ en := hne kq2 ke1 (Nat.ne_of_beq_eq_false rfl)
        have h37 : f35 nq = some (.inl (cI G, 6, .inl gq)) := by rw [ef35, va_up_ne _ _ n38]; exact kq2
        have n40 : nr ≠ en := hne kr3 ke1 (Nat.ne_of_beq_eq_false rfl)
        have h39 : f35 nr = some (.inr (3, [hd4, (lastV Q), .int (nI (Q).length)])) := by rw [ef35, va_up_ne _ _ n40]; exact kr3
        exact hp_vret B0 hw hS hr ⟨Nat.le_of_ble_eq_true rfl, Nat.le_of_ble_eq_true rfl⟩ dX1_hearAnswer_63 (⟨rfl, (XP.zero (by rw [show hearA (rk, ri, rx, rv) (st, li, sr, tm, lp, mi, ix, gq, L) = (2, li, sr, tm, lp, mi, ix, gq, L) from ((if_pos ⟨(Or.inl c6), c7⟩).trans (if_pos c8)).trans (congrArg (fun z9 => (z9, li, sr, tm, lp, mi, ix, gq, L)) (if_pos c6))]; exact (show EX G f35 en nw na nq nr (2, li, sr, tm, lp, mi, ix, gq, L) Q from ⟨h36, h37, ⟨_, h39, (CH.kp (show hK2 [en, nq, nr] [] f f35 from (by rw [ef35]; exact hK2.up List.mem_cons_self)) hc5 (EX.cu (hE)) (EX.sf (hE)))⟩, (hE).2.2.2.1, (hE).2.2.2.2.1, (hE).2.2.2.2.2⟩)) (show hK2 [en, nq, nr] Q f f35 from (by rw [ef35]; exact hK2.up List.mem_cons_self)))⟩)
    · exact hp_vret B0 hw hS hr ⟨Nat.le_of_ble_eq_true rfl, Nat.le_of_ble_eq_true rfl⟩ dX1_hearAnswer_37 (⟨rfl, (XP.zero (by rw [show hearA (rk, ri, rx, rv) (st, li, sr, tm, lp, mi, ix, gq, L) = (st, li, sr, tm, lp, mi, ix, gq, L) from if_neg (fun h9 => c7 h9.2)]; exact (show EX G f en nw na nq nr (st, li, sr, tm, lp, mi, ix, gq, L) Q from ⟨ke1, kq2, ⟨_, kr3, hc5⟩, (hE).2.2.2.1, (hE).2.2.2.2.1, (hE).2.2.2.2.2⟩)) hK2.rf)⟩)
  · refine lv_aload_n hx hb dX1_hearAnswer_8 rfl (lv_at hl9 0 rfl) ?_
    refine hp_get B0 hw 1 rfl in_X1 ke1 5 (by decide) qF_X1_28 rfl dX1_hearAnswer_9 ?_
    refine lv_iconst (v := 3) hx hb dX1_hearAnswer_12 (by decide) ?_
    refine lv_icmp_ne (tgt := 20) hx hb dX1_hearAnswer_13 (by decide) (fun c41 => ?_) (fun c41 => ?_)
    · refine lv_iconst (v := 0) hx hb dX1_hearAnswer_20 (by decide) ?_
      refine lv_istore_n (lv' := [(2, .int 0), (0, .ref en), (1, .ref fr)]) hx hb dX1_hearAnswer_21 rfl hl9 (by decide) rfl (fun ls hl9 => ?_)
      refine lv_iload_n hx hb dX1_hearAnswer_22 rfl (lv_at hl9 0 rfl) ?_
      refine lv_if_eq (tgt := 37) hx hb dX1_hearAnswer_23 (by decide) (fun _ => ?_) (fun c9 => absurd (by decide) c9)
      exact hp_vret B0 hw hS hr ⟨Nat.le_of_ble_eq_true rfl, Nat.le_of_ble_eq_true rfl⟩ dX1_hearAnswer_37 (⟨rfl, (XP.zero (by rw [show hearA (rk, ri, rx, rv) (st, li, sr, tm, lp, mi, ix, gq, L) = (st, li, sr, tm, lp, mi, ix, gq, L) from if_neg (fun h9 => h9.1.elim c6 c41)]; exact (show EX G f en nw na nq nr (st, li, sr, tm, lp, mi, ix, gq, L) Q from ⟨ke1, kq2, ⟨_, kr3, hc5⟩, (hE).2.2.2.1, (hE).2.2.2.2.1, (hE).2.2.2.2.2⟩)) hK2.rf)⟩)
    · refine lv_iconst (v := 1) hx hb dX1_hearAnswer_16 (by decide) ?_
      refine lv_goto (tgt := 21) hx hb dX1_hearAnswer_17 (by decide) ?_
      refine lv_istore_n (lv' := [(2, .int 1), (0, .ref en), (1, .ref fr)]) hx hb dX1_hearAnswer_21 rfl hl9 (by decide) rfl (fun ls hl9 => ?_)
      refine lv_iload_n hx hb dX1_hearAnswer_22 rfl (lv_at hl9 0 rfl) ?_
      refine lv_if_eq (tgt := 37) hx hb dX1_hearAnswer_23 (by decide) (fun c9 => absurd c9 (by decide)) (fun _ => ?_)
      refine lv_aload_n hx hb dX1_hearAnswer_26 rfl (lv_at hl9 2 rfl) ?_
      refine hp_get B0 hw 2 rfl in_X2 k_fr 1 (by decide) qF_X1_86 rfl dX1_hearAnswer_27 ?_
      refine lv_aload_n hx hb dX1_hearAnswer_30 rfl (lv_at hl9 1 rfl) ?_
      refine hp_get B0 hw 1 rfl in_X1 ke1 8 (by decide) qF_X1_38 rfl dX1_hearAnswer_31 ?_
      refine lv_icmp_eq (tgt := 38) hx hb dX1_hearAnswer_34 (by decide) (fun c42 => ?_) (fun c42 => ?_)
      · refine lv_aload_n hx hb dX1_hearAnswer_38 rfl (lv_at hl9 2 rfl) ?_
        refine hp_get B0 hw 2 rfl in_X2 k_fr 0 (by decide) qF_X1_70 rfl dX1_hearAnswer_39 ?_
        refine lv_iconst (v := 1) hx hb dX1_hearAnswer_42 (by decide) ?_
        refine lv_icmp_ne (tgt := 64) hx hb dX1_hearAnswer_43 (by decide) (fun c43 => ?_) (fun c43 => ?_)
        · refine lv_aload_n hx hb dX1_hearAnswer_64 rfl (lv_at hl9 1 rfl) ?_
          refine lv_aload_n hx hb dX1_hearAnswer_65 rfl (lv_at hl9 2 rfl) ?_
          refine hp_V (ci := 1) (As := [.ref fr]) (rest := []) B0 hw hS (c_X1_chgX hl G f en nw na nq nr (num ix) st tm sr li lp mi gq ke1 kq2 fr u rk ri (mgF (rk, ri, rx, rv)) nx rv k_fr k_u huq) mV_X1_changeAskedFor qM_X1_89 rfl ke1 rfl rfl hl9.1 (Nat.le_of_ble_eq_true rfl) ⟨⟨Nat.le_of_ble_eq_true rfl, Nat.le_of_ble_eq_true rfl⟩, Nat.le_of_ble_eq_true rfl, Nat.le_of_ble_eq_true rfl⟩ dX1_hearAnswer_66 (fun E ce q9 f44 H locs hPX hw hS hce hcv hcl => ?_) (fun v f44 H locs hP hw hS => ?_)
          · exact hPX.elim
          · obtain ⟨ev9, e45⟩ := hP
            subst ev9
            have h46 : f44 nq = some (.inl (cI G, 6, .inl (chgF gq rv rk))) := by rw [e45, va_up_self]
            refine W.eq (g2 := F0 m 69 ls []) rfl ?_
            refine lv_aload_n hx hb dX1_hearAnswer_69 rfl (lv_at hl9 1 rfl) ?_
            have n48 : en ≠ nq := hne ke1 kq2 (Nat.ne_of_beq_eq_false rfl)
            have h47 : f44 en = some (.inr (1, [.ref nw, .ref na, .ref nq, .ref nr, .int (num ix), .int st, .int tm, .int sr, .int li, .int lp, .int mi])) := by rw [e45, va_up_ne _ _ n48]; exact ke1
            have n50 : nr ≠ nq := hne kr3 kq2 (Nat.ne_of_beq_eq_false rfl)
            have h49 : f44 nr = some (.inr (3, [hd4, (lastV Q), .int (nI (Q).length)])) := by rw [e45, va_up_ne _ _ n50]; exact kr3
            refine hp_V (ci := 1) (As := []) (rest := []) B0 hw hS (c_X1_askX hl G f44 en nw na nq nr st li sr tm lp mi ix (chgF gq rv rk) L Q (show EX G f44 en nw na nq nr (st, li, sr, tm, lp, mi, ix, (chgF gq rv rk), L) Q from ⟨h47, h46, ⟨_, h49, (CH.kp (show hK2 [en, nq, nr] [] f f44 from (by rw [e45]; exact hK2.up (List.mem_cons_of_mem _ List.mem_cons_self))) hc5 (EX.cu (hE)) (EX.sf (hE)))⟩, (hE).2.2.2.1, (hE).2.2.2.2.1, (hE).2.2.2.2.2⟩) (Nat.lt_trans hn (by decide))) mV_X1_ask qM_X1_63 rfl h47 rfl rfl hl9.1 (Nat.le_of_ble_eq_true rfl) ⟨⟨Nat.le_of_ble_eq_true rfl, Nat.le_of_ble_eq_true rfl⟩, Nat.le_of_ble_eq_true rfl, Nat.le_of_ble_eq_true rfl⟩ dX1_hearAnswer_70 (fun E ce q9 f51 H locs hPX hw hS hce hcv hcl => ?_) (fun v f51 H locs hP hw hS => ?_)
            · exact hPX.elim
            · rcases hP with ⟨c52, ev9, w53, u54, hw55, hu56, hE57, k58⟩ | ⟨c52, ev9, hE57, k58⟩
              · subst ev9
                have hN59 : ∀ c9 ∈ [(w53, u54)], f44 c9.1 = none ∧ f44 c9.2 = none := fun c9 hc9 => by rw [List.mem_singleton.mp hc9]; exact ⟨hw55, hu56⟩
                have ke60 : f51 en = some (.inr (1, [.ref nw, .ref na, .ref nq, .ref nr, .int (num ix), .int st, .int 3, .int (sr + 1), .int (li + 1), .int lp, .int mi])) := (hE57).1
                have kq61 : f51 nq = some (.inl (cI G, 6, .inl (chgF gq rv rk))) := (hE57).2.1
                obtain ⟨hd63, kr62, hc64⟩ := (hE57).2.2.1
                refine W.eq (g2 := F0 m 73 ls [.int 1]) rfl ?_
                refine lv_pop hx hb dX1_hearAnswer_73 rfl ?_
                exact hp_vret B0 hw hS hr ⟨Nat.le_of_ble_eq_true rfl, Nat.le_of_ble_eq_true rfl⟩ dX1_hearAnswer_74 (⟨rfl, ⟨_, (fun c9 h9 => ⟨(show hK2 [nq] [] f f44 from (by rw [e45]; exact hK2.up List.mem_cons_self)).1 _ (hN59 c9 h9).1, (show hK2 [nq] [] f f44 from (by rw [e45]; exact hK2.up List.mem_cons_self)).1 _ (hN59 c9 h9).2⟩), (by rw [show hearA (rk, ri, rx, rv) (st, li, sr, tm, lp, mi, ix, gq, L) = (st, (li + 1), (sr + 1), 3, lp, mi, ix, (chgF gq rv rk), (L ++ [(0, li + 1, ix, (chgF gq rv rk))])) from ((if_pos ⟨(Or.inr c41), c42⟩).trans (if_neg c43)).trans (if_pos c52)]; exact (show EX G f51 en nw na nq nr (st, (li + 1), (sr + 1), 3, lp, mi, ix, (chgF gq rv rk), (L ++ [(0, li + 1, ix, (chgF gq rv rk))])) (Q ++ [(w53, u54)]) from ⟨ke60, kq61, ⟨_, kr62, hc64⟩, (hE57).2.2.2.1, (hE57).2.2.2.2.1, (hE).2.2.2.2.2⟩)), ((show hK2 [en, nq, nr] Q f f44 from (by rw [e45]; exact hK2.up (List.mem_cons_of_mem _ List.mem_cons_self))).tr (show hK2 [en, nq, nr] Q f44 f51 from (k58.mono (sub_cons List.mem_cons_self (sub_cons (List.mem_cons_of_mem _ (List.mem_cons_of_mem _ List.mem_cons_self)) sub_nil)))))⟩⟩)
              · subst ev9
                have ke65 : f51 en = some (.inr (1, [.ref nw, .ref na, .ref nq, .ref nr, .int (num ix), .int 0, .int tm, .int sr, .int li, .int lp, .int mi])) := (hE57).1
                have kq66 : f51 nq = some (.inl (cI G, 6, .inl (chgF gq rv rk))) := (hE57).2.1
                obtain ⟨hd68, kr67, hc69⟩ := (hE57).2.2.1
                refine W.eq (g2 := F0 m 73 ls [.int 0]) rfl ?_
                refine lv_pop hx hb dX1_hearAnswer_73 rfl ?_
                exact hp_vret B0 hw hS hr ⟨Nat.le_of_ble_eq_true rfl, Nat.le_of_ble_eq_true rfl⟩ dX1_hearAnswer_74 (⟨rfl, (XP.zero (by rw [show hearA (rk, ri, rx, rv) (st, li, sr, tm, lp, mi, ix, gq, L) = (0, li, sr, tm, lp, mi, ix, (chgF gq rv rk), L) from ((if_pos ⟨(Or.inr c41), c42⟩).trans (if_neg c43)).trans (if_neg c52)]; exact (show EX G f51 en nw na nq nr (0, li, sr, tm, lp, mi, ix, (chgF gq rv rk), L) Q from ⟨ke65, kq66, ⟨_, kr67, hc69⟩, (hE57).2.2.2.1, (hE57).2.2.2.2.1, (hE).2.2.2.2.2⟩)) ((show hK2 [en, nq, nr] Q f f44 from (by rw [e45]; exact hK2.up (List.mem_cons_of_mem _ List.mem_cons_self))).tr (show hK2 [en, nq, nr] Q f44 f51 from (k58.mono (sub_cons List.mem_cons_self (sub_cons (List.mem_cons_of_mem _ (List.mem_cons_of_mem _ List.mem_cons_self)) sub_nil))))))⟩)
        · refine lv_aload_n hx hb dX1_hearAnswer_46 rfl (lv_at hl9 1 rfl) ?_
          refine lv_aload_n hx hb dX1_hearAnswer_47 rfl (lv_at hl9 1 rfl) ?_
          refine hp_get B0 hw 1 rfl in_X1 ke1 5 (by decide) qF_X1_28 rfl dX1_hearAnswer_48 ?_
          refine lv_iconst (v := 1) hx hb dX1_hearAnswer_51 (by decide) ?_
          refine lv_icmp_ne (tgt := 59) hx hb dX1_hearAnswer_52 (by decide) (fun _ => ?_) (fun c9 => absurd c9 c6)
          refine lv_iconst (v := 4) hx hb dX1_hearAnswer_59 (by decide) ?_
          refine hp_put (fs1 := [.ref nw, .ref na, .ref nq, .ref nr, .int (num ix), .int 4, .int tm, .int sr, .int li, .int lp, .int mi]) (ty := .int) B0 hw hS 1 rfl in_X1 tyX1 tyX1_ok nmX1 ke1 5 (by decide) qF_X1_28 rfl (by decide +kernel) rfl rfl (Nat.le_of_ble_eq_true rfl) rfl dX1_hearAnswer_60 (fun H locs f70 ef70 hw hS => ?_)
          have h71 : f70 en = some (.inr (1, [.ref nw, .ref na, .ref nq, .ref nr, .int (num ix), .int 4, .int tm, .int sr, .int li, .int lp, .int mi])) := by rw [ef70, va_up_self]
          have n73 : nq ≠ en := hne kq2 ke1 (Nat.ne_of_beq_eq_false rfl)
          have h72 : f70 nq = some (.inl (cI G, 6, .inl gq)) := by rw [ef70, va_up_ne _ _ n73]; exact kq2
          have n75 : nr ≠ en := hne kr3 ke1 (Nat.ne_of_beq_eq_false rfl)
          have h74 : f70 nr = some (.inr (3, [hd4, (lastV Q), .int (nI (Q).length)])) := by rw [ef70, va_up_ne _ _ n75]; exact kr3
          exact hp_vret B0 hw hS hr ⟨Nat.le_of_ble_eq_true rfl, Nat.le_of_ble_eq_true rfl⟩ dX1_hearAnswer_63 (⟨rfl, (XP.zero (by rw [show hearA (rk, ri, rx, rv) (st, li, sr, tm, lp, mi, ix, gq, L) = (4, li, sr, tm, lp, mi, ix, gq, L) from ((if_pos ⟨(Or.inr c41), c42⟩).trans (if_pos c43)).trans (congrArg (fun z9 => (z9, li, sr, tm, lp, mi, ix, gq, L)) (if_neg c6))]; exact (show EX G f70 en nw na nq nr (4, li, sr, tm, lp, mi, ix, gq, L) Q from ⟨h71, h72, ⟨_, h74, (CH.kp (show hK2 [en, nq, nr] [] f f70 from (by rw [ef70]; exact hK2.up List.mem_cons_self)) hc5 (EX.cu (hE)) (EX.sf (hE)))⟩, (hE).2.2.2.1, (hE).2.2.2.2.1, (hE).2.2.2.2.2⟩)) (show hK2 [en, nq, nr] Q f f70 from (by rw [ef70]; exact hK2.up List.mem_cons_self)))⟩)
      · exact hp_vret B0 hw hS hr ⟨Nat.le_of_ble_eq_true rfl, Nat.le_of_ble_eq_true rfl⟩ dX1_hearAnswer_37 (⟨rfl, (XP.zero (by rw [show hearA (rk, ri, rx, rv) (st, li, sr, tm, lp, mi, ix, gq, L) = (st, li, sr, tm, lp, mi, ix, gq, L) from if_neg (fun h9 => c42 h9.2)]; exact (show EX G f en nw na nq nr (st, li, sr, tm, lp, mi, ix, gq, L) Q from ⟨ke1, kq2, ⟨_, kr3, hc5⟩, (hE).2.2.2.1, (hE).2.2.2.2.1, (hE).2.2.2.2.2⟩)) hK2.rf)⟩)

set_option maxHeartbeats 4000000 in
set_option maxRecDepth 100000 in
theorem c_X1_hearX {l : Launch} (hl : l.stackTraces = false) (G : hG) (f : hM) (en nw na nq nr : Nat) (st li sr tm lp mi ix : Int32) (gq : Nat → Int32) (L : List Fr) (Q : List (Nat × Nat)) (hE : EX G f en nw na nq nr (st, li, sr, tm, lp, mi, ix, gq, L) Q) (hn : Q.length < 3900) (ga : Nat → Int32) (k_na : f na = some (.inl (cI G, 6, .inl ga))) (haq : na ≠ nq) (fr u : Nat) (rk ri rx : Int32) (rv : Nat → Int32) (nx : Value) (k_fr : f fr = some (.inr (2, [.int rk, .int ri, .int (mgF (rk, ri, rx, rv)), .ref u, nx]))) (k_u : f u = some (.inl (cI G, 6, .inl rv))) (hfQ : fr ∉ ws Q) (huq : u ≠ nq) : CT l yX1_hear (.code yX1_hear cX1_hear 2 none) 5 111 4 22 G [.ref en, .ref fr] f (fun v f1 => v = none ∧ XP G f f1 en nw na nq nr Q (hearF ga (rk, ri, rx, rv) (st, li, sr, tm, lp, mi, ix, gq, L))) (fun E f1 => False) := by
  refine hp_start hl (own := RX1) (by decide) rfl (Nat.le_of_ble_eq_true rfl) ?_
  intro p e s m args below meth c B0 hr hnm hout hw hS ls hl9
  have hx := B0.1
  have hb := B0.2.1
  have hl9 : lv_has ls 2 [(0, .ref en), (1, .ref fr)] := hl9
  have ke1 : f en = some (.inr (1, [.ref nw, .ref na, .ref nq, .ref nr, .int (num ix), .int st, .int tm, .int sr, .int li, .int lp, .int mi])) := (hE).1
  have kq2 : f nq = some (.inl (cI G, 6, .inl gq)) := (hE).2.1
  obtain ⟨hd4, kr3, hc5⟩ := (hE).2.2.1
  refine lv_aload_n hx hb dX1_hear_0 rfl (lv_at hl9 1 rfl) ?_
  refine hp_get B0 hw 2 rfl in_X2 k_fr 0 (by decide) qF_X1_70 rfl dX1_hear_1 ?_
  rcases (show rk.toInt = 0 ∨ rk.toInt = 4 ∨ (rk.toInt ≠ 0 ∧ rk.toInt ≠ 4) by omega) with h9 | h9 | ⟨h8, h9⟩
  · have hk0 : rk = 0 := i32_of 0 h9 rfl
    refine lv_lookup (off := 28) (tgt := 32) hx hb dX1_hear_4 (by decide) (by rw [h9]; rfl) (by decide) ?_
    refine lv_aload_n hx hb dX1_hear_32 rfl (lv_at hl9 0 rfl) ?_
    refine lv_aload_n hx hb dX1_hear_33 rfl (lv_at hl9 1 rfl) ?_
    refine hp_V (ci := 1) (As := [.ref fr]) (rest := []) B0 hw hS (c_X1_hearQX hl G f en nw na nq nr st li sr tm lp mi ix gq L Q (show EX G f en nw na nq nr (st, li, sr, tm, lp, mi, ix, gq, L) Q from ⟨ke1, kq2, ⟨_, kr3, hc5⟩, (hE).2.2.2.1, (hE).2.2.2.2.1, (hE).2.2.2.2.2⟩) hn ga k_na haq fr u rk ri rx rv nx k_fr k_u hfQ huq hk0) mV_X1_hearRequest qM_X1_75 rfl ke1 rfl rfl hl9.1 (Nat.le_of_ble_eq_true rfl) ⟨⟨Nat.le_of_ble_eq_true rfl, Nat.le_of_ble_eq_true rfl⟩, Nat.le_of_ble_eq_true rfl, Nat.le_of_ble_eq_true rfl⟩ dX1_hear_34 (fun E ce q9 f6 H locs hPX hw hS hce hcv hcl => ?_) (fun v f6 H locs hP hw hS => ?_)
    · exact hPX.elim
    · obtain ⟨ev9, x7⟩ := hP
      subst ev9
      refine W.eq (g2 := F0 m 37 ls []) rfl ?_
      refine lv_goto (tgt := 53) hx hb dX1_hear_37 (by decide) ?_
      exact hp_vret B0 hw hS hr ⟨Nat.le_of_ble_eq_true rfl, Nat.le_of_ble_eq_true rfl⟩ dX1_hear_53 (⟨rfl, (XP.tr (N := []) (fun c9 h9 => nomatch h9) hK2.rf (by rw [List.append_nil]; exact (by rw [show hearF ga (rk, ri, rx, rv) (st, li, sr, tm, lp, mi, ix, gq, L) = hearQ ga (rk, ri, rx, rv) (st, li, sr, tm, lp, mi, ix, gq, L) from if_pos hk0]; exact x7)))⟩)
  · have hk4 : rk = 4 := i32_of 4 h9 rfl
    have hk0 : ¬ rk = 0 := by rw [hk4]; decide
    refine lv_lookup (off := 36) (tgt := 40) hx hb dX1_hear_4 (by decide) (by rw [h9]; rfl) (by decide) ?_
    refine lv_aload_n hx hb dX1_hear_40 rfl (lv_at hl9 0 rfl) ?_
    refine lv_iconst (v := 0) hx hb dX1_hear_41 (by decide) ?_
    refine hp_put (fs1 := [.ref nw, .ref na, .ref nq, .ref nr, .int (num ix), .int 0, .int tm, .int sr, .int li, .int lp, .int mi]) (ty := .int) B0 hw hS 1 rfl in_X1 tyX1 tyX1_ok nmX1 ke1 5 (by decide) qF_X1_28 rfl (by decide +kernel) rfl rfl (Nat.le_of_ble_eq_true rfl) rfl dX1_hear_42 (fun H locs f8 ef8 hw hS => ?_)
    have h9 : f8 en = some (.inr (1, [.ref nw, .ref na, .ref nq, .ref nr, .int (num ix), .int 0, .int tm, .int sr, .int li, .int lp, .int mi])) := by rw [ef8, va_up_self]
    refine lv_goto (tgt := 53) hx hb dX1_hear_45 (by decide) ?_
    have n11 : nq ≠ en := hne kq2 ke1 (Nat.ne_of_beq_eq_false rfl)
    have h10 : f8 nq = some (.inl (cI G, 6, .inl gq)) := by rw [ef8, va_up_ne _ _ n11]; exact kq2
    have n13 : nr ≠ en := hne kr3 ke1 (Nat.ne_of_beq_eq_false rfl)
    have h12 : f8 nr = some (.inr (3, [hd4, (lastV Q), .int (nI (Q).length)])) := by rw [ef8, va_up_ne _ _ n13]; exact kr3
    exact hp_vret B0 hw hS hr ⟨Nat.le_of_ble_eq_true rfl, Nat.le_of_ble_eq_true rfl⟩ dX1_hear_53 (⟨rfl, (XP.zero (by rw [show hearF ga (rk, ri, rx, rv) (st, li, sr, tm, lp, mi, ix, gq, L) = (0, li, sr, tm, lp, mi, ix, gq, L) from (if_neg hk0).trans (if_pos hk4)]; exact (show EX G f8 en nw na nq nr (0, li, sr, tm, lp, mi, ix, gq, L) Q from ⟨h9, h10, ⟨_, h12, (CH.kp (show hK2 [en, nq, nr] [] f f8 from (by rw [ef8]; exact hK2.up List.mem_cons_self)) hc5 (EX.cu (hE)) (EX.sf (hE)))⟩, (hE).2.2.2.1, (hE).2.2.2.2.1, (hE).2.2.2.2.2⟩)) (show hK2 [en, nq, nr] Q f f8 from (by rw [ef8]; exact hK2.up List.mem_cons_self)))⟩)
  · have hk0 : ¬ rk = 0 := fun z9 => h8 (by rw [z9]; rfl)
    have hk4 : ¬ rk = 4 := fun z9 => h9 (by rw [z9]; rfl)
    refine lv_lookup (off := 44) (tgt := 48) hx hb dX1_hear_4 (by decide) (by simp [Op.lookupswitch.offset, h8, h9, Ne.symm h8, Ne.symm h9]) (by decide) ?_
    refine lv_aload_n hx hb dX1_hear_48 rfl (lv_at hl9 0 rfl) ?_
    refine lv_aload_n hx hb dX1_hear_49 rfl (lv_at hl9 1 rfl) ?_
    refine hp_V (ci := 1) (As := [.ref fr]) (rest := []) B0 hw hS (c_X1_hearAX hl G f en nw na nq nr st li sr tm lp mi ix gq L Q (show EX G f en nw na nq nr (st, li, sr, tm, lp, mi, ix, gq, L) Q from ⟨ke1, kq2, ⟨_, kr3, hc5⟩, (hE).2.2.2.1, (hE).2.2.2.2.1, (hE).2.2.2.2.2⟩) hn fr u rk ri rx rv nx k_fr k_u hfQ huq) mV_X1_hearAnswer qM_X1_79 rfl ke1 rfl rfl hl9.1 (Nat.le_of_ble_eq_true rfl) ⟨⟨Nat.le_of_ble_eq_true rfl, Nat.le_of_ble_eq_true rfl⟩, Nat.le_of_ble_eq_true rfl, Nat.le_of_ble_eq_true rfl⟩ dX1_hear_50 (fun E ce q9 f14 H locs hPX hw hS hce hcv hcl => ?_) (fun v f14 H locs hP hw hS => ?_)
    · exact hPX.elim
    · obtain ⟨ev9, x15⟩ := hP
      subst ev9
      refine W.eq (g2 := F0 m 53 ls []) rfl ?_
      exact hp_vret B0 hw hS hr ⟨Nat.le_of_ble_eq_true rfl, Nat.le_of_ble_eq_true rfl⟩ dX1_hear_53 (⟨rfl, (XP.tr (N := []) (fun c9 h9 => nomatch h9) hK2.rf (by rw [List.append_nil]; exact (by rw [show hearF ga (rk, ri, rx, rv) (st, li, sr, tm, lp, mi, ix, gq, L) = hearA (rk, ri, rx, rv) (st, li, sr, tm, lp, mi, ix, gq, L) from (if_neg hk0).trans (if_neg hk4)]; exact x15)))⟩)

