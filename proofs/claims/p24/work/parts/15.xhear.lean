theorem vin6j {j : Nat} (h : j < 6) : vp_in (nI j) 6 := vp_in_nI h (by decide)
theorem va_up_id {f : hM} {a : Nat} {e : Option va_E} (h : f a = e) : f = va_up f a e := by
  funext b
  by_cases z : b = a
  · rw [z, va_up_self, h]
  · rw [va_up_ne _ _ z]
theorem kFn_3 {ga v : Nat → Int32} {n j : Nat} {kd : Int32} (h : unk ga v j) : kFn ga v (n + 1) j kd = 3 := if_pos h
theorem kFn_2 {ga v : Nat → Int32} {n j : Nat} {kd : Int32} (h : ¬ unk ga v j) (h2 : rfs ga v j) : kFn ga v (n + 1) j kd = kFn ga v n (j + 1) 2 := by
  show (if unk ga v j then 3 else kFn ga v n (j + 1) (if rfs ga v j then 2 else kd)) = _
  rw [if_neg h, if_pos h2]
theorem kFn_1 {ga v : Nat → Int32} {n j : Nat} {kd : Int32} (h : ¬ unk ga v j) (h2 : ¬ rfs ga v j) : kFn ga v (n + 1) j kd = kFn ga v n (j + 1) kd := by
  show (if unk ga v j then 3 else kFn ga v n (j + 1) (if rfs ga v j then 2 else kd)) = _
  rw [if_neg h, if_neg h2]
theorem kFn_val (ga v : Nat → Int32) : ∀ (n j : Nat) (kd : Int32), (kd = 1 ∨ kd = 2) → kFn ga v n j kd = 1 ∨ kFn ga v n j kd = 2 ∨ kFn ga v n j kd = 3 := by
  intro n
  induction n with
  | zero => intro j kd h; exact h.elim Or.inl (fun h => Or.inr (Or.inl h))
  | succ n ih =>
    intro j kd h
    by_cases h3 : unk ga v j
    · exact Or.inr (Or.inr (kFn_3 h3))
    · by_cases h2 : rfs ga v j
      · rw [kFn_2 h3 h2]; exact ih _ _ (Or.inr rfl)
      · rw [kFn_1 h3 h2]; exact ih _ _ h
theorem kindF_val (ga v : Nat → Int32) : kindF ga v = 1 ∨ kindF ga v = 2 ∨ kindF ga v = 3 := kFn_val ga v 6 0 1 (Or.inl rfl)
theorem kindF_ne0 (ga v : Nat → Int32) : ¬ kindF ga v = 0 := by
  rcases kindF_val ga v with h | h | h <;> (rw [h]; decide)
theorem lowN_1 {g : Int32} {n j : Nat} (h : ((g >>> (nI j &&& 31)) &&& 1) = 1) : lowN g (n + 1) j = nI j := if_pos h
theorem lowN_0 {g : Int32} {n j : Nat} (h : ¬ ((g >>> (nI j &&& 31)) &&& 1) = 1) : lowN g (n + 1) j = lowN g n (j + 1) := if_neg h
theorem toldN_0 (ga v : Nat → Int32) (kd : Int32) : toldN ga v kd 0 = N6 := by
  funext i
  exact if_neg (Nat.not_lt_zero _)
theorem toldN_s {ga v : Nat → Int32} {kd x : Int32} {j k : Nat} (hk : k = j) (h : tlF ga v kd j = x) : upd (toldN ga v kd j) k x = toldN ga v kd (j + 1) := by
  subst hk
  funext i
  simp only [upd, toldN]
  by_cases e : i = k
  · rw [if_pos e, if_pos (by omega), e, h]
  · rw [if_neg e]
    by_cases l : i < k
    · rw [if_pos l, if_pos (by omega)]
    · rw [if_neg l, if_neg (by omega)]
theorem toldN_k {ga v : Nat → Int32} {kd : Int32} {j : Nat} (hj : j < 6) (h : tlF ga v kd j = -1) : toldN ga v kd j = toldN ga v kd (j + 1) := by
  funext i
  simp only [toldN]
  by_cases e : i = j
  · rw [if_neg (by omega), if_pos (by omega), e, h]
    exact if_pos hj
  · by_cases l : i < j
    · rw [if_pos l, if_pos (by omega)]
    · rw [if_neg l, if_neg (by omega)]
theorem chgN_0 (gq v : Nat → Int32) (kd : Int32) : chgN gq v kd 0 = gq := by
  funext i
  exact if_neg (fun h => Nat.not_lt_zero _ h.1)
theorem chgN_s {gq v : Nat → Int32} {kd x : Int32} {j k : Nat} (hk : k = j) (h : ¬ v j = -1) (hx : (if kd = 2 then v j else -1) = x) : upd (chgN gq v kd j) k x = chgN gq v kd (j + 1) := by
  subst hk
  funext i
  simp only [upd, chgN]
  by_cases e : i = k
  · rw [if_pos e, if_pos ⟨by omega, by rw [e]; exact h⟩, e, hx]
  · rw [if_neg e]
    by_cases l : i < k ∧ ¬ v i = -1
    · rw [if_pos l, if_pos (show i < k + 1 ∧ ¬ v i = -1 from ⟨by omega, l.2⟩)]
    · rw [if_neg l, if_neg (fun h9 => l ⟨by omega, h9.2⟩)]
theorem chgN_k {gq v : Nat → Int32} {kd : Int32} {j : Nat} (h : v j = -1) : chgN gq v kd j = chgN gq v kd (j + 1) := by
  funext i
  simp only [chgN]
  by_cases l : i < j ∧ ¬ v i = -1
  · rw [if_pos l, if_pos (show i < j + 1 ∧ ¬ v i = -1 from ⟨by omega, l.2⟩)]
  · rw [if_neg l, if_neg (fun h9 => l ⟨by
      have := h9.1
      by_cases e : i = j
      · exact absurd (by rw [e]; exact h) h9.2
      · omega, h9.2⟩)]
theorem i32_of {x : Int32} {k : Int} (y : Int32) (h : x.toInt = k) (hy : y.toInt = k) : x = y := Int32.toInt_inj.mp (h.trans hy.symm)
set_option maxHeartbeats 4000000 in
set_option maxRecDepth 100000 in
theorem c_X1_allowsX {l : Launch} (hl : l.stackTraces = false) (G : hG) (f : hM) (en nw na nq nr : Nat) (mg st tm sr li lp mi : Int32) (ga : Nat → Int32) (k_en : f en = some (.inr (1, [.ref nw, .ref na, .ref nq, .ref nr, .int mg, .int st, .int tm, .int sr, .int li, .int lp, .int mi]))) (k_na : f na = some (.inl (cI G, 6, .inl ga))) (j : Nat) (hj : j < 6) (x : Int32) : CT l yX1_allows (.code yX1_allows cX1_allows 3 (some .boolean)) 0 0 0 0 G [.ref en, .int (nI j), .int x] f (fun v f1 => f1 = f ∧ ((v = some (.int 1) ∧ ((ga j >>> (x &&& 31)) &&& 1) = 1) ∨ (v = some (.int 0) ∧ ¬ (((ga j >>> (x &&& 31)) &&& 1) = 1)))) (fun E f1 => False) := by
  refine hp_start hl (own := RX1) (by decide) rfl (Nat.le_of_ble_eq_true rfl) ?_
  intro p e s m args below meth c B0 hr hnm hout hw hS ls hl9
  have hx := B0.1
  have hb := B0.2.1
  have hl9 : lv_has ls 3 [(0, .ref en), (1, .int (nI j)), (2, .int x)] := hl9
  refine lv_aload_n hx hb dX1_allows_0 rfl (lv_at hl9 0 rfl) ?_
  refine hp_get B0 hw 1 rfl in_X1 k_en 1 (by decide) qF_X1_15 rfl dX1_allows_1 ?_
  refine lv_iload_n hx hb dX1_allows_4 rfl (lv_at hl9 1 rfl) ?_
  refine hp_iald B0 hw k_na (vin6j hj) dX1_allows_5 ?_
  refine hp_c (v := (ga j)) (congrArg ga (nI_clamp (by omega))) ?_
  refine lv_iload_n hx hb dX1_allows_6 rfl (lv_at hl9 2 rfl) ?_
  refine lv_ishr hx hb dX1_allows_7 ?_
  refine lv_iconst (v := 1) hx hb dX1_allows_8 (by decide) ?_
  refine lv_iand hx hb dX1_allows_9 ?_
  refine lv_iconst (v := 1) hx hb dX1_allows_10 (by decide) ?_
  refine lv_icmp_ne (tgt := 18) hx hb dX1_allows_11 (by decide) (fun c1 => ?_) (fun c1 => ?_)
  · refine lv_iconst (v := 0) hx hb dX1_allows_18 (by decide) ?_
    exact hp_zret (v := 0) B0 hw hS hr ⟨Nat.le_of_ble_eq_true rfl, Nat.le_of_ble_eq_true rfl⟩ (rfl) dX1_allows_19 (⟨rfl, Or.inr ⟨rfl, c1⟩⟩)
  · refine lv_iconst (v := 1) hx hb dX1_allows_14 (by decide) ?_
    refine lv_goto (tgt := 19) hx hb dX1_allows_15 (by decide) ?_
    exact hp_zret (v := 1) B0 hw hS hr ⟨Nat.le_of_ble_eq_true rfl, Nat.le_of_ble_eq_true rfl⟩ (rfl) dX1_allows_19 (⟨rfl, Or.inl ⟨rfl, c1⟩⟩)

set_option maxHeartbeats 4000000 in
set_option maxRecDepth 100000 in
theorem c_X1_unkX {l : Launch} (hl : l.stackTraces = false) (G : hG) (f : hM) (en nw na nq nr : Nat) (mg st tm sr li lp mi : Int32) (ga : Nat → Int32) (k_en : f en = some (.inr (1, [.ref nw, .ref na, .ref nq, .ref nr, .int mg, .int st, .int tm, .int sr, .int li, .int lp, .int mi]))) (k_na : f na = some (.inl (cI G, 6, .inl ga))) (j : Nat) (hj : j < 6) (x : Int32) : CT l yX1_isUnknown (.code yX1_isUnknown cX1_isUnknown 3 (some .boolean)) 0 0 0 0 G [.ref en, .int (nI j), .int x] f (fun v f1 => f1 = f ∧ ((v = some (.int 1) ∧ ¬ x = -1 ∧ ga j = 0) ∨ (v = some (.int 0) ∧ ¬ (¬ x = -1 ∧ ga j = 0)))) (fun E f1 => False) := by
  refine hp_start hl (own := RX1) (by decide) rfl (Nat.le_of_ble_eq_true rfl) ?_
  intro p e s m args below meth c B0 hr hnm hout hw hS ls hl9
  have hx := B0.1
  have hb := B0.2.1
  have hl9 : lv_has ls 3 [(0, .ref en), (1, .int (nI j)), (2, .int x)] := hl9
  refine lv_iload_n hx hb dX1_isUnknown_0 rfl (lv_at hl9 2 rfl) ?_
  refine lv_iconst (v := (-1)) hx hb dX1_isUnknown_1 (by decide) ?_
  refine lv_icmp_eq (tgt := 18) hx hb dX1_isUnknown_2 (by decide) (fun c1 => ?_) (fun c1 => ?_)
  · refine lv_iconst (v := 0) hx hb dX1_isUnknown_18 (by decide) ?_
    exact hp_zret (v := 0) B0 hw hS hr ⟨Nat.le_of_ble_eq_true rfl, Nat.le_of_ble_eq_true rfl⟩ (rfl) dX1_isUnknown_19 (⟨rfl, Or.inr ⟨rfl, fun h9 => h9.1 c1⟩⟩)
  · refine lv_aload_n hx hb dX1_isUnknown_5 rfl (lv_at hl9 0 rfl) ?_
    refine hp_get B0 hw 1 rfl in_X1 k_en 1 (by decide) qF_X1_15 rfl dX1_isUnknown_6 ?_
    refine lv_iload_n hx hb dX1_isUnknown_9 rfl (lv_at hl9 1 rfl) ?_
    refine hp_iald B0 hw k_na (vin6j hj) dX1_isUnknown_10 ?_
    refine hp_c (v := (ga j)) (congrArg ga (nI_clamp (by omega))) ?_
    refine lv_if_ne (tgt := 18) hx hb dX1_isUnknown_11 (by decide) (fun c2 => ?_) (fun c2 => ?_)
    · refine lv_iconst (v := 0) hx hb dX1_isUnknown_18 (by decide) ?_
      exact hp_zret (v := 0) B0 hw hS hr ⟨Nat.le_of_ble_eq_true rfl, Nat.le_of_ble_eq_true rfl⟩ (rfl) dX1_isUnknown_19 (⟨rfl, Or.inr ⟨rfl, fun h9 => c2 h9.2⟩⟩)
    · refine lv_iconst (v := 1) hx hb dX1_isUnknown_14 (by decide) ?_
      refine lv_goto (tgt := 19) hx hb dX1_isUnknown_15 (by decide) ?_
      exact hp_zret (v := 1) B0 hw hS hr ⟨Nat.le_of_ble_eq_true rfl, Nat.le_of_ble_eq_true rfl⟩ (rfl) dX1_isUnknown_19 (⟨rfl, Or.inl ⟨rfl, ⟨c1, c2⟩⟩⟩)

set_option maxHeartbeats 4000000 in
set_option maxRecDepth 100000 in
theorem c_X1_rfsX {l : Launch} (hl : l.stackTraces = false) (G : hG) (f : hM) (en nw na nq nr : Nat) (mg st tm sr li lp mi : Int32) (ga : Nat → Int32) (k_en : f en = some (.inr (1, [.ref nw, .ref na, .ref nq, .ref nr, .int mg, .int st, .int tm, .int sr, .int li, .int lp, .int mi]))) (k_na : f na = some (.inl (cI G, 6, .inl ga))) (j : Nat) (hj : j < 6) (x : Int32) : CT l yX1_isRefused (.code yX1_isRefused cX1_isRefused 3 (some .boolean)) 1 22 0 0 G [.ref en, .int (nI j), .int x] f (fun v f1 => f1 = f ∧ ((v = some (.int 1) ∧ ¬ x = -1 ∧ ¬ ((ga j >>> (x &&& 31)) &&& 1) = 1) ∨ (v = some (.int 0) ∧ ¬ (¬ x = -1 ∧ ¬ ((ga j >>> (x &&& 31)) &&& 1) = 1)))) (fun E f1 => False) := by
  refine hp_start hl (own := RX1) (by decide) rfl (Nat.le_of_ble_eq_true rfl) ?_
  intro p e s m args below meth c B0 hr hnm hout hw hS ls hl9
  have hx := B0.1
  have hb := B0.2.1
  have hl9 : lv_has ls 3 [(0, .ref en), (1, .int (nI j)), (2, .int x)] := hl9
  refine lv_iload_n hx hb dX1_isRefused_0 rfl (lv_at hl9 2 rfl) ?_
  refine lv_iconst (v := (-1)) hx hb dX1_isRefused_1 (by decide) ?_
  refine lv_icmp_eq (tgt := 18) hx hb dX1_isRefused_2 (by decide) (fun c1 => ?_) (fun c1 => ?_)
  · refine lv_iconst (v := 0) hx hb dX1_isRefused_18 (by decide) ?_
    exact hp_zret (v := 0) B0 hw hS hr ⟨Nat.le_of_ble_eq_true rfl, Nat.le_of_ble_eq_true rfl⟩ (rfl) dX1_isRefused_19 (⟨rfl, Or.inr ⟨rfl, fun h9 => h9.1 c1⟩⟩)
  · refine lv_aload_n hx hb dX1_isRefused_5 rfl (lv_at hl9 0 rfl) ?_
    refine lv_iload_n hx hb dX1_isRefused_6 rfl (lv_at hl9 1 rfl) ?_
    refine lv_iload_n hx hb dX1_isRefused_7 rfl (lv_at hl9 2 rfl) ?_
    refine hp_V (ci := 1) (As := [.int (nI j), .int x]) (rest := []) B0 hw hS (c_X1_allowsX hl G f en nw na nq nr mg st tm sr li lp mi ga k_en k_na j hj x) mV_X1_allows qM_X1_128 rfl k_en rfl rfl hl9.1 (Nat.le_of_ble_eq_true rfl) ⟨⟨Nat.le_of_ble_eq_true rfl, Nat.le_of_ble_eq_true rfl⟩, Nat.le_of_ble_eq_true rfl, Nat.le_of_ble_eq_true rfl⟩ dX1_isRefused_8 (fun E ce q9 f2 H locs hPX hw hS hce hcv hcl => ?_) (fun v f2 H locs hP hw hS => ?_)
    · exact hPX.elim
    · obtain ⟨ef9, hv9⟩ := hP
      rw [ef9] at hw
      rcases hv9 with ⟨ev9, c3⟩ | ⟨ev9, c3⟩
      · subst ev9
        refine W.eq (g2 := F0 m 11 ls [.int 1]) rfl ?_
        refine lv_if_ne (tgt := 18) hx hb dX1_isRefused_11 (by decide) (fun _ => ?_) (fun c9 => absurd c9 (by decide))
        refine lv_iconst (v := 0) hx hb dX1_isRefused_18 (by decide) ?_
        exact hp_zret (v := 0) B0 hw hS hr ⟨Nat.le_of_ble_eq_true rfl, Nat.le_of_ble_eq_true rfl⟩ (rfl) dX1_isRefused_19 (⟨rfl, Or.inr ⟨rfl, fun h9 => h9.2 c3⟩⟩)
      · subst ev9
        refine W.eq (g2 := F0 m 11 ls [.int 0]) rfl ?_
        refine lv_if_ne (tgt := 18) hx hb dX1_isRefused_11 (by decide) (fun c9 => absurd (by decide) c9) (fun _ => ?_)
        refine lv_iconst (v := 1) hx hb dX1_isRefused_14 (by decide) ?_
        refine lv_goto (tgt := 19) hx hb dX1_isRefused_15 (by decide) ?_
        exact hp_zret (v := 1) B0 hw hS hr ⟨Nat.le_of_ble_eq_true rfl, Nat.le_of_ble_eq_true rfl⟩ (rfl) dX1_isRefused_19 (⟨rfl, Or.inl ⟨rfl, ⟨c1, c3⟩⟩⟩)

set_option maxHeartbeats 4000000 in
set_option maxRecDepth 100000 in
theorem c_X1_lowX {l : Launch} (hl : l.stackTraces = false) (G : hG) (f : hM) (en nw na nq nr : Nat) (mg st tm sr li lp mi : Int32) (ga : Nat → Int32) (k_en : f en = some (.inr (1, [.ref nw, .ref na, .ref nq, .ref nr, .int mg, .int st, .int tm, .int sr, .int li, .int lp, .int mi]))) (k_na : f na = some (.inl (cI G, 6, .inl ga))) (j : Nat) (hj : j < 6) : CT l yX1_lowestAllowed (.code yX1_lowestAllowed cX1_lowestAllowed 3 (some .int)) 1 22 0 0 G [.ref en, .int (nI j)] f (fun v f1 => f1 = f ∧ v = some (.int (lowF (ga j)))) (fun E f1 => False) := by
  refine hp_start hl (own := RX1) (by decide) rfl (Nat.le_of_ble_eq_true rfl) ?_
  intro p e s m args below meth c B0 hr hnm hout hw hS ls hl9
  have hx := B0.1
  have hb := B0.2.1
  have hl9 : lv_has ls 3 [(0, .ref en), (1, .int (nI j))] := hl9
  refine lv_iconst (v := 0) hx hb dX1_lowestAllowed_0 (by decide) ?_
  refine lv_istore_n (lv' := [(2, .int 0), (0, .ref en), (1, .int (nI j))]) hx hb dX1_lowestAllowed_1 rfl hl9 (by decide) rfl (fun ls hl9 => ?_)
  refine hp_for (nL := 3) (pc := 2) (fun k f9 lv9 => f9 = f ∧  lowN (ga j) (10 - k) k = lowF (ga j) ∧ lv9 = [(2, .int (nI k)), (0, .ref en), (1, .int (nI j))]) 10 (fun k f9 lv9 H locs ls hk hI hw hS hl9 ih => ?_) (fun f9 lv9 H locs ls hI hw hS hl9 => ?_) 10 0 (by decide) f _ _ _ ls ⟨rfl, rfl, rfl⟩ hw hS (lv_sub hl9 [0, 1, 2] rfl)
  · obtain ⟨ef9, hv9, el9⟩ := hI
    rw [ef9] at hw
    rw [el9] at hl9
    refine lv_iload_n hx hb dX1_lowestAllowed_2 rfl (lv_at hl9 0 rfl) ?_
    refine lv_bipush (v := 9) hx hb dX1_lowestAllowed_3 (by decide) ?_
    refine lv_icmp_gt (tgt := 25) hx hb dX1_lowestAllowed_5 (by decide) (fun c9 => absurd c9 (by rw [show (9 : Int32) = nI 9 from rfl]; exact nI_nlt (by omega) (by omega))) (fun _ => ?_)
    refine lv_aload_n hx hb dX1_lowestAllowed_8 rfl (lv_at hl9 1 rfl) ?_
    refine lv_iload_n hx hb dX1_lowestAllowed_9 rfl (lv_at hl9 2 rfl) ?_
    refine lv_iload_n hx hb dX1_lowestAllowed_10 rfl (lv_at hl9 0 rfl) ?_
    refine hp_V (ci := 1) (As := [.int (nI j), .int (nI k)]) (rest := []) B0 hw hS (c_X1_allowsX hl G f en nw na nq nr mg st tm sr li lp mi ga k_en k_na j hj (nI k)) mV_X1_allows qM_X1_128 rfl k_en rfl rfl hl9.1 (Nat.le_of_ble_eq_true rfl) ⟨⟨Nat.le_of_ble_eq_true rfl, Nat.le_of_ble_eq_true rfl⟩, Nat.le_of_ble_eq_true rfl, Nat.le_of_ble_eq_true rfl⟩ dX1_lowestAllowed_11 (fun E ce q9 f1 H locs hPX hw hS hce hcv hcl => ?_) (fun v f1 H locs hP hw hS => ?_)
    · exact hPX.elim
    · obtain ⟨ef9, hv9⟩ := hP
      rw [ef9] at hw
      rcases hv9 with ⟨ev9, c2⟩ | ⟨ev9, c2⟩
      · subst ev9
        refine W.eq (g2 := F0 m 14 ls [.int 1]) rfl ?_
        refine lv_if_eq (tgt := 19) hx hb dX1_lowestAllowed_14 (by decide) (fun c9 => absurd c9 (by decide)) (fun _ => ?_)
        refine lv_iload_n hx hb dX1_lowestAllowed_17 rfl (lv_at hl9 0 rfl) ?_
        exact hp_iret (v := (nI k)) B0 hw hS hr ⟨Nat.le_of_ble_eq_true rfl, Nat.le_of_ble_eq_true rfl⟩ dX1_lowestAllowed_18 (⟨rfl, congrArg (fun z9 => some (Value.int z9)) (by rw [← hv9, show 10 - k = (10 - (k + 1)) + 1 by omega, lowN_1 c2])⟩)
      · subst ev9
        refine W.eq (g2 := F0 m 14 ls [.int 0]) rfl ?_
        refine lv_if_eq (tgt := 19) hx hb dX1_lowestAllowed_14 (by decide) (fun _ => ?_) (fun c9 => absurd (by decide) c9)
        refine lv_iinc (v := (nI (k + 1))) (lv' := [(2, .int (nI (k + 1))), (0, .ref en), (1, .int (nI j))]) hx hb dX1_lowestAllowed_19 hl9 (k := 0) rfl (nI_1 k) (by decide) rfl (fun ls hl9 => ?_)
        refine lv_goto (tgt := 2) hx hb dX1_lowestAllowed_22 (by decide) ?_
        exact ih _ _ H locs ls ⟨rfl, (by rw [← hv9, show 10 - k = (10 - (k + 1)) + 1 by omega, lowN_0 c2]), rfl⟩ hw hS (lv_sub hl9 [0, 1, 2] rfl)
  · obtain ⟨ef9, hv9, el9⟩ := hI
    rw [ef9] at hw
    rw [el9] at hl9
    refine lv_iload_n hx hb dX1_lowestAllowed_2 rfl (lv_at hl9 0 rfl) ?_
    refine lv_bipush (v := 9) hx hb dX1_lowestAllowed_3 (by decide) ?_
    refine lv_icmp_gt (tgt := 25) hx hb dX1_lowestAllowed_5 (by decide) (fun _ => ?_) (fun c9 => absurd (by decide) c9)
    refine lv_iconst (v := (-1)) hx hb dX1_lowestAllowed_25 (by decide) ?_
    exact hp_iret (v := (-1)) B0 hw hS hr ⟨Nat.le_of_ble_eq_true rfl, Nat.le_of_ble_eq_true rfl⟩ dX1_lowestAllowed_26 (⟨rfl, congrArg (fun z9 => some (Value.int z9)) hv9⟩)

set_option maxHeartbeats 4000000 in
set_option maxRecDepth 100000 in
theorem c_X1_kindX {l : Launch} (hl : l.stackTraces = false) (G : hG) (f : hM) (en nw na nq nr : Nat) (mg st tm sr li lp mi : Int32) (ga : Nat → Int32) (k_en : f en = some (.inr (1, [.ref nw, .ref na, .ref nq, .ref nr, .int mg, .int st, .int tm, .int sr, .int li, .int lp, .int mi]))) (k_na : f na = some (.inl (cI G, 6, .inl ga))) (nv : Nat) (gv : Nat → Int32) (k_nv : f nv = some (.inl (cI G, 6, .inl gv))) : CT l yX1_kindOfAnswer (.code yX1_kindOfAnswer cX1_kindOfAnswer 4 (some .int)) 2 44 0 0 G [.ref en, .ref nv] f (fun v f1 => f1 = f ∧ v = some (.int (kindF ga gv))) (fun E f1 => False) := by
  refine hp_start hl (own := RX1) (by decide) rfl (Nat.le_of_ble_eq_true rfl) ?_
  intro p e s m args below meth c B0 hr hnm hout hw hS ls hl9
  have hx := B0.1
  have hb := B0.2.1
  have hl9 : lv_has ls 4 [(0, .ref en), (1, .ref nv)] := hl9
  refine lv_iconst (v := 1) hx hb dX1_kindOfAnswer_0 (by decide) ?_
  refine lv_istore_n (lv' := [(2, .int 1), (0, .ref en), (1, .ref nv)]) hx hb dX1_kindOfAnswer_1 rfl hl9 (by decide) rfl (fun ls hl9 => ?_)
  refine lv_iconst (v := 0) hx hb dX1_kindOfAnswer_2 (by decide) ?_
  refine lv_istore_n (lv' := [(3, .int 0), (2, .int 1), (0, .ref en), (1, .ref nv)]) hx hb dX1_kindOfAnswer_3 rfl hl9 (by decide) rfl (fun ls hl9 => ?_)
  refine hp_for (nL := 4) (pc := 4) (fun j f9 lv9 => f9 = f ∧ ∃ k9 : Int32, kFn ga gv (6 - j) j k9 = kindF ga gv ∧ lv9 = [(3, .int (nI j)), (2, .int k9), (0, .ref en), (1, .ref nv)]) 6 (fun j f9 lv9 H locs ls hj hI hw hS hl9 ih => ?_) (fun f9 lv9 H locs ls hI hw hS hl9 => ?_) 6 0 (by decide) f _ _ _ ls ⟨rfl, _, rfl, rfl⟩ hw hS (lv_sub hl9 [0, 1, 2, 3] rfl)
  · obtain ⟨ef9, k9, hv9, el9⟩ := hI
    rw [ef9] at hw
    rw [el9] at hl9
    refine lv_iload_n hx hb dX1_kindOfAnswer_4 rfl (lv_at hl9 0 rfl) ?_
    refine lv_bipush (v := 6) hx hb dX1_kindOfAnswer_5 (by decide) ?_
    refine lv_icmp_ge (tgt := 42) hx hb dX1_kindOfAnswer_7 (by decide) (fun c9 => absurd c9 (by rw [show (6 : Int32) = nI 6 from rfl]; exact nI_ge hj (by omega))) (fun _ => ?_)
    refine lv_aload_n hx hb dX1_kindOfAnswer_10 rfl (lv_at hl9 2 rfl) ?_
    refine lv_iload_n hx hb dX1_kindOfAnswer_11 rfl (lv_at hl9 0 rfl) ?_
    refine lv_aload_n hx hb dX1_kindOfAnswer_12 rfl (lv_at hl9 3 rfl) ?_
    refine lv_iload_n hx hb dX1_kindOfAnswer_13 rfl (lv_at hl9 0 rfl) ?_
    refine hp_iald B0 hw k_nv (vin6j hj) dX1_kindOfAnswer_14 ?_
    refine hp_c (v := (gv j)) (congrArg gv (nI_clamp (by omega))) ?_
    refine hp_V (ci := 1) (As := [.int (nI j), .int (gv j)]) (rest := []) B0 hw hS (c_X1_unkX hl G f en nw na nq nr mg st tm sr li lp mi ga k_en k_na j hj (gv j)) mV_X1_isUnknown qM_X1_117 rfl k_en rfl rfl hl9.1 (Nat.le_of_ble_eq_true rfl) ⟨⟨Nat.le_of_ble_eq_true rfl, Nat.le_of_ble_eq_true rfl⟩, Nat.le_of_ble_eq_true rfl, Nat.le_of_ble_eq_true rfl⟩ dX1_kindOfAnswer_15 (fun E ce q9 f1 H locs hPX hw hS hce hcv hcl => ?_) (fun v f1 H locs hP hw hS => ?_)
    · exact hPX.elim
    · obtain ⟨ef9, hv9⟩ := hP
      rw [ef9] at hw
      rcases hv9 with ⟨ev9, c2⟩ | ⟨ev9, c2⟩
      · subst ev9
        refine W.eq (g2 := F0 m 18 ls [.int 1]) rfl ?_
        refine lv_if_eq (tgt := 23) hx hb dX1_kindOfAnswer_18 (by decide) (fun c9 => absurd c9 (by decide)) (fun _ => ?_)
        refine lv_iconst (v := 3) hx hb dX1_kindOfAnswer_21 (by decide) ?_
        exact hp_iret (v := 3) B0 hw hS hr ⟨Nat.le_of_ble_eq_true rfl, Nat.le_of_ble_eq_true rfl⟩ dX1_kindOfAnswer_22 (⟨rfl, congrArg (fun z9 => some (Value.int z9)) (by rw [← hv9, show 6 - j = (6 - (j + 1)) + 1 by omega, kFn_3 c2])⟩)
      · subst ev9
        refine W.eq (g2 := F0 m 18 ls [.int 0]) rfl ?_
        refine lv_if_eq (tgt := 23) hx hb dX1_kindOfAnswer_18 (by decide) (fun _ => ?_) (fun c9 => absurd (by decide) c9)
        refine lv_aload_n hx hb dX1_kindOfAnswer_23 rfl (lv_at hl9 2 rfl) ?_
        refine lv_iload_n hx hb dX1_kindOfAnswer_24 rfl (lv_at hl9 0 rfl) ?_
        refine lv_aload_n hx hb dX1_kindOfAnswer_25 rfl (lv_at hl9 3 rfl) ?_
        refine lv_iload_n hx hb dX1_kindOfAnswer_26 rfl (lv_at hl9 0 rfl) ?_
        refine hp_iald B0 hw k_nv (vin6j hj) dX1_kindOfAnswer_27 ?_
        refine hp_c (v := (gv j)) (congrArg gv (nI_clamp (by omega))) ?_
        refine hp_V (ci := 1) (As := [.int (nI j), .int (gv j)]) (rest := []) B0 hw hS (c_X1_rfsX hl G f en nw na nq nr mg st tm sr li lp mi ga k_en k_na j hj (gv j)) mV_X1_isRefused qM_X1_121 rfl k_en rfl rfl hl9.1 (Nat.le_of_ble_eq_true rfl) ⟨⟨Nat.le_of_ble_eq_true rfl, Nat.le_of_ble_eq_true rfl⟩, Nat.le_of_ble_eq_true rfl, Nat.le_of_ble_eq_true rfl⟩ dX1_kindOfAnswer_28 (fun E ce q9 f3 H locs hPX hw hS hce hcv hcl => ?_) (fun v f3 H locs hP hw hS => ?_)
        · exact hPX.elim
        · obtain ⟨ef9, hv9⟩ := hP
          rw [ef9] at hw
          rcases hv9 with ⟨ev9, c4⟩ | ⟨ev9, c4⟩
          · subst ev9
            refine W.eq (g2 := F0 m 31 ls [.int 1]) rfl ?_
            refine lv_if_eq (tgt := 36) hx hb dX1_kindOfAnswer_31 (by decide) (fun c9 => absurd c9 (by decide)) (fun _ => ?_)
            refine lv_iconst (v := 2) hx hb dX1_kindOfAnswer_34 (by decide) ?_
            refine lv_istore_n (lv' := [(2, .int 2), (3, .int (nI j)), (0, .ref en), (1, .ref nv)]) hx hb dX1_kindOfAnswer_35 rfl hl9 (by decide) rfl (fun ls hl9 => ?_)
            refine lv_iinc (v := (nI (j + 1))) (lv' := [(3, .int (nI (j + 1))), (2, .int 2), (0, .ref en), (1, .ref nv)]) hx hb dX1_kindOfAnswer_36 hl9 (k := 1) rfl (nI_1 j) (by decide) rfl (fun ls hl9 => ?_)
            refine lv_goto (tgt := 4) hx hb dX1_kindOfAnswer_39 (by decide) ?_
            exact ih _ _ H locs ls ⟨rfl, _, (by rw [← hv9, show 6 - j = (6 - (j + 1)) + 1 by omega, kFn_2 c2 c4]), rfl⟩ hw hS (lv_sub hl9 [0, 1, 2, 3] rfl)
          · subst ev9
            refine W.eq (g2 := F0 m 31 ls [.int 0]) rfl ?_
            refine lv_if_eq (tgt := 36) hx hb dX1_kindOfAnswer_31 (by decide) (fun _ => ?_) (fun c9 => absurd (by decide) c9)
            refine lv_iinc (v := (nI (j + 1))) (lv' := [(3, .int (nI (j + 1))), (2, .int k9), (0, .ref en), (1, .ref nv)]) hx hb dX1_kindOfAnswer_36 hl9 (k := 0) rfl (nI_1 j) (by decide) rfl (fun ls hl9 => ?_)
            refine lv_goto (tgt := 4) hx hb dX1_kindOfAnswer_39 (by decide) ?_
            exact ih _ _ H locs ls ⟨rfl, _, (by rw [← hv9, show 6 - j = (6 - (j + 1)) + 1 by omega, kFn_1 c2 c4]), rfl⟩ hw hS (lv_sub hl9 [0, 1, 2, 3] rfl)
  · obtain ⟨ef9, k9, hv9, el9⟩ := hI
    rw [ef9] at hw
    rw [el9] at hl9
    refine lv_iload_n hx hb dX1_kindOfAnswer_4 rfl (lv_at hl9 0 rfl) ?_
    refine lv_bipush (v := 6) hx hb dX1_kindOfAnswer_5 (by decide) ?_
    refine lv_icmp_ge (tgt := 42) hx hb dX1_kindOfAnswer_7 (by decide) (fun _ => ?_) (fun c9 => absurd (by decide) c9)
    refine lv_iload_n hx hb dX1_kindOfAnswer_42 rfl (lv_at hl9 1 rfl) ?_
    exact hp_iret (v := k9) B0 hw hS hr ⟨Nat.le_of_ble_eq_true rfl, Nat.le_of_ble_eq_true rfl⟩ dX1_kindOfAnswer_43 (⟨rfl, congrArg (fun z9 => some (Value.int z9)) hv9⟩)

set_option maxHeartbeats 4000000 in
set_option maxRecDepth 100000 in
theorem c_X1_toldX {l : Launch} (hl : l.stackTraces = false) (G : hG) (f : hM) (en nw na nq nr : Nat) (mg st tm sr li lp mi : Int32) (ga : Nat → Int32) (k_en : f en = some (.inr (1, [.ref nw, .ref na, .ref nq, .ref nr, .int mg, .int st, .int tm, .int sr, .int li, .int lp, .int mi]))) (k_na : f na = some (.inl (cI G, 6, .inl ga))) (nv : Nat) (gv : Nat → Int32) (k_nv : f nv = some (.inl (cI G, 6, .inl gv))) (k : Int32) : CT l yX1_toldOptions (.code yX1_toldOptions cX1_toldOptions 5 (some (.array .int))) 2 44 1 6 G [.ref en, .int k, .ref nv] f (fun v f1 => ∃ q : Nat, v = some (.ref q) ∧ f q = none ∧ f1 = va_up f q (some (.inl (cI G, 6, .inl (toldF ga gv k))))) (fun E f1 => False) := by
  refine hp_start hl (own := RX1) (by decide) rfl (Nat.le_of_ble_eq_true rfl) ?_
  intro p e s m args below meth c B0 hr hnm hout hw hS ls hl9
  have hx := B0.1
  have hb := B0.2.1
  have hl9 : lv_has ls 5 [(0, .ref en), (1, .int k), (2, .ref nv)] := hl9
  refine hp_S (As := []) (rest := []) B0 hw hS (c_X1_tellX hl G f ) mS_X1_tellNothing qM_X1_105 rfl rfl hl9.1 (Nat.le_of_ble_eq_true rfl) ⟨⟨Nat.le_of_ble_eq_true rfl, Nat.le_of_ble_eq_true rfl⟩, Nat.le_of_ble_eq_true rfl, Nat.le_of_ble_eq_true rfl⟩ dX1_toldOptions_0 (fun E ce q9 f1 H locs hPX hw hS hce hcv hcl => ?_) (fun v f1 H locs hP hw hS => ?_)
  · exact hPX.elim
  · obtain ⟨q2, ev9, w3, e4⟩ := hP
    subst ev9
    have h5 : f1 q2 = some (.inl (cI G, 6, .inl N6)) := by rw [e4, va_up_self]
    refine W.eq (g2 := F0 m 3 ls [.ref q2]) rfl ?_
    refine lv_astore_n (lv' := [(3, .ref q2), (0, .ref en), (1, .int k), (2, .ref nv)]) hx hb dX1_toldOptions_3 rfl hl9 (by decide) rfl (fun ls hl9 => ?_)
    refine lv_iconst (v := 0) hx hb dX1_toldOptions_4 (by decide) ?_
    refine lv_istore (lv' := [(4, .int 0), (3, .ref q2), (0, .ref en), (1, .int k), (2, .ref nv)]) hx hb dX1_toldOptions_5 hl9 (by decide) rfl (fun ls hl9 => ?_)
    refine hp_for (nL := 5) (pc := 7) (fun j f9 lv9 => f9 = va_up f q2 (some (.inl (cI G, 6, .inl (toldN ga gv k j)))) ∧ lv9 = [(4, .int (nI j)), (3, .ref q2), (0, .ref en), (1, .int k), (2, .ref nv)]) 6 (fun j f9 lv9 H locs ls hj hI hw hS hl9 ih => ?_) (fun f9 lv9 H locs ls hI hw hS hl9 => ?_) 6 0 (by decide) f1 _ _ _ ls ⟨(by rw [toldN_0]; exact e4), rfl⟩ hw hS (lv_sub hl9 [0, 1, 2, 3, 4] rfl)
    · obtain ⟨efq, el9⟩ := hI
      rw [el9] at hl9
      have h6 : f9 q2 = some (.inl (cI G, 6, .inl (toldN ga gv k j))) := by rw [efq, va_up_self]
      refine lv_iload hx hb dX1_toldOptions_7 (lv_at hl9 0 rfl) ?_
      refine lv_bipush (v := 6) hx hb dX1_toldOptions_9 (by decide) ?_
      refine lv_icmp_ge (tgt := 74) hx hb dX1_toldOptions_11 (by decide) (fun c9 => absurd c9 (by rw [show (6 : Int32) = nI 6 from rfl]; exact nI_ge hj (by omega))) (fun _ => ?_)
      refine lv_iload_n hx hb dX1_toldOptions_14 rfl (lv_at hl9 3 rfl) ?_
      refine lv_iconst (v := 3) hx hb dX1_toldOptions_15 (by decide) ?_
      refine lv_icmp_ne (tgt := 40) hx hb dX1_toldOptions_16 (by decide) (fun c7 => ?_) (fun c7 => ?_)
      · refine lv_iload_n hx hb dX1_toldOptions_40 rfl (lv_at hl9 3 rfl) ?_
        refine lv_iconst (v := 2) hx hb dX1_toldOptions_41 (by decide) ?_
        refine lv_icmp_ne (tgt := 68) hx hb dX1_toldOptions_42 (by decide) (fun c8 => ?_) (fun c8 => ?_)
        · refine lv_iinc (v := (nI (j + 1))) (lv' := [(4, .int (nI (j + 1))), (3, .ref q2), (0, .ref en), (1, .int k), (2, .ref nv)]) hx hb dX1_toldOptions_68 hl9 (k := 0) rfl (nI_1 j) (by decide) rfl (fun ls hl9 => ?_)
          refine lv_goto (tgt := 7) hx hb dX1_toldOptions_71 (by decide) ?_
          exact ih _ _ H locs ls ⟨(by rw [← toldN_k hj (by unfold tlF; rw [if_neg (fun h9 => c8 h9.1), if_neg (fun h9 => c7 h9.1)])]; exact efq), rfl⟩ hw hS (lv_sub hl9 [0, 1, 2, 3, 4] rfl)
        · refine lv_aload_n hx hb dX1_toldOptions_45 rfl (lv_at hl9 2 rfl) ?_
          refine lv_iload hx hb dX1_toldOptions_46 (lv_at hl9 0 rfl) ?_
          refine lv_aload_n hx hb dX1_toldOptions_48 rfl (lv_at hl9 4 rfl) ?_
          refine lv_iload hx hb dX1_toldOptions_49 (lv_at hl9 0 rfl) ?_
          have h10 : f9 nv = some (.inl (cI G, 6, .inl gv)) := by rw [efq, va_up_ne _ _ (hnew k_nv w3)]; exact k_nv
          refine hp_iald B0 hw h10 (vin6j hj) dX1_toldOptions_51 ?_
          refine hp_c (v := (gv j)) (congrArg gv (nI_clamp (by omega))) ?_
          have h11 : f9 en = some (.inr (1, [.ref nw, .ref na, .ref nq, .ref nr, .int mg, .int st, .int tm, .int sr, .int li, .int lp, .int mi])) := by rw [efq, va_up_ne _ _ (hnew k_en w3)]; exact k_en
          have h12 : f9 na = some (.inl (cI G, 6, .inl ga)) := by rw [efq, va_up_ne _ _ (hnew k_na w3)]; exact k_na
          refine hp_V (ci := 1) (As := [.int (nI j), .int (gv j)]) (rest := []) B0 hw hS (c_X1_rfsX hl G f9 en nw na nq nr mg st tm sr li lp mi ga h11 h12 j hj (gv j)) mV_X1_isRefused qM_X1_121 rfl h11 rfl rfl hl9.1 (Nat.le_of_ble_eq_true rfl) ⟨⟨Nat.le_of_ble_eq_true rfl, Nat.le_of_ble_eq_true rfl⟩, Nat.le_of_ble_eq_true rfl, Nat.le_of_ble_eq_true rfl⟩ dX1_toldOptions_52 (fun E ce q9 f13 H locs hPX hw hS hce hcv hcl => ?_) (fun v f13 H locs hP hw hS => ?_)
          · exact hPX.elim
          · obtain ⟨ef9, hv9⟩ := hP
            rw [ef9] at hw
            rcases hv9 with ⟨ev9, c14⟩ | ⟨ev9, c14⟩
            · subst ev9
              refine W.eq (g2 := F0 m 55 ls [.int 1]) rfl ?_
              refine lv_if_eq (tgt := 68) hx hb dX1_toldOptions_55 (by decide) (fun c9 => absurd c9 (by decide)) (fun _ => ?_)
              refine lv_aload_n hx hb dX1_toldOptions_58 rfl (lv_at hl9 1 rfl) ?_
              refine lv_iload hx hb dX1_toldOptions_59 (lv_at hl9 0 rfl) ?_
              refine lv_aload_n hx hb dX1_toldOptions_61 rfl (lv_at hl9 2 rfl) ?_
              refine lv_iload hx hb dX1_toldOptions_62 (lv_at hl9 0 rfl) ?_
              refine hp_V (ci := 1) (As := [.int (nI j)]) (rest := [.int (nI j), .ref q2]) B0 hw hS (c_X1_lowX hl G f9 en nw na nq nr mg st tm sr li lp mi ga h11 h12 j hj) mV_X1_lowestAllowed qM_X1_124 rfl h11 rfl rfl hl9.1 (Nat.le_of_ble_eq_true rfl) ⟨⟨Nat.le_of_ble_eq_true rfl, Nat.le_of_ble_eq_true rfl⟩, Nat.le_of_ble_eq_true rfl, Nat.le_of_ble_eq_true rfl⟩ dX1_toldOptions_64 (fun E ce q9 f15 H locs hPX hw hS hce hcv hcl => ?_) (fun v f15 H locs hP hw hS => ?_)
              · exact hPX.elim
              · obtain ⟨ef9, ev9⟩ := hP
                rw [ef9] at hw
                subst ev9
                refine W.eq (g2 := F0 m 67 ls [.int (lowF (ga j)), .int (nI j), .ref q2]) rfl ?_
                refine hp_iast B0 hw hS h6 (vin6j hj) dX1_toldOptions_67 (fun H locs f16 ef16 hw hS => ?_)
                have e17 : f16 = va_up f q2 (some (.inl (cI G, 6, .inl (upd (toldN ga gv k j) ((nI j) : Int32).toNatClampNeg (lowF (ga j)))))) := by rw [ef16, efq, bx_uu]
                have h18 : f16 q2 = some (.inl (cI G, 6, .inl (upd (toldN ga gv k j) ((nI j) : Int32).toNatClampNeg (lowF (ga j))))) := by rw [ef16, va_up_self]
                refine lv_iinc (v := (nI (j + 1))) (lv' := [(4, .int (nI (j + 1))), (3, .ref q2), (0, .ref en), (1, .int k), (2, .ref nv)]) hx hb dX1_toldOptions_68 hl9 (k := 0) rfl (nI_1 j) (by decide) rfl (fun ls hl9 => ?_)
                refine lv_goto (tgt := 7) hx hb dX1_toldOptions_71 (by decide) ?_
                exact ih _ _ H locs ls ⟨(by rw [e17, toldN_s (nI_clamp (by omega)) (by unfold tlF; rw [if_pos ⟨c8, c14⟩])]), rfl⟩ hw hS (lv_sub hl9 [0, 1, 2, 3, 4] rfl)
            · subst ev9
              refine W.eq (g2 := F0 m 55 ls [.int 0]) rfl ?_
              refine lv_if_eq (tgt := 68) hx hb dX1_toldOptions_55 (by decide) (fun _ => ?_) (fun c9 => absurd (by decide) c9)
              refine lv_iinc (v := (nI (j + 1))) (lv' := [(4, .int (nI (j + 1))), (3, .ref q2), (0, .ref en), (1, .int k), (2, .ref nv)]) hx hb dX1_toldOptions_68 hl9 (k := 0) rfl (nI_1 j) (by decide) rfl (fun ls hl9 => ?_)
              refine lv_goto (tgt := 7) hx hb dX1_toldOptions_71 (by decide) ?_
              exact ih _ _ H locs ls ⟨(by rw [← toldN_k hj (by unfold tlF; rw [if_neg (fun h9 => c14 h9.2), if_neg (fun h9 => c7 h9.1)])]; exact efq), rfl⟩ hw hS (lv_sub hl9 [0, 1, 2, 3, 4] rfl)
      · refine lv_aload_n hx hb dX1_toldOptions_19 rfl (lv_at hl9 2 rfl) ?_
        refine lv_iload hx hb dX1_toldOptions_20 (lv_at hl9 0 rfl) ?_
        refine lv_aload_n hx hb dX1_toldOptions_22 rfl (lv_at hl9 4 rfl) ?_
        refine lv_iload hx hb dX1_toldOptions_23 (lv_at hl9 0 rfl) ?_
        have h19 : f9 nv = some (.inl (cI G, 6, .inl gv)) := by rw [efq, va_up_ne _ _ (hnew k_nv w3)]; exact k_nv
        refine hp_iald B0 hw h19 (vin6j hj) dX1_toldOptions_25 ?_
        refine hp_c (v := (gv j)) (congrArg gv (nI_clamp (by omega))) ?_
        have h20 : f9 en = some (.inr (1, [.ref nw, .ref na, .ref nq, .ref nr, .int mg, .int st, .int tm, .int sr, .int li, .int lp, .int mi])) := by rw [efq, va_up_ne _ _ (hnew k_en w3)]; exact k_en
        have h21 : f9 na = some (.inl (cI G, 6, .inl ga)) := by rw [efq, va_up_ne _ _ (hnew k_na w3)]; exact k_na
        refine hp_V (ci := 1) (As := [.int (nI j), .int (gv j)]) (rest := []) B0 hw hS (c_X1_unkX hl G f9 en nw na nq nr mg st tm sr li lp mi ga h20 h21 j hj (gv j)) mV_X1_isUnknown qM_X1_117 rfl h20 rfl rfl hl9.1 (Nat.le_of_ble_eq_true rfl) ⟨⟨Nat.le_of_ble_eq_true rfl, Nat.le_of_ble_eq_true rfl⟩, Nat.le_of_ble_eq_true rfl, Nat.le_of_ble_eq_true rfl⟩ dX1_toldOptions_26 (fun E ce q9 f22 H locs hPX hw hS hce hcv hcl => ?_) (fun v f22 H locs hP hw hS => ?_)
        · exact hPX.elim
        · obtain ⟨ef9, hv9⟩ := hP
          rw [ef9] at hw
          rcases hv9 with ⟨ev9, c23⟩ | ⟨ev9, c23⟩
          · subst ev9
            refine W.eq (g2 := F0 m 29 ls [.int 1]) rfl ?_
            refine lv_if_eq (tgt := 40) hx hb dX1_toldOptions_29 (by decide) (fun c9 => absurd c9 (by decide)) (fun _ => ?_)
            refine lv_aload_n hx hb dX1_toldOptions_32 rfl (lv_at hl9 1 rfl) ?_
            refine lv_iload hx hb dX1_toldOptions_33 (lv_at hl9 0 rfl) ?_
            refine lv_aload_n hx hb dX1_toldOptions_35 rfl (lv_at hl9 4 rfl) ?_
            refine lv_iload hx hb dX1_toldOptions_36 (lv_at hl9 0 rfl) ?_
            refine hp_iald B0 hw h19 (vin6j hj) dX1_toldOptions_38 ?_
            refine hp_c (v := (gv j)) (congrArg gv (nI_clamp (by omega))) ?_
            refine hp_iast B0 hw hS h6 (vin6j hj) dX1_toldOptions_39 (fun H locs f24 ef24 hw hS => ?_)
            have e25 : f24 = va_up f q2 (some (.inl (cI G, 6, .inl (upd (toldN ga gv k j) ((nI j) : Int32).toNatClampNeg (gv j))))) := by rw [ef24, efq, bx_uu]
            have h26 : f24 q2 = some (.inl (cI G, 6, .inl (upd (toldN ga gv k j) ((nI j) : Int32).toNatClampNeg (gv j)))) := by rw [ef24, va_up_self]
            refine lv_iload_n hx hb dX1_toldOptions_40 rfl (lv_at hl9 3 rfl) ?_
            refine lv_iconst (v := 2) hx hb dX1_toldOptions_41 (by decide) ?_
            refine lv_icmp_ne (tgt := 68) hx hb dX1_toldOptions_42 (by decide) (fun _ => ?_) (fun c9 => absurd c9 (by rw [c7]; decide))
            refine lv_iinc (v := (nI (j + 1))) (lv' := [(4, .int (nI (j + 1))), (3, .ref q2), (0, .ref en), (1, .int k), (2, .ref nv)]) hx hb dX1_toldOptions_68 hl9 (k := 0) rfl (nI_1 j) (by decide) rfl (fun ls hl9 => ?_)
            refine lv_goto (tgt := 7) hx hb dX1_toldOptions_71 (by decide) ?_
            exact ih _ _ H locs ls ⟨(by rw [e25, toldN_s (nI_clamp (by omega)) (by unfold tlF; rw [if_neg (fun h9 => absurd h9.1 (by rw [c7]; decide)), if_pos ⟨c7, c23⟩])]), rfl⟩ hw hS (lv_sub hl9 [0, 1, 2, 3, 4] rfl)
          · subst ev9
            refine W.eq (g2 := F0 m 29 ls [.int 0]) rfl ?_
            refine lv_if_eq (tgt := 40) hx hb dX1_toldOptions_29 (by decide) (fun _ => ?_) (fun c9 => absurd (by decide) c9)
            refine lv_iload_n hx hb dX1_toldOptions_40 rfl (lv_at hl9 3 rfl) ?_
            refine lv_iconst (v := 2) hx hb dX1_toldOptions_41 (by decide) ?_
            refine lv_icmp_ne (tgt := 68) hx hb dX1_toldOptions_42 (by decide) (fun _ => ?_) (fun c9 => absurd c9 (by rw [c7]; decide))
            refine lv_iinc (v := (nI (j + 1))) (lv' := [(4, .int (nI (j + 1))), (3, .ref q2), (0, .ref en), (1, .int k), (2, .ref nv)]) hx hb dX1_toldOptions_68 hl9 (k := 0) rfl (nI_1 j) (by decide) rfl (fun ls hl9 => ?_)
            refine lv_goto (tgt := 7) hx hb dX1_toldOptions_71 (by decide) ?_
            exact ih _ _ H locs ls ⟨(by rw [← toldN_k hj (by unfold tlF; rw [if_neg (fun h9 => absurd h9.1 (by rw [c7]; decide)), if_neg (fun h9 => c23 h9.2)])]; exact efq), rfl⟩ hw hS (lv_sub hl9 [0, 1, 2, 3, 4] rfl)
    · obtain ⟨efq, el9⟩ := hI
      rw [el9] at hl9
      have h27 : f9 q2 = some (.inl (cI G, 6, .inl (toldN ga gv k 6))) := by rw [efq, va_up_self]
      refine lv_iload hx hb dX1_toldOptions_7 (lv_at hl9 0 rfl) ?_
      refine lv_bipush (v := 6) hx hb dX1_toldOptions_9 (by decide) ?_
      refine lv_icmp_ge (tgt := 74) hx hb dX1_toldOptions_11 (by decide) (fun _ => ?_) (fun c9 => absurd (by decide) c9)
      refine lv_aload_n hx hb dX1_toldOptions_74 rfl (lv_at hl9 1 rfl) ?_
      exact hp_aret (v := .ref q2) B0 hw hS hr (Or.inr ⟨_, rfl⟩) (Or.inr ⟨_, rfl⟩) ⟨Nat.le_of_ble_eq_true rfl, Nat.le_of_ble_eq_true rfl⟩ dX1_toldOptions_75 (⟨q2, rfl, w3, efq⟩)

set_option maxHeartbeats 4000000 in
set_option maxRecDepth 100000 in
theorem c_X1_answerX {l : Launch} (hl : l.stackTraces = false) (G : hG) (f : hM) (en nw na nq nr : Nat) (st li sr tm lp mi ix : Int32) (gq : Nat → Int32) (L : List Fr) (Q : List (Nat × Nat)) (hE : EX G f en nw na nq nr (st, li, sr, tm, lp, mi, ix, gq, L) Q) (hn : Q.length < 4000) (ga : Nat → Int32) (k_na : f na = some (.inl (cI G, 6, .inl ga))) (haq : na ≠ nq) (fr u : Nat) (rk ri rx : Int32) (rv : Nat → Int32) (nx : Value) (k_fr : f fr = some (.inr (2, [.int rk, .int ri, .int (mgF (rk, ri, rx, rv)), .ref u, nx]))) (k_u : f u = some (.inl (cI G, 6, .inl rv))) (hfQ : fr ∉ ws Q) (huq : u ≠ nq) : CT l yX1_answer (.code yX1_answer cX1_answer 3 none) 3 68 2 11 G [.ref en, .ref fr] f (fun v f1 => v = none ∧ XP G f f1 en nw na nq nr Q (ansS ga (rk, ri, rx, rv) (st, li, sr, tm, lp, mi, ix, gq, L))) (fun E f1 => False) := by
  refine hp_start hl (own := RX1) (by decide) rfl (Nat.le_of_ble_eq_true rfl) ?_
  intro p e s m args below meth c B0 hr hnm hout hw hS ls hl9
  have hx := B0.1
  have hb := B0.2.1
  have hl9 : lv_has ls 3 [(0, .ref en), (1, .ref fr)] := hl9
  have ke1 : f en = some (.inr (1, [.ref nw, .ref na, .ref nq, .ref nr, .int (num ix), .int st, .int tm, .int sr, .int li, .int lp, .int mi])) := (hE).1
  have kq2 : f nq = some (.inl (cI G, 6, .inl gq)) := (hE).2.1
  obtain ⟨hd4, kr3, hc5⟩ := (hE).2.2.1
  refine lv_aload_n hx hb dX1_answer_0 rfl (lv_at hl9 0 rfl) ?_
  refine lv_aload_n hx hb dX1_answer_1 rfl (lv_at hl9 1 rfl) ?_
  refine hp_get B0 hw 2 rfl in_X2 k_fr 3 (by decide) qF_X1_92 rfl dX1_answer_2 ?_
  refine hp_V (ci := 1) (As := [.ref u]) (rest := []) B0 hw hS (c_X1_kindX hl G f en nw na nq nr (num ix) st tm sr li lp mi ga ke1 k_na u rv k_u) mV_X1_kindOfAnswer qM_X1_109 rfl ke1 rfl rfl hl9.1 (Nat.le_of_ble_eq_true rfl) ⟨⟨Nat.le_of_ble_eq_true rfl, Nat.le_of_ble_eq_true rfl⟩, Nat.le_of_ble_eq_true rfl, Nat.le_of_ble_eq_true rfl⟩ dX1_answer_5 (fun E ce q9 f6 H locs hPX hw hS hce hcv hcl => ?_) (fun v f6 H locs hP hw hS => ?_)
  · exact hPX.elim
  · obtain ⟨ef9, ev9⟩ := hP
    rw [ef9] at hw
    subst ev9
    refine W.eq (g2 := F0 m 8 ls [.int (kindF ga rv)]) rfl ?_
    refine lv_istore_n (lv' := [(2, .int (kindF ga rv)), (0, .ref en), (1, .ref fr)]) hx hb dX1_answer_8 rfl hl9 (by decide) rfl (fun ls hl9 => ?_)
    refine lv_aload_n hx hb dX1_answer_9 rfl (lv_at hl9 1 rfl) ?_
    refine hp_get B0 hw 1 rfl in_X1 ke1 3 (by decide) qF_X1_24 rfl dX1_answer_10 ?_
    refine hp_new (fs := [.int 0, .int 0, .int 0, .null, .null]) B0 hw hS 2 rfl in_X2 tyX2 tyX2_ok qC_X1_71 qI_X2 qN_X2 (fun j hj => by rcases (show j = 0 ∨ j = 1 ∨ j = 2 ∨ j = 3 ∨ j = 4 by omega) with rfl | rfl | rfl | rfl | rfl <;> rfl) (Nat.le_of_ble_eq_true rfl) (Nat.le_of_ble_eq_true rfl) dX1_answer_13 (fun q7 H f10 w8 ef10 hw hS => ?_)
    have h11 : f10 q7 = some (.inr (2, [.int 0, .int 0, .int 0, .null, .null])) := by rw [ef10, va_up_self]
    refine lv_dup hx hb dX1_answer_16 rfl ?_
    refine lv_iload_n hx hb dX1_answer_17 rfl (lv_at hl9 0 rfl) ?_
    refine lv_aload_n hx hb dX1_answer_18 rfl (lv_at hl9 2 rfl) ?_
    have h12 : f10 fr = some (.inr (2, [.int rk, .int ri, .int (mgF (rk, ri, rx, rv)), .ref u, nx])) := by rw [ef10, va_up_ne _ _ (hnew k_fr w8)]; exact k_fr
    refine hp_get B0 hw 2 rfl in_X2 h12 1 (by decide) qF_X1_86 rfl dX1_answer_19 ?_
    refine lv_iconst (v := 0) hx hb dX1_answer_22 (by decide) ?_
    refine lv_aload_n hx hb dX1_answer_23 rfl (lv_at hl9 1 rfl) ?_
    refine lv_iload_n hx hb dX1_answer_24 rfl (lv_at hl9 0 rfl) ?_
    refine lv_aload_n hx hb dX1_answer_25 rfl (lv_at hl9 2 rfl) ?_
    refine hp_get B0 hw 2 rfl in_X2 h12 3 (by decide) qF_X1_92 rfl dX1_answer_26 ?_
    have h13 : f10 u = some (.inl (cI G, 6, .inl rv)) := by rw [ef10, va_up_ne _ _ (hnew k_u w8)]; exact k_u
    have h14 : f10 en = some (.inr (1, [.ref nw, .ref na, .ref nq, .ref nr, .int (num ix), .int st, .int tm, .int sr, .int li, .int lp, .int mi])) := by rw [ef10, va_up_ne _ _ (hnew ke1 w8)]; exact ke1
    have h15 : f10 na = some (.inl (cI G, 6, .inl ga)) := by rw [ef10, va_up_ne _ _ (hnew k_na w8)]; exact k_na
    refine hp_V (ci := 1) (As := [.int (kindF ga rv), .ref u]) (rest := [.int 0, .int ri, .int (kindF ga rv), .ref q7, .ref q7, .ref nr]) B0 hw hS (c_X1_toldX hl G f10 en nw na nq nr (num ix) st tm sr li lp mi ga h14 h15 u rv h13 (kindF ga rv)) mV_X1_toldOptions qM_X1_113 rfl h14 rfl rfl hl9.1 (Nat.le_of_ble_eq_true rfl) ⟨⟨Nat.le_of_ble_eq_true rfl, Nat.le_of_ble_eq_true rfl⟩, Nat.le_of_ble_eq_true rfl, Nat.le_of_ble_eq_true rfl⟩ dX1_answer_29 (fun E ce q9 f16 H locs hPX hw hS hce hcv hcl => ?_) (fun v f16 H locs hP hw hS => ?_)
    · exact hPX.elim
    · obtain ⟨q17, ev9, w18, e19⟩ := hP
      subst ev9
      have h20 : f16 q17 = some (.inl (cI G, 6, .inl (toldF ga rv (kindF ga rv)))) := by rw [e19, va_up_self]
      refine W.eq (g2 := F0 m 32 ls [.ref q17, .int 0, .int ri, .int (kindF ga rv), .ref q7, .ref q7, .ref nr]) rfl ?_
      have h21 : f16 q7 = some (.inr (2, [.int 0, .int 0, .int 0, .null, .null])) := by rw [e19, va_up_ne _ _ (hnew h11 w18)]; exact h11
      refine hp_I (As := [.int (kindF ga rv), .int ri, .int 0, .ref q17]) (rest := [.ref q7, .ref nr]) (b := q7) B0 hw hS (c_X2_initE hl G f16 q7 q17 (kindF ga rv) ri 0 h21) mI_X2_init qM_X1_99 rfl rfl hl9.1 (Nat.le_of_ble_eq_true rfl) ⟨⟨Nat.le_of_ble_eq_true rfl, Nat.le_of_ble_eq_true rfl⟩, Nat.le_of_ble_eq_true rfl, Nat.le_of_ble_eq_true rfl⟩ dX1_answer_32 (fun E ce q9 f22 H locs hPX hw hS hce hcv hcl => ?_) (fun v f22 H locs hP hw hS => ?_)
      · exact hPX.elim
      · obtain ⟨ev9, e23⟩ := hP
        subst ev9
        have h24 : f22 q7 = some (.inr (2, [.int (kindF ga rv), .int ri, .int 0, .ref q17, .null])) := by rw [e23, va_up_self]
        refine W.eq (g2 := F0 m 35 ls [.ref q7, .ref nr]) rfl ?_
        have n26 : q7 ≠ q17 := hnew h11 w18
        have h25 : f22 q17 = some (.inl (cI G, 6, .inl (toldF ga rv (kindF ga rv)))) := by rw [e23, va_up_ne _ _ (Ne.symm n26)]; exact h20
        have h27 : f10 nr = some (.inr (3, [hd4, (lastV Q), .int (nI (Q).length)])) := by rw [ef10, va_up_ne _ _ (hnew kr3 w8)]; exact kr3
        have h28 : f16 nr = some (.inr (3, [hd4, (lastV Q), .int (nI (Q).length)])) := by rw [e19, va_up_ne _ _ (hnew h27 w18)]; exact h27
        have n30 : nr ≠ q7 := hnew kr3 w8
        have h29 : f22 nr = some (.inr (3, [hd4, (lastV Q), .int (nI (Q).length)])) := by rw [e23, va_up_ne _ _ n30]; exact h28
        have k31 : f22 q7 = some (.inr (2, [.int (kindF ga rv), .int ri, .int (mgF (kindF ga rv, ri, ix, toldF ga rv (kindF ga rv))), .ref q17, .null])) := by rw [show mgF (kindF ga rv, ri, ix, toldF ga rv (kindF ga rv)) = 0 from if_neg (kindF_ne0 ga rv)]; exact h24
        have hN32 : ∀ c9 ∈ [(q7, q17)], f c9.1 = none ∧ f c9.2 = none := fun c9 hc9 => by rw [List.mem_singleton.mp hc9]; exact ⟨((fun _ h9 => h9) _ w8), ((hK2.trn w8 (show hK2 [q7] [] f f10 from (by rw [ef10]; exact hK2.new w8))).1 _ w18)⟩
        refine hp_V (ci := 3) (As := [.ref q7]) (rest := []) B0 hw hS (c_X3_putX hl G f22 nr q7 q17 (kindF ga rv, ri, ix, toldF ga rv (kindF ga rv)) Q L ⟨_, h29, (CH.kp (hK2.trn w8 ((show hK2 [q7, en, nq, nr] [] f f10 from (by rw [ef10]; exact hK2.new w8)).tr (hK2.trn w18 ((show hK2 [q17, q7, en, nq, nr] [] f10 f16 from (by rw [e19]; exact hK2.new w18)).tr (show hK2 [q17, q7, en, nq, nr] [] f16 f22 from (by rw [e23]; exact hK2.up (List.mem_cons_of_mem _ List.mem_cons_self))))))) hc5 (EX.cu (hE)) (EX.sf (hE)))⟩ k31 h25 (CH.fresh hc5 (hN32 (q7, q17) (List.mem_singleton.mpr rfl)).1) (hE).2.2.2.1 (Nat.lt_trans hn (by decide))) mV_X3_put qM_X1_102 rfl h29 rfl rfl hl9.1 (Nat.le_of_ble_eq_true rfl) ⟨⟨Nat.le_of_ble_eq_true rfl, Nat.le_of_ble_eq_true rfl⟩, Nat.le_of_ble_eq_true rfl, Nat.le_of_ble_eq_true rfl⟩ dX1_answer_35 (fun E ce q9 f33 H locs hPX hw hS hce hcv hcl => ?_) (fun v f33 H locs hP hw hS => ?_)
        · exact hPX.elim
        · obtain ⟨ev9, hR34, k35⟩ := hP
          subst ev9
          have h36 : f16 en = some (.inr (1, [.ref nw, .ref na, .ref nq, .ref nr, .int (num ix), .int st, .int tm, .int sr, .int li, .int lp, .int mi])) := by rw [e19, va_up_ne _ _ (hnew h14 w18)]; exact h14
          have n38 : en ≠ q7 := hnew ke1 w8
          have h37 : f22 en = some (.inr (1, [.ref nw, .ref na, .ref nq, .ref nr, .int (num ix), .int st, .int tm, .int sr, .int li, .int lp, .int mi])) := by rw [e23, va_up_ne _ _ n38]; exact h36
          have h39 : f10 nq = some (.inl (cI G, 6, .inl gq)) := by rw [ef10, va_up_ne _ _ (hnew kq2 w8)]; exact kq2
          have h40 : f16 nq = some (.inl (cI G, 6, .inl gq)) := by rw [e19, va_up_ne _ _ (hnew h39 w18)]; exact h39
          have n42 : nq ≠ q7 := hnew kq2 w8
          have h41 : f22 nq = some (.inl (cI G, 6, .inl gq)) := by rw [e23, va_up_ne _ _ n42]; exact h40
          have n43 : en ≠ nr := hne ke1 kr3 (Nat.ne_of_beq_eq_false rfl)
          have h44 : f33 en = some (.inr (1, [.ref nw, .ref na, .ref nq, .ref nr, .int (num ix), .int st, .int tm, .int sr, .int li, .int lp, .int mi])) := k35.2 _ _ h37 (ninc n43 nin0) (fun t9 => absurd t9 (Nat.ne_of_beq_eq_false rfl))
          have n45 : nq ≠ nr := hne kq2 kr3 (Nat.ne_of_beq_eq_false rfl)
          have h46 : f33 nq = some (.inl (cI G, 6, .inl gq)) := k35.2 _ _ h41 (ninc n45 nin0) (fun t9 => absurd t9 (Nat.ne_of_beq_eq_false rfl))
          have hE47 : EX G f33 en nw na nq nr (st, li, sr, tm, lp, mi, ix, gq, (L ++ [(kindF ga rv, ri, ix, toldF ga rv (kindF ga rv))])) (Q ++ [(q7, q17)]) := ⟨h44, h46, hR34, nd_snoc (hE).2.2.2.1 (CH.fresh hc5 (hN32 (q7, q17) (List.mem_singleton.mpr rfl)).1), nuN (hE).2.2.2.2.1 kq2 hN32, (hE).2.2.2.2.2⟩
          have ke48 : f33 en = some (.inr (1, [.ref nw, .ref na, .ref nq, .ref nr, .int (num ix), .int st, .int tm, .int sr, .int li, .int lp, .int mi])) := (hE47).1
          have kq49 : f33 nq = some (.inl (cI G, 6, .inl gq)) := (hE47).2.1
          obtain ⟨hd51, kr50, hc52⟩ := (hE47).2.2.1
          refine W.eq (g2 := F0 m 38 ls []) rfl ?_
          refine lv_iload_n hx hb dX1_answer_38 rfl (lv_at hl9 0 rfl) ?_
          refine lv_iconst (v := 1) hx hb dX1_answer_39 (by decide) ?_
          refine lv_icmp_eq (tgt := 66) hx hb dX1_answer_40 (by decide) (fun c53 => ?_) (fun c53 => ?_)
          · refine lv_aload_n hx hb dX1_answer_66 rfl (lv_at hl9 1 rfl) ?_
            refine hp_get B0 hw 1 rfl in_X1 ke48 5 (by decide) qF_X1_28 rfl dX1_answer_67 ?_
            refine lv_iconst (v := 1) hx hb dX1_answer_70 (by decide) ?_
            refine lv_icmp_ne (tgt := 82) hx hb dX1_answer_71 (by decide) (fun c54 => ?_) (fun c54 => ?_)
            · refine lv_aload_n hx hb dX1_answer_82 rfl (lv_at hl9 1 rfl) ?_
              refine hp_get B0 hw 1 rfl in_X1 ke48 5 (by decide) qF_X1_28 rfl dX1_answer_83 ?_
              refine lv_iconst (v := 2) hx hb dX1_answer_86 (by decide) ?_
              refine lv_icmp_ne (tgt := 95) hx hb dX1_answer_87 (by decide) (fun c55 => ?_) (fun c55 => ?_)
              · exact hp_vret B0 hw hS hr ⟨Nat.le_of_ble_eq_true rfl, Nat.le_of_ble_eq_true rfl⟩ dX1_answer_95 (⟨rfl, ⟨_, hN32, (by rw [show ansS ga (rk, ri, rx, rv) (st, li, sr, tm, lp, mi, ix, gq, L) = (st, li, sr, tm, lp, mi, ix, gq, (L ++ [(kindF ga rv, ri, ix, toldF ga rv (kindF ga rv))])) from congrArg (fun z9 => addS (z9, li, sr, tm, lp, mi, ix, gq, L) (kindF ga rv, ri, ix, toldF ga rv (kindF ga rv))) (show ansT st (kindF ga rv) = st from ((if_pos c53).trans (if_neg c54)).trans (if_neg c55))]; exact (show EX G f33 en nw na nq nr (st, li, sr, tm, lp, mi, ix, gq, (L ++ [(kindF ga rv, ri, ix, toldF ga rv (kindF ga rv))])) (Q ++ [(q7, q17)]) from ⟨ke48, kq49, ⟨_, kr50, hc52⟩, (hE47).2.2.2.1, (hE47).2.2.2.2.1, (hE).2.2.2.2.2⟩)), (hK2.trn w8 ((show hK2 [q7, en, nq, nr] Q f f10 from (by rw [ef10]; exact hK2.new w8)).tr (hK2.trn w18 ((show hK2 [q17, q7, en, nq, nr] Q f10 f16 from (by rw [e19]; exact hK2.new w18)).tr ((show hK2 [q17, q7, en, nq, nr] Q f16 f22 from (by rw [e23]; exact hK2.up (List.mem_cons_of_mem _ List.mem_cons_self))).tr (show hK2 [q17, q7, en, nq, nr] Q f22 f33 from (k35.mono (sub_cons (List.mem_cons_of_mem _ (List.mem_cons_of_mem _ (List.mem_cons_of_mem _ (List.mem_cons_of_mem _ List.mem_cons_self)))) sub_nil))))))))⟩⟩)
              · refine lv_aload_n hx hb dX1_answer_90 rfl (lv_at hl9 1 rfl) ?_
                refine lv_iconst (v := 4) hx hb dX1_answer_91 (by decide) ?_
                refine hp_put (fs1 := [.ref nw, .ref na, .ref nq, .ref nr, .int (num ix), .int 4, .int tm, .int sr, .int li, .int lp, .int mi]) (ty := .int) B0 hw hS 1 rfl in_X1 tyX1 tyX1_ok nmX1 ke48 5 (by decide) qF_X1_28 rfl (by decide +kernel) rfl rfl (Nat.le_of_ble_eq_true rfl) rfl dX1_answer_92 (fun H locs f56 ef56 hw hS => ?_)
                have h57 : f56 en = some (.inr (1, [.ref nw, .ref na, .ref nq, .ref nr, .int (num ix), .int 4, .int tm, .int sr, .int li, .int lp, .int mi])) := by rw [ef56, va_up_self]
                have n59 : nq ≠ en := hne kq2 ke1 (Nat.ne_of_beq_eq_false rfl)
                have h58 : f56 nq = some (.inl (cI G, 6, .inl gq)) := by rw [ef56, va_up_ne _ _ n59]; exact kq49
                have h60 : f56 nr = some (.inr (3, [hd51, (lastV (Q ++ [(q7, q17)])), .int (nI ((Q ++ [(q7, q17)])).length)])) := by rw [ef56, va_up_ne _ _ (Ne.symm n43)]; exact kr50
                exact hp_vret B0 hw hS hr ⟨Nat.le_of_ble_eq_true rfl, Nat.le_of_ble_eq_true rfl⟩ dX1_answer_95 (⟨rfl, ⟨_, hN32, (by rw [show ansS ga (rk, ri, rx, rv) (st, li, sr, tm, lp, mi, ix, gq, L) = (4, li, sr, tm, lp, mi, ix, gq, (L ++ [(kindF ga rv, ri, ix, toldF ga rv (kindF ga rv))])) from congrArg (fun z9 => addS (z9, li, sr, tm, lp, mi, ix, gq, L) (kindF ga rv, ri, ix, toldF ga rv (kindF ga rv))) (show ansT st (kindF ga rv) = 4 from ((if_pos c53).trans (if_neg c54)).trans (if_pos c55))]; exact (show EX G f56 en nw na nq nr (4, li, sr, tm, lp, mi, ix, gq, (L ++ [(kindF ga rv, ri, ix, toldF ga rv (kindF ga rv))])) (Q ++ [(q7, q17)]) from ⟨h57, h58, ⟨_, h60, (CH.kp (show hK2 [en, nq, nr] [] f33 f56 from (by rw [ef56]; exact hK2.up List.mem_cons_self)) hc52 (EX.cu (hE47)) (EX.sf (hE47)))⟩, (hE47).2.2.2.1, (hE47).2.2.2.2.1, (hE).2.2.2.2.2⟩)), (hK2.trn w8 ((show hK2 [q7, en, nq, nr] Q f f10 from (by rw [ef10]; exact hK2.new w8)).tr (hK2.trn w18 ((show hK2 [q17, q7, en, nq, nr] Q f10 f16 from (by rw [e19]; exact hK2.new w18)).tr ((show hK2 [q17, q7, en, nq, nr] Q f16 f22 from (by rw [e23]; exact hK2.up (List.mem_cons_of_mem _ List.mem_cons_self))).tr ((show hK2 [q17, q7, en, nq, nr] Q f22 f33 from (k35.mono (sub_cons (List.mem_cons_of_mem _ (List.mem_cons_of_mem _ (List.mem_cons_of_mem _ (List.mem_cons_of_mem _ List.mem_cons_self)))) sub_nil))).trq (show hK2 [q17, q7, en, nq, nr] (Q ++ [(q7, q17)]) f33 f56 from (by rw [ef56]; exact hK2.up (List.mem_cons_of_mem _ (List.mem_cons_of_mem _ List.mem_cons_self)))) (fun c9 h9 => Or.inr (by rw [List.mem_singleton.mp h9]; exact (List.mem_cons_of_mem _ List.mem_cons_self)))))))))⟩⟩)
            · refine lv_aload_n hx hb dX1_answer_74 rfl (lv_at hl9 1 rfl) ?_
              refine lv_iconst (v := 3) hx hb dX1_answer_75 (by decide) ?_
              refine hp_put (fs1 := [.ref nw, .ref na, .ref nq, .ref nr, .int (num ix), .int 3, .int tm, .int sr, .int li, .int lp, .int mi]) (ty := .int) B0 hw hS 1 rfl in_X1 tyX1 tyX1_ok nmX1 ke48 5 (by decide) qF_X1_28 rfl (by decide +kernel) rfl rfl (Nat.le_of_ble_eq_true rfl) rfl dX1_answer_76 (fun H locs f61 ef61 hw hS => ?_)
              have h62 : f61 en = some (.inr (1, [.ref nw, .ref na, .ref nq, .ref nr, .int (num ix), .int 3, .int tm, .int sr, .int li, .int lp, .int mi])) := by rw [ef61, va_up_self]
              refine lv_goto (tgt := 95) hx hb dX1_answer_79 (by decide) ?_
              have n64 : nq ≠ en := hne kq2 ke1 (Nat.ne_of_beq_eq_false rfl)
              have h63 : f61 nq = some (.inl (cI G, 6, .inl gq)) := by rw [ef61, va_up_ne _ _ n64]; exact kq49
              have h65 : f61 nr = some (.inr (3, [hd51, (lastV (Q ++ [(q7, q17)])), .int (nI ((Q ++ [(q7, q17)])).length)])) := by rw [ef61, va_up_ne _ _ (Ne.symm n43)]; exact kr50
              exact hp_vret B0 hw hS hr ⟨Nat.le_of_ble_eq_true rfl, Nat.le_of_ble_eq_true rfl⟩ dX1_answer_95 (⟨rfl, ⟨_, hN32, (by rw [show ansS ga (rk, ri, rx, rv) (st, li, sr, tm, lp, mi, ix, gq, L) = (3, li, sr, tm, lp, mi, ix, gq, (L ++ [(kindF ga rv, ri, ix, toldF ga rv (kindF ga rv))])) from congrArg (fun z9 => addS (z9, li, sr, tm, lp, mi, ix, gq, L) (kindF ga rv, ri, ix, toldF ga rv (kindF ga rv))) (show ansT st (kindF ga rv) = 3 from (if_pos c53).trans (if_pos c54))]; exact (show EX G f61 en nw na nq nr (3, li, sr, tm, lp, mi, ix, gq, (L ++ [(kindF ga rv, ri, ix, toldF ga rv (kindF ga rv))])) (Q ++ [(q7, q17)]) from ⟨h62, h63, ⟨_, h65, (CH.kp (show hK2 [en, nq, nr] [] f33 f61 from (by rw [ef61]; exact hK2.up List.mem_cons_self)) hc52 (EX.cu (hE47)) (EX.sf (hE47)))⟩, (hE47).2.2.2.1, (hE47).2.2.2.2.1, (hE).2.2.2.2.2⟩)), (hK2.trn w8 ((show hK2 [q7, en, nq, nr] Q f f10 from (by rw [ef10]; exact hK2.new w8)).tr (hK2.trn w18 ((show hK2 [q17, q7, en, nq, nr] Q f10 f16 from (by rw [e19]; exact hK2.new w18)).tr ((show hK2 [q17, q7, en, nq, nr] Q f16 f22 from (by rw [e23]; exact hK2.up (List.mem_cons_of_mem _ List.mem_cons_self))).tr ((show hK2 [q17, q7, en, nq, nr] Q f22 f33 from (k35.mono (sub_cons (List.mem_cons_of_mem _ (List.mem_cons_of_mem _ (List.mem_cons_of_mem _ (List.mem_cons_of_mem _ List.mem_cons_self)))) sub_nil))).trq (show hK2 [q17, q7, en, nq, nr] (Q ++ [(q7, q17)]) f33 f61 from (by rw [ef61]; exact hK2.up (List.mem_cons_of_mem _ (List.mem_cons_of_mem _ List.mem_cons_self)))) (fun c9 h9 => Or.inr (by rw [List.mem_singleton.mp h9]; exact (List.mem_cons_of_mem _ List.mem_cons_self)))))))))⟩⟩)
          · refine lv_aload_n hx hb dX1_answer_43 rfl (lv_at hl9 1 rfl) ?_
            refine lv_aload_n hx hb dX1_answer_44 rfl (lv_at hl9 1 rfl) ?_
            refine hp_get B0 hw 1 rfl in_X1 ke48 5 (by decide) qF_X1_28 rfl dX1_answer_45 ?_
            refine lv_iconst (v := 3) hx hb dX1_answer_48 (by decide) ?_
            refine lv_icmp_ne (tgt := 56) hx hb dX1_answer_49 (by decide) (fun c66 => ?_) (fun c66 => ?_)
            · refine lv_aload_n hx hb dX1_answer_56 rfl (lv_at hl9 1 rfl) ?_
              refine hp_get B0 hw 1 rfl in_X1 ke48 5 (by decide) qF_X1_28 rfl dX1_answer_57 ?_
              refine hp_put (fs1 := [.ref nw, .ref na, .ref nq, .ref nr, .int (num ix), .int st, .int tm, .int sr, .int li, .int lp, .int mi]) (ty := .int) B0 hw hS 1 rfl in_X1 tyX1 tyX1_ok nmX1 ke48 5 (by decide) qF_X1_28 rfl (by decide +kernel) rfl rfl (Nat.le_of_ble_eq_true rfl) rfl dX1_answer_60 (fun H locs f67 ef67 hw hS => ?_)
              have h68 : f67 en = some (.inr (1, [.ref nw, .ref na, .ref nq, .ref nr, .int (num ix), .int st, .int tm, .int sr, .int li, .int lp, .int mi])) := by rw [ef67, va_up_self]
              refine lv_goto (tgt := 95) hx hb dX1_answer_63 (by decide) ?_
              have n70 : nq ≠ en := hne kq2 ke1 (Nat.ne_of_beq_eq_false rfl)
              have h69 : f67 nq = some (.inl (cI G, 6, .inl gq)) := by rw [ef67, va_up_ne _ _ n70]; exact kq49
              have h71 : f67 nr = some (.inr (3, [hd51, (lastV (Q ++ [(q7, q17)])), .int (nI ((Q ++ [(q7, q17)])).length)])) := by rw [ef67, va_up_ne _ _ (Ne.symm n43)]; exact kr50
              exact hp_vret B0 hw hS hr ⟨Nat.le_of_ble_eq_true rfl, Nat.le_of_ble_eq_true rfl⟩ dX1_answer_95 (⟨rfl, ⟨_, hN32, (by rw [show ansS ga (rk, ri, rx, rv) (st, li, sr, tm, lp, mi, ix, gq, L) = (st, li, sr, tm, lp, mi, ix, gq, (L ++ [(kindF ga rv, ri, ix, toldF ga rv (kindF ga rv))])) from congrArg (fun z9 => addS (z9, li, sr, tm, lp, mi, ix, gq, L) (kindF ga rv, ri, ix, toldF ga rv (kindF ga rv))) (show ansT st (kindF ga rv) = st from (if_neg c53).trans (if_neg c66))]; exact (show EX G f67 en nw na nq nr (st, li, sr, tm, lp, mi, ix, gq, (L ++ [(kindF ga rv, ri, ix, toldF ga rv (kindF ga rv))])) (Q ++ [(q7, q17)]) from ⟨h68, h69, ⟨_, h71, (CH.kp (show hK2 [en, nq, nr] [] f33 f67 from (by rw [ef67]; exact hK2.up List.mem_cons_self)) hc52 (EX.cu (hE47)) (EX.sf (hE47)))⟩, (hE47).2.2.2.1, (hE47).2.2.2.2.1, (hE).2.2.2.2.2⟩)), (hK2.trn w8 ((show hK2 [q7, en, nq, nr] Q f f10 from (by rw [ef10]; exact hK2.new w8)).tr (hK2.trn w18 ((show hK2 [q17, q7, en, nq, nr] Q f10 f16 from (by rw [e19]; exact hK2.new w18)).tr ((show hK2 [q17, q7, en, nq, nr] Q f16 f22 from (by rw [e23]; exact hK2.up (List.mem_cons_of_mem _ List.mem_cons_self))).tr ((show hK2 [q17, q7, en, nq, nr] Q f22 f33 from (k35.mono (sub_cons (List.mem_cons_of_mem _ (List.mem_cons_of_mem _ (List.mem_cons_of_mem _ (List.mem_cons_of_mem _ List.mem_cons_self)))) sub_nil))).trq (show hK2 [q17, q7, en, nq, nr] (Q ++ [(q7, q17)]) f33 f67 from (by rw [ef67]; exact hK2.up (List.mem_cons_of_mem _ (List.mem_cons_of_mem _ List.mem_cons_self)))) (fun c9 h9 => Or.inr (by rw [List.mem_singleton.mp h9]; exact (List.mem_cons_of_mem _ List.mem_cons_self)))))))))⟩⟩)
            · refine lv_iconst (v := 1) hx hb dX1_answer_52 (by decide) ?_
              refine lv_goto (tgt := 60) hx hb dX1_answer_53 (by decide) ?_
              refine hp_put (fs1 := [.ref nw, .ref na, .ref nq, .ref nr, .int (num ix), .int 1, .int tm, .int sr, .int li, .int lp, .int mi]) (ty := .int) B0 hw hS 1 rfl in_X1 tyX1 tyX1_ok nmX1 ke48 5 (by decide) qF_X1_28 rfl (by decide +kernel) rfl rfl (Nat.le_of_ble_eq_true rfl) rfl dX1_answer_60 (fun H locs f72 ef72 hw hS => ?_)
              have h73 : f72 en = some (.inr (1, [.ref nw, .ref na, .ref nq, .ref nr, .int (num ix), .int 1, .int tm, .int sr, .int li, .int lp, .int mi])) := by rw [ef72, va_up_self]
              refine lv_goto (tgt := 95) hx hb dX1_answer_63 (by decide) ?_
              have n75 : nq ≠ en := hne kq2 ke1 (Nat.ne_of_beq_eq_false rfl)
              have h74 : f72 nq = some (.inl (cI G, 6, .inl gq)) := by rw [ef72, va_up_ne _ _ n75]; exact kq49
              have h76 : f72 nr = some (.inr (3, [hd51, (lastV (Q ++ [(q7, q17)])), .int (nI ((Q ++ [(q7, q17)])).length)])) := by rw [ef72, va_up_ne _ _ (Ne.symm n43)]; exact kr50
              exact hp_vret B0 hw hS hr ⟨Nat.le_of_ble_eq_true rfl, Nat.le_of_ble_eq_true rfl⟩ dX1_answer_95 (⟨rfl, ⟨_, hN32, (by rw [show ansS ga (rk, ri, rx, rv) (st, li, sr, tm, lp, mi, ix, gq, L) = (1, li, sr, tm, lp, mi, ix, gq, (L ++ [(kindF ga rv, ri, ix, toldF ga rv (kindF ga rv))])) from congrArg (fun z9 => addS (z9, li, sr, tm, lp, mi, ix, gq, L) (kindF ga rv, ri, ix, toldF ga rv (kindF ga rv))) (show ansT st (kindF ga rv) = 1 from (if_neg c53).trans (if_pos c66))]; exact (show EX G f72 en nw na nq nr (1, li, sr, tm, lp, mi, ix, gq, (L ++ [(kindF ga rv, ri, ix, toldF ga rv (kindF ga rv))])) (Q ++ [(q7, q17)]) from ⟨h73, h74, ⟨_, h76, (CH.kp (show hK2 [en, nq, nr] [] f33 f72 from (by rw [ef72]; exact hK2.up List.mem_cons_self)) hc52 (EX.cu (hE47)) (EX.sf (hE47)))⟩, (hE47).2.2.2.1, (hE47).2.2.2.2.1, (hE).2.2.2.2.2⟩)), (hK2.trn w8 ((show hK2 [q7, en, nq, nr] Q f f10 from (by rw [ef10]; exact hK2.new w8)).tr (hK2.trn w18 ((show hK2 [q17, q7, en, nq, nr] Q f10 f16 from (by rw [e19]; exact hK2.new w18)).tr ((show hK2 [q17, q7, en, nq, nr] Q f16 f22 from (by rw [e23]; exact hK2.up (List.mem_cons_of_mem _ List.mem_cons_self))).tr ((show hK2 [q17, q7, en, nq, nr] Q f22 f33 from (k35.mono (sub_cons (List.mem_cons_of_mem _ (List.mem_cons_of_mem _ (List.mem_cons_of_mem _ (List.mem_cons_of_mem _ List.mem_cons_self)))) sub_nil))).trq (show hK2 [q17, q7, en, nq, nr] (Q ++ [(q7, q17)]) f33 f72 from (by rw [ef72]; exact hK2.up (List.mem_cons_of_mem _ (List.mem_cons_of_mem _ List.mem_cons_self)))) (fun c9 h9 => Or.inr (by rw [List.mem_singleton.mp h9]; exact (List.mem_cons_of_mem _ List.mem_cons_self)))))))))⟩⟩)

set_option maxHeartbeats 4000000 in
set_option maxRecDepth 100000 in
theorem c_X1_chgX {l : Launch} (hl : l.stackTraces = false) (G : hG) (f : hM) (en nw na nq nr : Nat) (mg st tm sr li lp mi : Int32) (gq : Nat → Int32) (k_en : f en = some (.inr (1, [.ref nw, .ref na, .ref nq, .ref nr, .int mg, .int st, .int tm, .int sr, .int li, .int lp, .int mi]))) (k_nq : f nq = some (.inl (cI G, 6, .inl gq))) (fr u : Nat) (rk ri x3 : Int32) (bh : Value) (rv : Nat → Int32) (k_fr : f fr = some (.inr (2, [.int rk, .int ri, .int x3, .ref u, bh]))) (k_u : f u = some (.inl (cI G, 6, .inl rv))) (huq : u ≠ nq) : CT l yX1_changeAskedFor (.code yX1_changeAskedFor cX1_changeAskedFor 3 none) 0 0 0 0 G [.ref en, .ref fr] f (fun v f1 => v = none ∧ f1 = va_up f nq (some (.inl (cI G, 6, .inl (chgF gq rv rk))))) (fun E f1 => False) := by
  refine hp_start hl (own := RX1) (by decide) rfl (Nat.le_of_ble_eq_true rfl) ?_
  intro p e s m args below meth c B0 hr hnm hout hw hS ls hl9
  have hx := B0.1
  have hb := B0.2.1
  have hl9 : lv_has ls 3 [(0, .ref en), (1, .ref fr)] := hl9
  refine lv_iconst (v := 0) hx hb dX1_changeAskedFor_0 (by decide) ?_
  refine lv_istore_n (lv' := [(2, .int 0), (0, .ref en), (1, .ref fr)]) hx hb dX1_changeAskedFor_1 rfl hl9 (by decide) rfl (fun ls hl9 => ?_)
  refine hp_for (nL := 3) (pc := 2) (fun j f9 lv9 => f9 = va_up f nq (some (.inl (cI G, 6, .inl (chgN gq rv rk j)))) ∧ lv9 = [(2, .int (nI j)), (0, .ref en), (1, .ref fr)]) 6 (fun j f9 lv9 H locs ls hj hI hw hS hl9 ih => ?_) (fun f9 lv9 H locs ls hI hw hS hl9 => ?_) 6 0 (by decide) f _ _ _ ls ⟨va_up_id (by rw [chgN_0]; exact k_nq), rfl⟩ hw hS (lv_sub hl9 [0, 1, 2] rfl)
  · obtain ⟨ef9, el9⟩ := hI
    rw [el9] at hl9
    have h1 : f9 nq = some (.inl (cI G, 6, .inl (chgN gq rv rk j))) := by rw [ef9, va_up_self]
    refine lv_iload_n hx hb dX1_changeAskedFor_2 rfl (lv_at hl9 0 rfl) ?_
    refine lv_bipush (v := 6) hx hb dX1_changeAskedFor_3 (by decide) ?_
    refine lv_icmp_ge (tgt := 48) hx hb dX1_changeAskedFor_5 (by decide) (fun c9 => absurd c9 (by rw [show (6 : Int32) = nI 6 from rfl]; exact nI_ge hj (by omega))) (fun _ => ?_)
    refine lv_aload_n hx hb dX1_changeAskedFor_8 rfl (lv_at hl9 2 rfl) ?_
    have n3 : fr ≠ nq := hne k_fr k_nq (Nat.ne_of_beq_eq_false rfl)
    have h2 : f9 fr = some (.inr (2, [.int rk, .int ri, .int x3, .ref u, bh])) := by rw [ef9, va_up_ne _ _ n3]; exact k_fr
    refine hp_get B0 hw 2 rfl in_X2 h2 3 (by decide) qF_X1_92 rfl dX1_changeAskedFor_9 ?_
    refine lv_iload_n hx hb dX1_changeAskedFor_12 rfl (lv_at hl9 0 rfl) ?_
    have h4 : f9 u = some (.inl (cI G, 6, .inl rv)) := by rw [ef9, va_up_ne _ _ huq]; exact k_u
    refine hp_iald B0 hw h4 (vin6j hj) dX1_changeAskedFor_13 ?_
    refine hp_c (v := (rv j)) (congrArg rv (nI_clamp (by omega))) ?_
    refine lv_iconst (v := (-1)) hx hb dX1_changeAskedFor_14 (by decide) ?_
    refine lv_icmp_eq (tgt := 42) hx hb dX1_changeAskedFor_15 (by decide) (fun c5 => ?_) (fun c5 => ?_)
    · refine lv_iinc (v := (nI (j + 1))) (lv' := [(2, .int (nI (j + 1))), (0, .ref en), (1, .ref fr)]) hx hb dX1_changeAskedFor_42 hl9 (k := 0) rfl (nI_1 j) (by decide) rfl (fun ls hl9 => ?_)
      refine lv_goto (tgt := 2) hx hb dX1_changeAskedFor_45 (by decide) ?_
      exact ih _ _ H locs ls ⟨(by rw [← chgN_k c5]; exact ef9), rfl⟩ hw hS (lv_sub hl9 [0, 1, 2] rfl)
    · refine lv_aload_n hx hb dX1_changeAskedFor_18 rfl (lv_at hl9 1 rfl) ?_
      have n7 : en ≠ nq := hne k_en k_nq (Nat.ne_of_beq_eq_false rfl)
      have h6 : f9 en = some (.inr (1, [.ref nw, .ref na, .ref nq, .ref nr, .int mg, .int st, .int tm, .int sr, .int li, .int lp, .int mi])) := by rw [ef9, va_up_ne _ _ n7]; exact k_en
      refine hp_get B0 hw 1 rfl in_X1 h6 2 (by decide) qF_X1_18 rfl dX1_changeAskedFor_19 ?_
      refine lv_iload_n hx hb dX1_changeAskedFor_22 rfl (lv_at hl9 0 rfl) ?_
      refine lv_aload_n hx hb dX1_changeAskedFor_23 rfl (lv_at hl9 2 rfl) ?_
      refine hp_get B0 hw 2 rfl in_X2 h2 0 (by decide) qF_X1_70 rfl dX1_changeAskedFor_24 ?_
      refine lv_iconst (v := 2) hx hb dX1_changeAskedFor_27 (by decide) ?_
      refine lv_icmp_ne (tgt := 40) hx hb dX1_changeAskedFor_28 (by decide) (fun c8 => ?_) (fun c8 => ?_)
      · refine lv_iconst (v := (-1)) hx hb dX1_changeAskedFor_40 (by decide) ?_
        refine hp_iast B0 hw hS h1 (vin6j hj) dX1_changeAskedFor_41 (fun H locs f10 ef10 hw hS => ?_)
        have e11 : f10 = va_up f nq (some (.inl (cI G, 6, .inl (upd (chgN gq rv rk j) ((nI j) : Int32).toNatClampNeg (-1))))) := by rw [ef10, ef9, bx_uu]
        have h12 : f10 nq = some (.inl (cI G, 6, .inl (upd (chgN gq rv rk j) ((nI j) : Int32).toNatClampNeg (-1)))) := by rw [ef10, va_up_self]
        refine lv_iinc (v := (nI (j + 1))) (lv' := [(2, .int (nI (j + 1))), (0, .ref en), (1, .ref fr)]) hx hb dX1_changeAskedFor_42 hl9 (k := 0) rfl (nI_1 j) (by decide) rfl (fun ls hl9 => ?_)
        refine lv_goto (tgt := 2) hx hb dX1_changeAskedFor_45 (by decide) ?_
        exact ih _ _ H locs ls ⟨(by rw [e11, chgN_s (nI_clamp (by omega)) c5 (if_neg c8)]), rfl⟩ hw hS (lv_sub hl9 [0, 1, 2] rfl)
      · refine lv_aload_n hx hb dX1_changeAskedFor_31 rfl (lv_at hl9 2 rfl) ?_
        refine hp_get B0 hw 2 rfl in_X2 h2 3 (by decide) qF_X1_92 rfl dX1_changeAskedFor_32 ?_
        refine lv_iload_n hx hb dX1_changeAskedFor_35 rfl (lv_at hl9 0 rfl) ?_
        refine hp_iald B0 hw h4 (vin6j hj) dX1_changeAskedFor_36 ?_
        refine hp_c (v := (rv j)) (congrArg rv (nI_clamp (by omega))) ?_
        refine lv_goto (tgt := 41) hx hb dX1_changeAskedFor_37 (by decide) ?_
        refine hp_iast B0 hw hS h1 (vin6j hj) dX1_changeAskedFor_41 (fun H locs f13 ef13 hw hS => ?_)
        have e14 : f13 = va_up f nq (some (.inl (cI G, 6, .inl (upd (chgN gq rv rk j) ((nI j) : Int32).toNatClampNeg (rv j))))) := by rw [ef13, ef9, bx_uu]
        have h15 : f13 nq = some (.inl (cI G, 6, .inl (upd (chgN gq rv rk j) ((nI j) : Int32).toNatClampNeg (rv j)))) := by rw [ef13, va_up_self]
        refine lv_iinc (v := (nI (j + 1))) (lv' := [(2, .int (nI (j + 1))), (0, .ref en), (1, .ref fr)]) hx hb dX1_changeAskedFor_42 hl9 (k := 0) rfl (nI_1 j) (by decide) rfl (fun ls hl9 => ?_)
        refine lv_goto (tgt := 2) hx hb dX1_changeAskedFor_45 (by decide) ?_
        exact ih _ _ H locs ls ⟨(by rw [e14, chgN_s (nI_clamp (by omega)) c5 (if_pos c8)]), rfl⟩ hw hS (lv_sub hl9 [0, 1, 2] rfl)
  · obtain ⟨ef9, el9⟩ := hI
    rw [el9] at hl9
    have h16 : f9 nq = some (.inl (cI G, 6, .inl (chgN gq rv rk 6))) := by rw [ef9, va_up_self]
    refine lv_iload_n hx hb dX1_changeAskedFor_2 rfl (lv_at hl9 0 rfl) ?_
    refine lv_bipush (v := 6) hx hb dX1_changeAskedFor_3 (by decide) ?_
    refine lv_icmp_ge (tgt := 48) hx hb dX1_changeAskedFor_5 (by decide) (fun _ => ?_) (fun c9 => absurd (by decide) c9)
    exact hp_vret B0 hw hS hr ⟨Nat.le_of_ble_eq_true rfl, Nat.le_of_ble_eq_true rfl⟩ dX1_changeAskedFor_48 (⟨rfl, ef9⟩)

set_option maxHeartbeats 4000000 in
set_option maxRecDepth 100000 in
theorem c_X1_hearQX {l : Launch} (hl : l.stackTraces = false) (G : hG) (f : hM) (en nw na nq nr : Nat) (st li sr tm lp mi ix : Int32) (gq : Nat → Int32) (L : List Fr) (Q : List (Nat × Nat)) (hE : EX G f en nw na nq nr (st, li, sr, tm, lp, mi, ix, gq, L) Q) (hn : Q.length < 3900) (ga : Nat → Int32) (k_na : f na = some (.inl (cI G, 6, .inl ga))) (haq : na ≠ nq) (fr u : Nat) (rk ri rx : Int32) (rv : Nat → Int32) (nx : Value) (k_fr : f fr = some (.inr (2, [.int rk, .int ri, .int (mgF (rk, ri, rx, rv)), .ref u, nx]))) (k_u : f u = some (.inl (cI G, 6, .inl rv))) (hfQ : fr ∉ ws Q) (huq : u ≠ nq) (hk0 : rk = 0) : CT l yX1_hearRequest (.code yX1_hearRequest cX1_hearRequest 2 none) 4 90 4 22 G [.ref en, .ref fr] f (fun v f1 => v = none ∧ XP G f f1 en nw na nq nr Q (hearQ ga (rk, ri, rx, rv) (st, li, sr, tm, lp, mi, ix, gq, L))) (fun E f1 => False) := by
  refine hp_start hl (own := RX1) (by decide) rfl (Nat.le_of_ble_eq_true rfl) ?_
  intro p e s m args below meth c B0 hr hnm hout hw hS ls hl9
  have hx := B0.1
  have hb := B0.2.1
  have hl9 : lv_has ls 2 [(0, .ref en), (1, .ref fr)] := hl9
  have k_fr : f fr = some (.inr (2, [.int rk, .int ri, .int (num rx), .ref u, nx])) := by rw [← show mgF (rk, ri, rx, rv) = num rx from if_pos hk0]; exact k_fr
  have ke1 : f en = some (.inr (1, [.ref nw, .ref na, .ref nq, .ref nr, .int (num ix), .int st, .int tm, .int sr, .int li, .int lp, .int mi])) := (hE).1
  have kq2 : f nq = some (.inl (cI G, 6, .inl gq)) := (hE).2.1
  obtain ⟨hd4, kr3, hc5⟩ := (hE).2.2.1
  refine lv_aload_n hx hb dX1_hearRequest_0 rfl (lv_at hl9 0 rfl) ?_
  refine lv_aload_n hx hb dX1_hearRequest_1 rfl (lv_at hl9 1 rfl) ?_
  refine hp_get B0 hw 2 rfl in_X2 k_fr 2 (by decide) qF_X1_82 rfl dX1_hearRequest_2 ?_
  refine lv_aload_n hx hb dX1_hearRequest_5 rfl (lv_at hl9 0 rfl) ?_
  refine hp_get B0 hw 1 rfl in_X1 ke1 4 (by decide) qF_X1_48 rfl dX1_hearRequest_6 ?_
  refine lv_icmp_ne (tgt := 16) hx hb dX1_hearRequest_9 (by decide) (fun c6 => ?_) (fun c6 => ?_)
  · refine lv_iconst (v := 0) hx hb dX1_hearRequest_16 (by decide) ?_
    refine hp_put (fs1 := [.ref nw, .ref na, .ref nq, .ref nr, .int (num ix), .int st, .int tm, .int sr, .int li, .int 0, .int mi]) (ty := .boolean) B0 hw hS 1 rfl in_X1 tyX1 tyX1_ok nmX1 ke1 9 (by decide) qF_X1_41 rfl (by decide +kernel) rfl rfl (Nat.le_of_ble_eq_true rfl) rfl dX1_hearRequest_17 (fun H locs f7 ef7 hw hS => ?_)
    have h8 : f7 en = some (.inr (1, [.ref nw, .ref na, .ref nq, .ref nr, .int (num ix), .int st, .int tm, .int sr, .int li, .int 0, .int mi])) := by rw [ef7, va_up_self]
    refine lv_aload_n hx hb dX1_hearRequest_20 rfl (lv_at hl9 0 rfl) ?_
    refine hp_get B0 hw 1 rfl in_X1 h8 9 (by decide) qF_X1_41 rfl dX1_hearRequest_21 ?_
    refine lv_if_eq (tgt := 28) hx hb dX1_hearRequest_24 (by decide) (fun _ => ?_) (fun c9 => absurd (by decide) c9)
    refine lv_aload_n hx hb dX1_hearRequest_28 rfl (lv_at hl9 0 rfl) ?_
    refine hp_get B0 hw 1 rfl in_X1 h8 5 (by decide) qF_X1_28 rfl dX1_hearRequest_29 ?_
    refine lv_if_ne (tgt := 40) hx hb dX1_hearRequest_32 (by decide) (fun c10 => ?_) (fun c10 => ?_)
    · refine lv_aload_n hx hb dX1_hearRequest_40 rfl (lv_at hl9 0 rfl) ?_
      refine hp_get B0 hw 1 rfl in_X1 h8 5 (by decide) qF_X1_28 rfl dX1_hearRequest_41 ?_
      refine lv_iconst (v := 4) hx hb dX1_hearRequest_44 (by decide) ?_
      refine lv_icmp_ne (tgt := 61) hx hb dX1_hearRequest_45 (by decide) (fun c11 => ?_) (fun c11 => ?_)
      · refine lv_aload_n hx hb dX1_hearRequest_61 rfl (lv_at hl9 0 rfl) ?_
        refine lv_aload_n hx hb dX1_hearRequest_62 rfl (lv_at hl9 1 rfl) ?_
        have n13 : nq ≠ en := hne kq2 ke1 (Nat.ne_of_beq_eq_false rfl)
        have h12 : f7 nq = some (.inl (cI G, 6, .inl gq)) := by rw [ef7, va_up_ne _ _ n13]; exact kq2
        have n15 : nr ≠ en := hne kr3 ke1 (Nat.ne_of_beq_eq_false rfl)
        have h14 : f7 nr = some (.inr (3, [hd4, (lastV Q), .int (nI (Q).length)])) := by rw [ef7, va_up_ne _ _ n15]; exact kr3
        have n17 : fr ≠ en := hne k_fr ke1 (Nat.ne_of_beq_eq_false rfl)
        have h16 : f7 fr = some (.inr (2, [.int rk, .int ri, .int (num rx), .ref u, nx])) := by rw [ef7, va_up_ne _ _ n17]; exact k_fr
        have n19 : u ≠ en := hne k_u ke1 (Nat.ne_of_beq_eq_false rfl)
        have h18 : f7 u = some (.inl (cI G, 6, .inl rv)) := by rw [ef7, va_up_ne _ _ n19]; exact k_u
        have n21 : na ≠ en := hne k_na ke1 (Nat.ne_of_beq_eq_false rfl)
        have h20 : f7 na = some (.inl (cI G, 6, .inl ga)) := by rw [ef7, va_up_ne _ _ n21]; exact k_na
        refine hp_V (ci := 1) (As := [.ref fr]) (rest := []) B0 hw hS (c_X1_answerX hl G f7 en nw na nq nr st li sr tm 0 mi ix gq L Q (show EX G f7 en nw na nq nr (st, li, sr, tm, 0, mi, ix, gq, L) Q from ⟨h8, h12, ⟨_, h14, (CH.kp (show hK2 [en, nq, nr] [] f f7 from (by rw [ef7]; exact hK2.up List.mem_cons_self)) hc5 (EX.cu (hE)) (EX.sf (hE)))⟩, (hE).2.2.2.1, (hE).2.2.2.2.1, nb0⟩) (Nat.lt_trans hn (by decide)) ga h20 haq fr u rk ri rx rv nx (by rw [show mgF (rk, ri, rx, rv) = num rx from if_pos hk0]; exact h16) h18 hfQ huq) mV_X1_answer qM_X1_83 rfl h8 rfl rfl hl9.1 (Nat.le_of_ble_eq_true rfl) ⟨⟨Nat.le_of_ble_eq_true rfl, Nat.le_of_ble_eq_true rfl⟩, Nat.le_of_ble_eq_true rfl, Nat.le_of_ble_eq_true rfl⟩ dX1_hearRequest_63 (fun E ce q9 f22 H locs hPX hw hS hce hcv hcl => ?_) (fun v f22 H locs hP hw hS => ?_)
        · exact hPX.elim
        · obtain ⟨ev9, x23⟩ := hP
          subst ev9
          refine W.eq (g2 := F0 m 66 ls []) rfl ?_
          exact hp_vret B0 hw hS hr ⟨Nat.le_of_ble_eq_true rfl, Nat.le_of_ble_eq_true rfl⟩ dX1_hearRequest_66 (⟨rfl, (XP.tr (N := []) (fun c9 h9 => nomatch h9) (show hK2 [en, nq, nr] Q f f7 from (by rw [ef7]; exact hK2.up List.mem_cons_self)) (by rw [List.append_nil]; exact (by rw [show hearQ ga (rk, ri, rx, rv) (st, li, sr, tm, lp, mi, ix, gq, L) = ansS ga (rk, ri, rx, rv) (st, li, sr, tm, 0, mi, ix, gq, L) from ((if_neg c6).trans (if_neg c10)).trans (if_neg c11)]; exact x23)))⟩)
      · refine lv_aload_n hx hb dX1_hearRequest_48 rfl (lv_at hl9 0 rfl) ?_
        have n25 : nq ≠ en := hne kq2 ke1 (Nat.ne_of_beq_eq_false rfl)
        have h24 : f7 nq = some (.inl (cI G, 6, .inl gq)) := by rw [ef7, va_up_ne _ _ n25]; exact kq2
        have n27 : nr ≠ en := hne kr3 ke1 (Nat.ne_of_beq_eq_false rfl)
        have h26 : f7 nr = some (.inr (3, [hd4, (lastV Q), .int (nI (Q).length)])) := by rw [ef7, va_up_ne _ _ n27]; exact kr3
        refine hp_V (ci := 1) (As := []) (rest := []) B0 hw hS (c_X1_askX hl G f7 en nw na nq nr st li sr tm 0 mi ix gq L Q (show EX G f7 en nw na nq nr (st, li, sr, tm, 0, mi, ix, gq, L) Q from ⟨h8, h24, ⟨_, h26, (CH.kp (show hK2 [en, nq, nr] [] f f7 from (by rw [ef7]; exact hK2.up List.mem_cons_self)) hc5 (EX.cu (hE)) (EX.sf (hE)))⟩, (hE).2.2.2.1, (hE).2.2.2.2.1, nb0⟩) (Nat.lt_trans hn (by decide))) mV_X1_ask qM_X1_63 rfl h8 rfl rfl hl9.1 (Nat.le_of_ble_eq_true rfl) ⟨⟨Nat.le_of_ble_eq_true rfl, Nat.le_of_ble_eq_true rfl⟩, Nat.le_of_ble_eq_true rfl, Nat.le_of_ble_eq_true rfl⟩ dX1_hearRequest_49 (fun E ce q9 f28 H locs hPX hw hS hce hcv hcl => ?_) (fun v f28 H locs hP hw hS => ?_)
        · exact hPX.elim
        · rcases hP with ⟨c29, ev9, w30, u31, hw32, hu33, hE34, k35⟩ | ⟨c29, ev9, hE34, k35⟩
          · subst ev9
            have hN36 : ∀ c9 ∈ [(w30, u31)], f7 c9.1 = none ∧ f7 c9.2 = none := fun c9 hc9 => by rw [List.mem_singleton.mp hc9]; exact ⟨hw32, hu33⟩
            have ke37 : f28 en = some (.inr (1, [.ref nw, .ref na, .ref nq, .ref nr, .int (num ix), .int st, .int 3, .int (sr + 1), .int (li + 1), .int 0, .int mi])) := (hE34).1
            have kq38 : f28 nq = some (.inl (cI G, 6, .inl gq)) := (hE34).2.1
            obtain ⟨hd40, kr39, hc41⟩ := (hE34).2.2.1
            refine W.eq (g2 := F0 m 52 ls [.int 1]) rfl ?_
            refine lv_if_ne (tgt := 56) hx hb dX1_hearRequest_52 (by decide) (fun _ => ?_) (fun c9 => absurd c9 (by decide))
            refine lv_aload_n hx hb dX1_hearRequest_56 rfl (lv_at hl9 0 rfl) ?_
            refine lv_iconst (v := 1) hx hb dX1_hearRequest_57 (by decide) ?_
            refine hp_put (fs1 := [.ref nw, .ref na, .ref nq, .ref nr, .int (num ix), .int 1, .int 3, .int (sr + 1), .int (li + 1), .int 0, .int mi]) (ty := .int) B0 hw hS 1 rfl in_X1 tyX1 tyX1_ok nmX1 ke37 5 (by decide) qF_X1_28 rfl (by decide +kernel) rfl rfl (Nat.le_of_ble_eq_true rfl) rfl dX1_hearRequest_58 (fun H locs f42 ef42 hw hS => ?_)
            have h43 : f42 en = some (.inr (1, [.ref nw, .ref na, .ref nq, .ref nr, .int (num ix), .int 1, .int 3, .int (sr + 1), .int (li + 1), .int 0, .int mi])) := by rw [ef42, va_up_self]
            refine lv_aload_n hx hb dX1_hearRequest_61 rfl (lv_at hl9 0 rfl) ?_
            refine lv_aload_n hx hb dX1_hearRequest_62 rfl (lv_at hl9 1 rfl) ?_
            have h44 : f42 nq = some (.inl (cI G, 6, .inl gq)) := by rw [ef42, va_up_ne _ _ n25]; exact kq38
            have h45 : f42 nr = some (.inr (3, [hd40, (lastV (Q ++ [(w30, u31)])), .int (nI ((Q ++ [(w30, u31)])).length)])) := by rw [ef42, va_up_ne _ _ n27]; exact kr39
            have n47 : fr ≠ en := hne k_fr ke1 (Nat.ne_of_beq_eq_false rfl)
            have h46 : f7 fr = some (.inr (2, [.int rk, .int ri, .int (num rx), .ref u, nx])) := by rw [ef7, va_up_ne _ _ n47]; exact k_fr
            have n48 : fr ≠ nr := hne k_fr kr3 (Nat.ne_of_beq_eq_false rfl)
            have h49 : f28 fr = some (.inr (2, [.int rk, .int ri, .int (num rx), .ref u, nx])) := k35.2 _ _ h46 (ninc n47 (ninc n48 nin0)) (fun _ => hfQ)
            have h50 : f42 fr = some (.inr (2, [.int rk, .int ri, .int (num rx), .ref u, nx])) := by rw [ef42, va_up_ne _ _ n47]; exact h49
            have n52 : u ≠ en := hne k_u ke1 (Nat.ne_of_beq_eq_false rfl)
            have h51 : f7 u = some (.inl (cI G, 6, .inl rv)) := by rw [ef7, va_up_ne _ _ n52]; exact k_u
            have n53 : u ≠ nr := hne k_u kr3 (Nat.ne_of_beq_eq_false rfl)
            have h54 : f28 u = some (.inl (cI G, 6, .inl rv)) := k35.2 _ _ h51 (ninc n52 (ninc n53 nin0)) (fun t9 => absurd t9 (Nat.ne_of_beq_eq_false rfl))
            have h55 : f42 u = some (.inl (cI G, 6, .inl rv)) := by rw [ef42, va_up_ne _ _ n52]; exact h54
            have n57 : na ≠ en := hne k_na ke1 (Nat.ne_of_beq_eq_false rfl)
            have h56 : f7 na = some (.inl (cI G, 6, .inl ga)) := by rw [ef7, va_up_ne _ _ n57]; exact k_na
            have n58 : na ≠ nr := hne k_na kr3 (Nat.ne_of_beq_eq_false rfl)
            have h59 : f28 na = some (.inl (cI G, 6, .inl ga)) := k35.2 _ _ h56 (ninc n57 (ninc n58 nin0)) (fun t9 => absurd t9 (Nat.ne_of_beq_eq_false rfl))
            have h60 : f42 na = some (.inl (cI G, 6, .inl ga)) := by rw [ef42, va_up_ne _ _ n57]; exact h59
            refine hp_V (ci := 1) (As := [.ref fr]) (rest := []) B0 hw hS (c_X1_answerX hl G f42 en nw na nq nr 1 (li + 1) (sr + 1) 3 0 mi ix gq (L ++ [(0, li + 1, ix, gq)]) (Q ++ [(w30, u31)]) (show EX G f42 en nw na nq nr (1, (li + 1), (sr + 1), 3, 0, mi, ix, gq, (L ++ [(0, li + 1, ix, gq)])) (Q ++ [(w30, u31)]) from ⟨h43, h44, ⟨_, h45, (CH.kp (show hK2 [en, nq, nr] [] f28 f42 from (by rw [ef42]; exact hK2.up List.mem_cons_self)) hc41 (EX.cu (hE34)) (EX.sf (hE34)))⟩, (hE34).2.2.2.1, (hE34).2.2.2.2.1, nb0⟩) (by rw [List.length_append]; exact Nat.lt_of_lt_of_le (Nat.add_lt_add_right hn 1) (by decide)) ga h60 haq fr u rk ri rx rv nx (by rw [show mgF (rk, ri, rx, rv) = num rx from if_pos hk0]; exact h50) h55 (nws hfQ (nwsN h46 hN36)) huq) mV_X1_answer qM_X1_83 rfl h43 rfl rfl hl9.1 (Nat.le_of_ble_eq_true rfl) ⟨⟨Nat.le_of_ble_eq_true rfl, Nat.le_of_ble_eq_true rfl⟩, Nat.le_of_ble_eq_true rfl, Nat.le_of_ble_eq_true rfl⟩ dX1_hearRequest_63 (fun E ce q9 f61 H locs hPX hw hS hce hcv hcl => ?_) (fun v f61 H locs hP hw hS => ?_)
            · exact hPX.elim
            · obtain ⟨ev9, x62⟩ := hP
              subst ev9
              refine W.eq (g2 := F0 m 66 ls []) rfl ?_
              exact hp_vret B0 hw hS hr ⟨Nat.le_of_ble_eq_true rfl, Nat.le_of_ble_eq_true rfl⟩ dX1_hearRequest_66 (⟨rfl, (XP.tr (fun c9 h9 => ⟨(show hK2 [en] [] f f7 from (by rw [ef7]; exact hK2.up List.mem_cons_self)).1 _ (hN36 c9 h9).1, (show hK2 [en] [] f f7 from (by rw [ef7]; exact hK2.up List.mem_cons_self)).1 _ (hN36 c9 h9).2⟩) ((show hK2 [en, nq, nr] Q f f7 from (by rw [ef7]; exact hK2.up List.mem_cons_self)).tr ((show hK2 [en, nq, nr] Q f7 f28 from (k35.mono (sub_cons List.mem_cons_self (sub_cons (List.mem_cons_of_mem _ (List.mem_cons_of_mem _ List.mem_cons_self)) sub_nil)))).trq (show hK2 [en, nq, nr] (Q ++ [(w30, u31)]) f28 f42 from (by rw [ef42]; exact hK2.up List.mem_cons_self)) (fun c9 h9 => Or.inl (hN36 c9 h9).1))) (by rw [show hearQ ga (rk, ri, rx, rv) (st, li, sr, tm, lp, mi, ix, gq, L) = ansS ga (rk, ri, rx, rv) (1, (li + 1), (sr + 1), 3, 0, mi, ix, gq, (L ++ [(0, li + 1, ix, gq)])) from ((((if_neg c6).trans (if_neg c10)).trans (if_pos c11)).trans (if_pos c29)).trans (by rw [show begS (lpS (st, li, sr, tm, lp, mi, ix, gq, L) 0) = _ from if_pos c29]; try rfl)]; exact x62))⟩)
          · subst ev9
            have ke63 : f28 en = some (.inr (1, [.ref nw, .ref na, .ref nq, .ref nr, .int (num ix), .int 0, .int tm, .int sr, .int li, .int 0, .int mi])) := (hE34).1
            have kq64 : f28 nq = some (.inl (cI G, 6, .inl gq)) := (hE34).2.1
            obtain ⟨hd66, kr65, hc67⟩ := (hE34).2.2.1
            refine W.eq (g2 := F0 m 52 ls [.int 0]) rfl ?_
            refine lv_if_ne (tgt := 56) hx hb dX1_hearRequest_52 (by decide) (fun c9 => absurd (by decide) c9) (fun _ => ?_)
            exact hp_vret B0 hw hS hr ⟨Nat.le_of_ble_eq_true rfl, Nat.le_of_ble_eq_true rfl⟩ dX1_hearRequest_55 (⟨rfl, (XP.zero (by rw [show hearQ ga (rk, ri, rx, rv) (st, li, sr, tm, lp, mi, ix, gq, L) = (0, li, sr, tm, 0, mi, ix, gq, L) from (((if_neg c6).trans (if_neg c10)).trans (if_pos c11)).trans (if_neg c29)]; exact (show EX G f28 en nw na nq nr (0, li, sr, tm, 0, mi, ix, gq, L) Q from ⟨ke63, kq64, ⟨_, kr65, hc67⟩, (hE34).2.2.2.1, (hE34).2.2.2.2.1, nb0⟩)) ((show hK2 [en, nq, nr] Q f f7 from (by rw [ef7]; exact hK2.up List.mem_cons_self)).tr (show hK2 [en, nq, nr] Q f7 f28 from (k35.mono (sub_cons List.mem_cons_self (sub_cons (List.mem_cons_of_mem _ (List.mem_cons_of_mem _ List.mem_cons_self)) sub_nil))))))⟩)
    · refine lv_aload_n hx hb dX1_hearRequest_35 rfl (lv_at hl9 0 rfl) ?_
      have n69 : nq ≠ en := hne kq2 ke1 (Nat.ne_of_beq_eq_false rfl)
      have h68 : f7 nq = some (.inl (cI G, 6, .inl gq)) := by rw [ef7, va_up_ne _ _ n69]; exact kq2
      have n71 : nr ≠ en := hne kr3 ke1 (Nat.ne_of_beq_eq_false rfl)
      have h70 : f7 nr = some (.inr (3, [hd4, (lastV Q), .int (nI (Q).length)])) := by rw [ef7, va_up_ne _ _ n71]; exact kr3
      refine hp_V (ci := 1) (As := []) (rest := []) B0 hw hS (c_X1_sendStopX hl G f7 en nw na nq nr st li sr tm 0 mi ix gq L Q (show EX G f7 en nw na nq nr (st, li, sr, tm, 0, mi, ix, gq, L) Q from ⟨h8, h68, ⟨_, h70, (CH.kp (show hK2 [en, nq, nr] [] f f7 from (by rw [ef7]; exact hK2.up List.mem_cons_self)) hc5 (EX.cu (hE)) (EX.sf (hE)))⟩, (hE).2.2.2.1, (hE).2.2.2.2.1, nb0⟩) (Nat.lt_trans hn (by decide))) mV_X1_sendStop qM_X1_67 rfl h8 rfl rfl hl9.1 (Nat.le_of_ble_eq_true rfl) ⟨⟨Nat.le_of_ble_eq_true rfl, Nat.le_of_ble_eq_true rfl⟩, Nat.le_of_ble_eq_true rfl, Nat.le_of_ble_eq_true rfl⟩ dX1_hearRequest_36 (fun E ce q9 f72 H locs hPX hw hS hce hcv hcl => ?_) (fun v f72 H locs hP hw hS => ?_)
      · exact hPX.elim
      · obtain ⟨ev9, w73, u74, hw75, hu76, hE77, k78⟩ := hP
        subst ev9
        have hN79 : ∀ c9 ∈ [(w73, u74)], f7 c9.1 = none ∧ f7 c9.2 = none := fun c9 hc9 => by rw [List.mem_singleton.mp hc9]; exact ⟨hw75, hu76⟩
        have ke80 : f72 en = some (.inr (1, [.ref nw, .ref na, .ref nq, .ref nr, .int (num ix), .int st, .int tm, .int sr, .int li, .int 0, .int mi])) := (hE77).1
        have kq81 : f72 nq = some (.inl (cI G, 6, .inl gq)) := (hE77).2.1
        obtain ⟨hd83, kr82, hc84⟩ := (hE77).2.2.1
        refine W.eq (g2 := F0 m 39 ls []) rfl ?_
        exact hp_vret B0 hw hS hr ⟨Nat.le_of_ble_eq_true rfl, Nat.le_of_ble_eq_true rfl⟩ dX1_hearRequest_39 (⟨rfl, ⟨_, (fun c9 h9 => ⟨(show hK2 [en] [] f f7 from (by rw [ef7]; exact hK2.up List.mem_cons_self)).1 _ (hN79 c9 h9).1, (show hK2 [en] [] f f7 from (by rw [ef7]; exact hK2.up List.mem_cons_self)).1 _ (hN79 c9 h9).2⟩), (by rw [show hearQ ga (rk, ri, rx, rv) (st, li, sr, tm, lp, mi, ix, gq, L) = (st, li, sr, tm, 0, mi, ix, gq, (L ++ [(4, 0, ix, N6)])) from (if_neg c6).trans (if_pos c10)]; exact (show EX G f72 en nw na nq nr (st, li, sr, tm, 0, mi, ix, gq, (L ++ [(4, 0, ix, N6)])) (Q ++ [(w73, u74)]) from ⟨ke80, kq81, ⟨_, kr82, hc84⟩, (hE77).2.2.2.1, (hE77).2.2.2.2.1, nb0⟩)), ((show hK2 [en, nq, nr] Q f f7 from (by rw [ef7]; exact hK2.up List.mem_cons_self)).tr (show hK2 [en, nq, nr] Q f7 f72 from (k78.mono (sub_cons List.mem_cons_self (sub_cons (List.mem_cons_of_mem _ (List.mem_cons_of_mem _ List.mem_cons_self)) sub_nil)))))⟩⟩)
  · refine lv_iconst (v := 1) hx hb dX1_hearRequest_12 (by decide) ?_
    refine lv_goto (tgt := 17) hx hb dX1_hearRequest_13 (by decide) ?_
    refine hp_put (fs1 := [.ref nw, .ref na, .ref nq, .ref nr, .int (num ix), .int st, .int tm, .int sr, .int li, .int 1, .int mi]) (ty := .boolean) B0 hw hS 1 rfl in_X1 tyX1 tyX1_ok nmX1 ke1 9 (by decide) qF_X1_41 rfl (by decide +kernel) rfl rfl (Nat.le_of_ble_eq_true rfl) rfl dX1_hearRequest_17 (fun H locs f85 ef85 hw hS => ?_)
    have h86 : f85 en = some (.inr (1, [.ref nw, .ref na, .ref nq, .ref nr, .int (num ix), .int st, .int tm, .int sr, .int li, .int 1, .int mi])) := by rw [ef85, va_up_self]
    refine lv_aload_n hx hb dX1_hearRequest_20 rfl (lv_at hl9 0 rfl) ?_
    refine hp_get B0 hw 1 rfl in_X1 h86 9 (by decide) qF_X1_41 rfl dX1_hearRequest_21 ?_
    refine lv_if_eq (tgt := 28) hx hb dX1_hearRequest_24 (by decide) (fun c9 => absurd c9 (by decide)) (fun _ => ?_)
    have n88 : nq ≠ en := hne kq2 ke1 (Nat.ne_of_beq_eq_false rfl)
    have h87 : f85 nq = some (.inl (cI G, 6, .inl gq)) := by rw [ef85, va_up_ne _ _ n88]; exact kq2
    have n90 : nr ≠ en := hne kr3 ke1 (Nat.ne_of_beq_eq_false rfl)
    have h89 : f85 nr = some (.inr (3, [hd4, (lastV Q), .int (nI (Q).length)])) := by rw [ef85, va_up_ne _ _ n90]; exact kr3
    exact hp_vret B0 hw hS hr ⟨Nat.le_of_ble_eq_true rfl, Nat.le_of_ble_eq_true rfl⟩ dX1_hearRequest_27 (⟨rfl, (XP.zero (by rw [show hearQ ga (rk, ri, rx, rv) (st, li, sr, tm, lp, mi, ix, gq, L) = (st, li, sr, tm, 1, mi, ix, gq, L) from if_pos c6]; exact (show EX G f85 en nw na nq nr (st, li, sr, tm, 1, mi, ix, gq, L) Q from ⟨h86, h87, ⟨_, h89, (CH.kp (show hK2 [en, nq, nr] [] f f85 from (by rw [ef85]; exact hK2.up List.mem_cons_self)) hc5 (EX.cu (hE)) (EX.sf (hE)))⟩, (hE).2.2.2.1, (hE).2.2.2.2.1, nb1⟩)) (show hK2 [en, nq, nr] Q f f85 from (by rw [ef85]; exact hK2.up List.mem_cons_self)))⟩)

set_option maxHeartbeats 4000000 in
set_option maxRecDepth 100000 in
theorem c_X1_hearAX {l : Launch} (hl : l.stackTraces = false) (G : hG) (f : hM) (en nw na nq nr : Nat) (st li sr tm lp mi ix : Int32) (gq : Nat → Int32) (L : List Fr) (Q : List (Nat × Nat)) (hE : EX G f en nw na nq nr (st, li, sr, tm, lp, mi, ix, gq, L) Q) (hn : Q.length < 3900) (fr u : Nat) (rk ri rx : Int32) (rv : Nat → Int32) (nx : Value) (k_fr : f fr = some (.inr (2, [.int rk, .int ri, .int (mgF (rk, ri, rx, rv)), .ref u, nx]))) (k_u : f u = some (.inl (cI G, 6, .inl rv))) (hfQ : fr ∉ ws Q) (huq : u ≠ nq) : CT l yX1_hearAnswer (.code yX1_hearAnswer cX1_hearAnswer 3 none) 3 57 2 11 G [.ref en, .ref fr] f (fun v f1 => v = none ∧ XP G f f1 en nw na nq nr Q (hearA (rk, ri, rx, rv) (st, li, sr, tm, lp, mi, ix, gq, L))) (fun E f1 => False) := by
  refine hp_start hl (own := RX1) (by decide) rfl (Nat.le_of_ble_eq_true rfl) ?_
  intro p e s m args below meth c B0 hr hnm hout hw hS ls hl9
  have hx := B0.1
  have hb := B0.2.1
  have hl9 : lv_has ls 3 [(0, .ref en), (1, .ref fr)] := hl9
  have ke1 : f en = some (.inr (1, [.ref nw, .ref na, .ref nq, .ref nr, .int (num ix), .int st, .int tm, .int sr, .int li, .int lp, .int mi])) := (hE).1
  have kq2 : f nq = some (.inl (cI G, 6, .inl gq)) := (hE).2.1
  obtain ⟨hd4, kr3, hc5⟩ := (hE).2.2.1
  refine lv_aload_n hx hb dX1_hearAnswer_0 rfl (lv_at hl9 0 rfl) ?_
  refine hp_get B0 hw 1 rfl in_X1 ke1 5 (by decide) qF_X1_28 rfl dX1_hearAnswer_1 ?_
  refine lv_iconst (v := 1) hx hb dX1_hearAnswer_4 (by decide) ?_
  refine lv_icmp_eq (tgt := 16) hx hb dX1_hearAnswer_5 (by decide) (fun c6 => ?_) (fun c6 => ?_)
  · refine lv_iconst (v := 1) hx hb dX1_hearAnswer_16 (by decide) ?_
    refine lv_goto (tgt := 21) hx hb dX1_hearAnswer_17 (by decide) ?_
    refine lv_istore_n (lv' := [(2, .int 1), (0, .ref en), (1, .ref fr)]) hx hb dX1_hearAnswer_21 rfl hl9 (by decide) rfl (fun ls hl9 => ?_)
    refine lv_iload_n hx hb dX1_hearAnswer_22 rfl (lv_at hl9 0 rfl) ?_
    refine lv_if_eq (tgt := 37) hx hb dX1_hearAnswer_23 (by decide) (fun c9 => absurd c9 (by decide)) (fun _ => ?_)
    refine lv_aload_n hx hb dX1_hearAnswer_26 rfl (lv_at hl9 2 rfl) ?_
    refine hp_get B0 hw 2 rfl in_X2 k_fr 1 (by decide) qF_X1_86 rfl dX1_hearAnswer_27 ?_
    refine lv_aload_n hx hb dX1_hearAnswer_30 rfl (lv_at hl9 1 rfl) ?_
    refine hp_get B0 hw 1 rfl in_X1 ke1 8 (by decide) qF_X1_38 rfl dX1_hearAnswer_31 ?_
    refine lv_icmp_eq (tgt := 38) hx hb dX1_hearAnswer_34 (by decide) (fun c7 => ?_) (fun c7 => ?_)
    · refine lv_aload_n hx hb dX1_hearAnswer_38 rfl (lv_at hl9 2 rfl) ?_
      refine hp_get B0 hw 2 rfl in_X2 k_fr 0 (by decide) qF_X1_70 rfl dX1_hearAnswer_39 ?_
      refine lv_iconst (v := 1) hx hb dX1_hearAnswer_42 (by decide) ?_
      refine lv_icmp_ne (tgt := 64) hx hb dX1_hearAnswer_43 (by decide) (fun c8 => ?_) (fun c8 => ?_)
      · refine lv_aload_n hx hb dX1_hearAnswer_64 rfl (lv_at hl9 1 rfl) ?_
        refine lv_aload_n hx hb dX1_hearAnswer_65 rfl (lv_at hl9 2 rfl) ?_
        refine hp_V (ci := 1) (As := [.ref fr]) (rest := []) B0 hw hS (c_X1_chgX hl G f en nw na nq nr (num ix) st tm sr li lp mi gq ke1 kq2 fr u rk ri (mgF (rk, ri, rx, rv)) nx rv k_fr k_u huq) mV_X1_changeAskedFor qM_X1_89 rfl ke1 rfl rfl hl9.1 (Nat.le_of_ble_eq_true rfl) ⟨⟨Nat.le_of_ble_eq_true rfl, Nat.le_of_ble_eq_true rfl⟩, Nat.le_of_ble_eq_true rfl, Nat.le_of_ble_eq_true rfl⟩ dX1_hearAnswer_66 (fun E ce q9 f10 H locs hPX hw hS hce hcv hcl => ?_) (fun v f10 H locs hP hw hS => ?_)
        · exact hPX.elim
        · obtain ⟨ev9, e11⟩ := hP
          subst ev9
          have h12 : f10 nq = some (.inl (cI G, 6, .inl (chgF gq rv rk))) := by rw [e11, va_up_self]
          refine W.eq (g2 := F0 m 69 ls []) rfl ?_
          refine lv_aload_n hx hb dX1_hearAnswer_69 rfl (lv_at hl9 1 rfl) ?_
          have n14 : en ≠ nq := hne ke1 kq2 (Nat.ne_of_beq_eq_false rfl)
          have h13 : f10 en = some (.inr (1, [.ref nw, .ref na, .ref nq, .ref nr, .int (num ix), .int st, .int tm, .int sr, .int li, .int lp, .int mi])) := by rw [e11, va_up_ne _ _ n14]; exact ke1
          have n16 : nr ≠ nq := hne kr3 kq2 (Nat.ne_of_beq_eq_false rfl)
          have h15 : f10 nr = some (.inr (3, [hd4, (lastV Q), .int (nI (Q).length)])) := by rw [e11, va_up_ne _ _ n16]; exact kr3
          refine hp_V (ci := 1) (As := []) (rest := []) B0 hw hS (c_X1_askX hl G f10 en nw na nq nr st li sr tm lp mi ix (chgF gq rv rk) L Q (show EX G f10 en nw na nq nr (st, li, sr, tm, lp, mi, ix, (chgF gq rv rk), L) Q from ⟨h13, h12, ⟨_, h15, (CH.kp (show hK2 [en, nq, nr] [] f f10 from (by rw [e11]; exact hK2.up (List.mem_cons_of_mem _ List.mem_cons_self))) hc5 (EX.cu (hE)) (EX.sf (hE)))⟩, (hE).2.2.2.1, (hE).2.2.2.2.1, (hE).2.2.2.2.2⟩) (Nat.lt_trans hn (by decide))) mV_X1_ask qM_X1_63 rfl h13 rfl rfl hl9.1 (Nat.le_of_ble_eq_true rfl) ⟨⟨Nat.le_of_ble_eq_true rfl, Nat.le_of_ble_eq_true rfl⟩, Nat.le_of_ble_eq_true rfl, Nat.le_of_ble_eq_true rfl⟩ dX1_hearAnswer_70 (fun E ce q9 f17 H locs hPX hw hS hce hcv hcl => ?_) (fun v f17 H locs hP hw hS => ?_)
          · exact hPX.elim
          · rcases hP with ⟨c18, ev9, w19, u20, hw21, hu22, hE23, k24⟩ | ⟨c18, ev9, hE23, k24⟩
            · subst ev9
              have hN25 : ∀ c9 ∈ [(w19, u20)], f10 c9.1 = none ∧ f10 c9.2 = none := fun c9 hc9 => by rw [List.mem_singleton.mp hc9]; exact ⟨hw21, hu22⟩
              have ke26 : f17 en = some (.inr (1, [.ref nw, .ref na, .ref nq, .ref nr, .int (num ix), .int st, .int 3, .int (sr + 1), .int (li + 1), .int lp, .int mi])) := (hE23).1
              have kq27 : f17 nq = some (.inl (cI G, 6, .inl (chgF gq rv rk))) := (hE23).2.1
              obtain ⟨hd29, kr28, hc30⟩ := (hE23).2.2.1
              refine W.eq (g2 := F0 m 73 ls [.int 1]) rfl ?_
              refine lv_pop hx hb dX1_hearAnswer_73 rfl ?_
              exact hp_vret B0 hw hS hr ⟨Nat.le_of_ble_eq_true rfl, Nat.le_of_ble_eq_true rfl⟩ dX1_hearAnswer_74 (⟨rfl, ⟨_, (fun c9 h9 => ⟨(show hK2 [nq] [] f f10 from (by rw [e11]; exact hK2.up List.mem_cons_self)).1 _ (hN25 c9 h9).1, (show hK2 [nq] [] f f10 from (by rw [e11]; exact hK2.up List.mem_cons_self)).1 _ (hN25 c9 h9).2⟩), (by rw [show hearA (rk, ri, rx, rv) (st, li, sr, tm, lp, mi, ix, gq, L) = (st, (li + 1), (sr + 1), 3, lp, mi, ix, (chgF gq rv rk), (L ++ [(0, li + 1, ix, (chgF gq rv rk))])) from ((if_pos ⟨(Or.inl c6), c7⟩).trans (if_neg c8)).trans (if_pos c18)]; exact (show EX G f17 en nw na nq nr (st, (li + 1), (sr + 1), 3, lp, mi, ix, (chgF gq rv rk), (L ++ [(0, li + 1, ix, (chgF gq rv rk))])) (Q ++ [(w19, u20)]) from ⟨ke26, kq27, ⟨_, kr28, hc30⟩, (hE23).2.2.2.1, (hE23).2.2.2.2.1, (hE).2.2.2.2.2⟩)), ((show hK2 [en, nq, nr] Q f f10 from (by rw [e11]; exact hK2.up (List.mem_cons_of_mem _ List.mem_cons_self))).tr (show hK2 [en, nq, nr] Q f10 f17 from (k24.mono (sub_cons List.mem_cons_self (sub_cons (List.mem_cons_of_mem _ (List.mem_cons_of_mem _ List.mem_cons_self)) sub_nil)))))⟩⟩)
            · subst ev9
              have ke31 : f17 en = some (.inr (1, [.ref nw, .ref na, .ref nq, .ref nr, .int (num ix), .int 0, .int tm, .int sr, .int li, .int lp, .int mi])) := (hE23).1
              have kq32 : f17 nq = some (.inl (cI G, 6, .inl (chgF gq rv rk))) := (hE23).2.1
              obtain ⟨hd34, kr33, hc35⟩ := (hE23).2.2.1
              refine W.eq (g2 := F0 m 73 ls [.int 0]) rfl ?_
              refine lv_pop hx hb dX1_hearAnswer_73 rfl ?_
              exact hp_vret B0 hw hS hr ⟨Nat.le_of_ble_eq_true rfl, Nat.le_of_ble_eq_true rfl⟩ dX1_hearAnswer_74 (⟨rfl, (XP.zero (by rw [show hearA (rk, ri, rx, rv) (st, li, sr, tm, lp, mi, ix, gq, L) = (0, li, sr, tm, lp, mi, ix, (chgF gq rv rk), L) from ((if_pos ⟨(Or.inl c6), c7⟩).trans (if_neg c8)).trans (if_neg c18)]; exact (show EX G f17 en nw na nq nr (0, li, sr, tm, lp, mi, ix, (chgF gq rv rk), L) Q from ⟨ke31, kq32, ⟨_, kr33, hc35⟩, (hE23).2.2.2.1, (hE23).2.2.2.2.1, (hE).2.2.2.2.2⟩)) ((show hK2 [en, nq, nr] Q f f10 from (by rw [e11]; exact hK2.up (List.mem_cons_of_mem _ List.mem_cons_self))).tr (show hK2 [en, nq, nr] Q f10 f17 from (k24.mono (sub_cons List.mem_cons_self (sub_cons (List.mem_cons_of_mem _ (List.mem_cons_of_mem _ List.mem_cons_self)) sub_nil))))))⟩)
      · refine lv_aload_n hx hb dX1_hearAnswer_46 rfl (lv_at hl9 1 rfl) ?_
        refine lv_aload_n hx hb dX1_hearAnswer_47 rfl (lv_at hl9 1 rfl) ?_
        refine hp_get B0 hw 1 rfl in_X1 ke1 5 (by decide) qF_X1_28 rfl dX1_hearAnswer_48 ?_
        refine lv_iconst (v := 1) hx hb dX1_hearAnswer_51 (by decide) ?_
        refine lv_icmp_ne (tgt := 59) hx hb dX1_hearAnswer_52 (by decide) (fun c9 => absurd c6 c9) (fun _ => ?_)
        refine lv_iconst (v := 2) hx hb dX1_hearAnswer_55 (by decide) ?_
        refine lv_goto (tgt := 60) hx hb dX1_hearAnswer_56 (by decide) ?_
        refine hp_put (fs1 := [.ref nw, .ref na, .ref nq, .ref nr, .int (num ix), .int 2, .int tm, .int sr, .int li, .int lp, .int mi]) (ty := .int) B0 hw hS 1 rfl in_X1 tyX1 tyX1_ok nmX1 ke1 5 (by decide) qF_X1_28 rfl (by decide +kernel) rfl rfl (Nat.le_of_ble_eq_true rfl) rfl dX1_hearAnswer_60 (fun H locs f36 ef36 hw hS => ?_)
        have h37 : f36 en = some (.inr (1, [.ref nw, .ref na, .ref nq, .ref nr, .int (num ix), .int 2, .int tm, .int sr, .int li, .int lp, .int mi])) := by rw [ef36, va_up_self]
        have n39 : nq ≠ en := hne kq2 ke1 (Nat.ne_of_beq_eq_false rfl)
        have h38 : f36 nq = some (.inl (cI G, 6, .inl gq)) := by rw [ef36, va_up_ne _ _ n39]; exact kq2
        have n41 : nr ≠ en := hne kr3 ke1 (Nat.ne_of_beq_eq_false rfl)
        have h40 : f36 nr = some (.inr (3, [hd4, (lastV Q), .int (nI (Q).length)])) := by rw [ef36, va_up_ne _ _ n41]; exact kr3
        exact hp_vret B0 hw hS hr ⟨Nat.le_of_ble_eq_true rfl, Nat.le_of_ble_eq_true rfl⟩ dX1_hearAnswer_63 (⟨rfl, (XP.zero (by rw [show hearA (rk, ri, rx, rv) (st, li, sr, tm, lp, mi, ix, gq, L) = (2, li, sr, tm, lp, mi, ix, gq, L) from ((if_pos ⟨(Or.inl c6), c7⟩).trans (if_pos c8)).trans (congrArg (fun z9 => (z9, li, sr, tm, lp, mi, ix, gq, L)) (if_pos c6))]; exact (show EX G f36 en nw na nq nr (2, li, sr, tm, lp, mi, ix, gq, L) Q from ⟨h37, h38, ⟨_, h40, (CH.kp (show hK2 [en, nq, nr] [] f f36 from (by rw [ef36]; exact hK2.up List.mem_cons_self)) hc5 (EX.cu (hE)) (EX.sf (hE)))⟩, (hE).2.2.2.1, (hE).2.2.2.2.1, (hE).2.2.2.2.2⟩)) (show hK2 [en, nq, nr] Q f f36 from (by rw [ef36]; exact hK2.up List.mem_cons_self)))⟩)
    · exact hp_vret B0 hw hS hr ⟨Nat.le_of_ble_eq_true rfl, Nat.le_of_ble_eq_true rfl⟩ dX1_hearAnswer_37 (⟨rfl, (XP.zero (by rw [show hearA (rk, ri, rx, rv) (st, li, sr, tm, lp, mi, ix, gq, L) = (st, li, sr, tm, lp, mi, ix, gq, L) from if_neg (fun h9 => c7 h9.2)]; exact (show EX G f en nw na nq nr (st, li, sr, tm, lp, mi, ix, gq, L) Q from ⟨ke1, kq2, ⟨_, kr3, hc5⟩, (hE).2.2.2.1, (hE).2.2.2.2.1, (hE).2.2.2.2.2⟩)) hK2.rf)⟩)
  · refine lv_aload_n hx hb dX1_hearAnswer_8 rfl (lv_at hl9 0 rfl) ?_
    refine hp_get B0 hw 1 rfl in_X1 ke1 5 (by decide) qF_X1_28 rfl dX1_hearAnswer_9 ?_
    refine lv_iconst (v := 3) hx hb dX1_hearAnswer_12 (by decide) ?_
    refine lv_icmp_ne (tgt := 20) hx hb dX1_hearAnswer_13 (by decide) (fun c42 => ?_) (fun c42 => ?_)
    · refine lv_iconst (v := 0) hx hb dX1_hearAnswer_20 (by decide) ?_
      refine lv_istore_n (lv' := [(2, .int 0), (0, .ref en), (1, .ref fr)]) hx hb dX1_hearAnswer_21 rfl hl9 (by decide) rfl (fun ls hl9 => ?_)
      refine lv_iload_n hx hb dX1_hearAnswer_22 rfl (lv_at hl9 0 rfl) ?_
      refine lv_if_eq (tgt := 37) hx hb dX1_hearAnswer_23 (by decide) (fun _ => ?_) (fun c9 => absurd (by decide) c9)
      exact hp_vret B0 hw hS hr ⟨Nat.le_of_ble_eq_true rfl, Nat.le_of_ble_eq_true rfl⟩ dX1_hearAnswer_37 (⟨rfl, (XP.zero (by rw [show hearA (rk, ri, rx, rv) (st, li, sr, tm, lp, mi, ix, gq, L) = (st, li, sr, tm, lp, mi, ix, gq, L) from if_neg (fun h9 => h9.1.elim c6 c42)]; exact (show EX G f en nw na nq nr (st, li, sr, tm, lp, mi, ix, gq, L) Q from ⟨ke1, kq2, ⟨_, kr3, hc5⟩, (hE).2.2.2.1, (hE).2.2.2.2.1, (hE).2.2.2.2.2⟩)) hK2.rf)⟩)
    · refine lv_iconst (v := 1) hx hb dX1_hearAnswer_16 (by decide) ?_
      refine lv_goto (tgt := 21) hx hb dX1_hearAnswer_17 (by decide) ?_
      refine lv_istore_n (lv' := [(2, .int 1), (0, .ref en), (1, .ref fr)]) hx hb dX1_hearAnswer_21 rfl hl9 (by decide) rfl (fun ls hl9 => ?_)
      refine lv_iload_n hx hb dX1_hearAnswer_22 rfl (lv_at hl9 0 rfl) ?_
      refine lv_if_eq (tgt := 37) hx hb dX1_hearAnswer_23 (by decide) (fun c9 => absurd c9 (by decide)) (fun _ => ?_)
      refine lv_aload_n hx hb dX1_hearAnswer_26 rfl (lv_at hl9 2 rfl) ?_
      refine hp_get B0 hw 2 rfl in_X2 k_fr 1 (by decide) qF_X1_86 rfl dX1_hearAnswer_27 ?_
      refine lv_aload_n hx hb dX1_hearAnswer_30 rfl (lv_at hl9 1 rfl) ?_
      refine hp_get B0 hw 1 rfl in_X1 ke1 8 (by decide) qF_X1_38 rfl dX1_hearAnswer_31 ?_
      refine lv_icmp_eq (tgt := 38) hx hb dX1_hearAnswer_34 (by decide) (fun c43 => ?_) (fun c43 => ?_)
      · refine lv_aload_n hx hb dX1_hearAnswer_38 rfl (lv_at hl9 2 rfl) ?_
        refine hp_get B0 hw 2 rfl in_X2 k_fr 0 (by decide) qF_X1_70 rfl dX1_hearAnswer_39 ?_
        refine lv_iconst (v := 1) hx hb dX1_hearAnswer_42 (by decide) ?_
        refine lv_icmp_ne (tgt := 64) hx hb dX1_hearAnswer_43 (by decide) (fun c44 => ?_) (fun c44 => ?_)
        · refine lv_aload_n hx hb dX1_hearAnswer_64 rfl (lv_at hl9 1 rfl) ?_
          refine lv_aload_n hx hb dX1_hearAnswer_65 rfl (lv_at hl9 2 rfl) ?_
          refine hp_V (ci := 1) (As := [.ref fr]) (rest := []) B0 hw hS (c_X1_chgX hl G f en nw na nq nr (num ix) st tm sr li lp mi gq ke1 kq2 fr u rk ri (mgF (rk, ri, rx, rv)) nx rv k_fr k_u huq) mV_X1_changeAskedFor qM_X1_89 rfl ke1 rfl rfl hl9.1 (Nat.le_of_ble_eq_true rfl) ⟨⟨Nat.le_of_ble_eq_true rfl, Nat.le_of_ble_eq_true rfl⟩, Nat.le_of_ble_eq_true rfl, Nat.le_of_ble_eq_true rfl⟩ dX1_hearAnswer_66 (fun E ce q9 f45 H locs hPX hw hS hce hcv hcl => ?_) (fun v f45 H locs hP hw hS => ?_)
          · exact hPX.elim
          · obtain ⟨ev9, e46⟩ := hP
            subst ev9
            have h47 : f45 nq = some (.inl (cI G, 6, .inl (chgF gq rv rk))) := by rw [e46, va_up_self]
            refine W.eq (g2 := F0 m 69 ls []) rfl ?_
            refine lv_aload_n hx hb dX1_hearAnswer_69 rfl (lv_at hl9 1 rfl) ?_
            have n49 : en ≠ nq := hne ke1 kq2 (Nat.ne_of_beq_eq_false rfl)
            have h48 : f45 en = some (.inr (1, [.ref nw, .ref na, .ref nq, .ref nr, .int (num ix), .int st, .int tm, .int sr, .int li, .int lp, .int mi])) := by rw [e46, va_up_ne _ _ n49]; exact ke1
            have n51 : nr ≠ nq := hne kr3 kq2 (Nat.ne_of_beq_eq_false rfl)
            have h50 : f45 nr = some (.inr (3, [hd4, (lastV Q), .int (nI (Q).length)])) := by rw [e46, va_up_ne _ _ n51]; exact kr3
            refine hp_V (ci := 1) (As := []) (rest := []) B0 hw hS (c_X1_askX hl G f45 en nw na nq nr st li sr tm lp mi ix (chgF gq rv rk) L Q (show EX G f45 en nw na nq nr (st, li, sr, tm, lp, mi, ix, (chgF gq rv rk), L) Q from ⟨h48, h47, ⟨_, h50, (CH.kp (show hK2 [en, nq, nr] [] f f45 from (by rw [e46]; exact hK2.up (List.mem_cons_of_mem _ List.mem_cons_self))) hc5 (EX.cu (hE)) (EX.sf (hE)))⟩, (hE).2.2.2.1, (hE).2.2.2.2.1, (hE).2.2.2.2.2⟩) (Nat.lt_trans hn (by decide))) mV_X1_ask qM_X1_63 rfl h48 rfl rfl hl9.1 (Nat.le_of_ble_eq_true rfl) ⟨⟨Nat.le_of_ble_eq_true rfl, Nat.le_of_ble_eq_true rfl⟩, Nat.le_of_ble_eq_true rfl, Nat.le_of_ble_eq_true rfl⟩ dX1_hearAnswer_70 (fun E ce q9 f52 H locs hPX hw hS hce hcv hcl => ?_) (fun v f52 H locs hP hw hS => ?_)
            · exact hPX.elim
            · rcases hP with ⟨c53, ev9, w54, u55, hw56, hu57, hE58, k59⟩ | ⟨c53, ev9, hE58, k59⟩
              · subst ev9
                have hN60 : ∀ c9 ∈ [(w54, u55)], f45 c9.1 = none ∧ f45 c9.2 = none := fun c9 hc9 => by rw [List.mem_singleton.mp hc9]; exact ⟨hw56, hu57⟩
                have ke61 : f52 en = some (.inr (1, [.ref nw, .ref na, .ref nq, .ref nr, .int (num ix), .int st, .int 3, .int (sr + 1), .int (li + 1), .int lp, .int mi])) := (hE58).1
                have kq62 : f52 nq = some (.inl (cI G, 6, .inl (chgF gq rv rk))) := (hE58).2.1
                obtain ⟨hd64, kr63, hc65⟩ := (hE58).2.2.1
                refine W.eq (g2 := F0 m 73 ls [.int 1]) rfl ?_
                refine lv_pop hx hb dX1_hearAnswer_73 rfl ?_
                exact hp_vret B0 hw hS hr ⟨Nat.le_of_ble_eq_true rfl, Nat.le_of_ble_eq_true rfl⟩ dX1_hearAnswer_74 (⟨rfl, ⟨_, (fun c9 h9 => ⟨(show hK2 [nq] [] f f45 from (by rw [e46]; exact hK2.up List.mem_cons_self)).1 _ (hN60 c9 h9).1, (show hK2 [nq] [] f f45 from (by rw [e46]; exact hK2.up List.mem_cons_self)).1 _ (hN60 c9 h9).2⟩), (by rw [show hearA (rk, ri, rx, rv) (st, li, sr, tm, lp, mi, ix, gq, L) = (st, (li + 1), (sr + 1), 3, lp, mi, ix, (chgF gq rv rk), (L ++ [(0, li + 1, ix, (chgF gq rv rk))])) from ((if_pos ⟨(Or.inr c42), c43⟩).trans (if_neg c44)).trans (if_pos c53)]; exact (show EX G f52 en nw na nq nr (st, (li + 1), (sr + 1), 3, lp, mi, ix, (chgF gq rv rk), (L ++ [(0, li + 1, ix, (chgF gq rv rk))])) (Q ++ [(w54, u55)]) from ⟨ke61, kq62, ⟨_, kr63, hc65⟩, (hE58).2.2.2.1, (hE58).2.2.2.2.1, (hE).2.2.2.2.2⟩)), ((show hK2 [en, nq, nr] Q f f45 from (by rw [e46]; exact hK2.up (List.mem_cons_of_mem _ List.mem_cons_self))).tr (show hK2 [en, nq, nr] Q f45 f52 from (k59.mono (sub_cons List.mem_cons_self (sub_cons (List.mem_cons_of_mem _ (List.mem_cons_of_mem _ List.mem_cons_self)) sub_nil)))))⟩⟩)
              · subst ev9
                have ke66 : f52 en = some (.inr (1, [.ref nw, .ref na, .ref nq, .ref nr, .int (num ix), .int 0, .int tm, .int sr, .int li, .int lp, .int mi])) := (hE58).1
                have kq67 : f52 nq = some (.inl (cI G, 6, .inl (chgF gq rv rk))) := (hE58).2.1
                obtain ⟨hd69, kr68, hc70⟩ := (hE58).2.2.1
                refine W.eq (g2 := F0 m 73 ls [.int 0]) rfl ?_
                refine lv_pop hx hb dX1_hearAnswer_73 rfl ?_
                exact hp_vret B0 hw hS hr ⟨Nat.le_of_ble_eq_true rfl, Nat.le_of_ble_eq_true rfl⟩ dX1_hearAnswer_74 (⟨rfl, (XP.zero (by rw [show hearA (rk, ri, rx, rv) (st, li, sr, tm, lp, mi, ix, gq, L) = (0, li, sr, tm, lp, mi, ix, (chgF gq rv rk), L) from ((if_pos ⟨(Or.inr c42), c43⟩).trans (if_neg c44)).trans (if_neg c53)]; exact (show EX G f52 en nw na nq nr (0, li, sr, tm, lp, mi, ix, (chgF gq rv rk), L) Q from ⟨ke66, kq67, ⟨_, kr68, hc70⟩, (hE58).2.2.2.1, (hE58).2.2.2.2.1, (hE).2.2.2.2.2⟩)) ((show hK2 [en, nq, nr] Q f f45 from (by rw [e46]; exact hK2.up (List.mem_cons_of_mem _ List.mem_cons_self))).tr (show hK2 [en, nq, nr] Q f45 f52 from (k59.mono (sub_cons List.mem_cons_self (sub_cons (List.mem_cons_of_mem _ (List.mem_cons_of_mem _ List.mem_cons_self)) sub_nil))))))⟩)
        · refine lv_aload_n hx hb dX1_hearAnswer_46 rfl (lv_at hl9 1 rfl) ?_
          refine lv_aload_n hx hb dX1_hearAnswer_47 rfl (lv_at hl9 1 rfl) ?_
          refine hp_get B0 hw 1 rfl in_X1 ke1 5 (by decide) qF_X1_28 rfl dX1_hearAnswer_48 ?_
          refine lv_iconst (v := 1) hx hb dX1_hearAnswer_51 (by decide) ?_
          refine lv_icmp_ne (tgt := 59) hx hb dX1_hearAnswer_52 (by decide) (fun _ => ?_) (fun c9 => absurd c9 c6)
          refine lv_iconst (v := 4) hx hb dX1_hearAnswer_59 (by decide) ?_
          refine hp_put (fs1 := [.ref nw, .ref na, .ref nq, .ref nr, .int (num ix), .int 4, .int tm, .int sr, .int li, .int lp, .int mi]) (ty := .int) B0 hw hS 1 rfl in_X1 tyX1 tyX1_ok nmX1 ke1 5 (by decide) qF_X1_28 rfl (by decide +kernel) rfl rfl (Nat.le_of_ble_eq_true rfl) rfl dX1_hearAnswer_60 (fun H locs f71 ef71 hw hS => ?_)
          have h72 : f71 en = some (.inr (1, [.ref nw, .ref na, .ref nq, .ref nr, .int (num ix), .int 4, .int tm, .int sr, .int li, .int lp, .int mi])) := by rw [ef71, va_up_self]
          have n74 : nq ≠ en := hne kq2 ke1 (Nat.ne_of_beq_eq_false rfl)
          have h73 : f71 nq = some (.inl (cI G, 6, .inl gq)) := by rw [ef71, va_up_ne _ _ n74]; exact kq2
          have n76 : nr ≠ en := hne kr3 ke1 (Nat.ne_of_beq_eq_false rfl)
          have h75 : f71 nr = some (.inr (3, [hd4, (lastV Q), .int (nI (Q).length)])) := by rw [ef71, va_up_ne _ _ n76]; exact kr3
          exact hp_vret B0 hw hS hr ⟨Nat.le_of_ble_eq_true rfl, Nat.le_of_ble_eq_true rfl⟩ dX1_hearAnswer_63 (⟨rfl, (XP.zero (by rw [show hearA (rk, ri, rx, rv) (st, li, sr, tm, lp, mi, ix, gq, L) = (4, li, sr, tm, lp, mi, ix, gq, L) from ((if_pos ⟨(Or.inr c42), c43⟩).trans (if_pos c44)).trans (congrArg (fun z9 => (z9, li, sr, tm, lp, mi, ix, gq, L)) (if_neg c6))]; exact (show EX G f71 en nw na nq nr (4, li, sr, tm, lp, mi, ix, gq, L) Q from ⟨h72, h73, ⟨_, h75, (CH.kp (show hK2 [en, nq, nr] [] f f71 from (by rw [ef71]; exact hK2.up List.mem_cons_self)) hc5 (EX.cu (hE)) (EX.sf (hE)))⟩, (hE).2.2.2.1, (hE).2.2.2.2.1, (hE).2.2.2.2.2⟩)) (show hK2 [en, nq, nr] Q f f71 from (by rw [ef71]; exact hK2.up List.mem_cons_self)))⟩)
      · exact hp_vret B0 hw hS hr ⟨Nat.le_of_ble_eq_true rfl, Nat.le_of_ble_eq_true rfl⟩ dX1_hearAnswer_37 (⟨rfl, (XP.zero (by rw [show hearA (rk, ri, rx, rv) (st, li, sr, tm, lp, mi, ix, gq, L) = (st, li, sr, tm, lp, mi, ix, gq, L) from if_neg (fun h9 => c43 h9.2)]; exact (show EX G f en nw na nq nr (st, li, sr, tm, lp, mi, ix, gq, L) Q from ⟨ke1, kq2, ⟨_, kr3, hc5⟩, (hE).2.2.2.1, (hE).2.2.2.2.1, (hE).2.2.2.2.2⟩)) hK2.rf)⟩)

set_option maxHeartbeats 4000000 in
set_option maxRecDepth 100000 in
theorem c_X1_hearX {l : Launch} (hl : l.stackTraces = false) (G : hG) (f : hM) (en nw na nq nr : Nat) (st li sr tm lp mi ix : Int32) (gq : Nat → Int32) (L : List Fr) (Q : List (Nat × Nat)) (hE : EX G f en nw na nq nr (st, li, sr, tm, lp, mi, ix, gq, L) Q) (hn : Q.length < 3900) (ga : Nat → Int32) (k_na : f na = some (.inl (cI G, 6, .inl ga))) (haq : na ≠ nq) (fr u : Nat) (rk ri rx : Int32) (rv : Nat → Int32) (nx : Value) (k_fr : f fr = some (.inr (2, [.int rk, .int ri, .int (mgF (rk, ri, rx, rv)), .ref u, nx]))) (k_u : f u = some (.inl (cI G, 6, .inl rv))) (hfQ : fr ∉ ws Q) (huq : u ≠ nq) : CT l yX1_hear (.code yX1_hear cX1_hear 2 none) 5 111 4 22 G [.ref en, .ref fr] f (fun v f1 => v = none ∧ XP G f f1 en nw na nq nr Q (hearF ga (rk, ri, rx, rv) (st, li, sr, tm, lp, mi, ix, gq, L))) (fun E f1 => False) := by
  refine hp_start hl (own := RX1) (by decide) rfl (Nat.le_of_ble_eq_true rfl) ?_
  intro p e s m args below meth c B0 hr hnm hout hw hS ls hl9
  have hx := B0.1
  have hb := B0.2.1
  have hl9 : lv_has ls 2 [(0, .ref en), (1, .ref fr)] := hl9
  have ke1 : f en = some (.inr (1, [.ref nw, .ref na, .ref nq, .ref nr, .int (num ix), .int st, .int tm, .int sr, .int li, .int lp, .int mi])) := (hE).1
  have kq2 : f nq = some (.inl (cI G, 6, .inl gq)) := (hE).2.1
  obtain ⟨hd4, kr3, hc5⟩ := (hE).2.2.1
  refine lv_aload_n hx hb dX1_hear_0 rfl (lv_at hl9 1 rfl) ?_
  refine hp_get B0 hw 2 rfl in_X2 k_fr 0 (by decide) qF_X1_70 rfl dX1_hear_1 ?_
  rcases (show rk.toInt = 0 ∨ rk.toInt = 4 ∨ (rk.toInt ≠ 0 ∧ rk.toInt ≠ 4) by omega) with h9 | h9 | ⟨h8, h9⟩
  · have hk0 : rk = 0 := i32_of 0 h9 rfl
    refine lv_lookup (off := 28) (tgt := 32) hx hb dX1_hear_4 (by decide) (by rw [h9]; rfl) (by decide) ?_
    refine lv_aload_n hx hb dX1_hear_32 rfl (lv_at hl9 0 rfl) ?_
    refine lv_aload_n hx hb dX1_hear_33 rfl (lv_at hl9 1 rfl) ?_
    refine hp_V (ci := 1) (As := [.ref fr]) (rest := []) B0 hw hS (c_X1_hearQX hl G f en nw na nq nr st li sr tm lp mi ix gq L Q (show EX G f en nw na nq nr (st, li, sr, tm, lp, mi, ix, gq, L) Q from ⟨ke1, kq2, ⟨_, kr3, hc5⟩, (hE).2.2.2.1, (hE).2.2.2.2.1, (hE).2.2.2.2.2⟩) hn ga k_na haq fr u rk ri rx rv nx k_fr k_u hfQ huq hk0) mV_X1_hearRequest qM_X1_75 rfl ke1 rfl rfl hl9.1 (Nat.le_of_ble_eq_true rfl) ⟨⟨Nat.le_of_ble_eq_true rfl, Nat.le_of_ble_eq_true rfl⟩, Nat.le_of_ble_eq_true rfl, Nat.le_of_ble_eq_true rfl⟩ dX1_hear_34 (fun E ce q9 f6 H locs hPX hw hS hce hcv hcl => ?_) (fun v f6 H locs hP hw hS => ?_)
    · exact hPX.elim
    · obtain ⟨ev9, x7⟩ := hP
      subst ev9
      refine W.eq (g2 := F0 m 37 ls []) rfl ?_
      refine lv_goto (tgt := 53) hx hb dX1_hear_37 (by decide) ?_
      exact hp_vret B0 hw hS hr ⟨Nat.le_of_ble_eq_true rfl, Nat.le_of_ble_eq_true rfl⟩ dX1_hear_53 (⟨rfl, (XP.tr (N := []) (fun c9 h9 => nomatch h9) hK2.rf (by rw [List.append_nil]; exact (by rw [show hearF ga (rk, ri, rx, rv) (st, li, sr, tm, lp, mi, ix, gq, L) = hearQ ga (rk, ri, rx, rv) (st, li, sr, tm, lp, mi, ix, gq, L) from if_pos hk0]; exact x7)))⟩)
  · have hk4 : rk = 4 := i32_of 4 h9 rfl
    have hk0 : ¬ rk = 0 := by rw [hk4]; decide
    refine lv_lookup (off := 36) (tgt := 40) hx hb dX1_hear_4 (by decide) (by rw [h9]; rfl) (by decide) ?_
    refine lv_aload_n hx hb dX1_hear_40 rfl (lv_at hl9 0 rfl) ?_
    refine lv_iconst (v := 0) hx hb dX1_hear_41 (by decide) ?_
    refine hp_put (fs1 := [.ref nw, .ref na, .ref nq, .ref nr, .int (num ix), .int 0, .int tm, .int sr, .int li, .int lp, .int mi]) (ty := .int) B0 hw hS 1 rfl in_X1 tyX1 tyX1_ok nmX1 ke1 5 (by decide) qF_X1_28 rfl (by decide +kernel) rfl rfl (Nat.le_of_ble_eq_true rfl) rfl dX1_hear_42 (fun H locs f8 ef8 hw hS => ?_)
    have h10 : f8 en = some (.inr (1, [.ref nw, .ref na, .ref nq, .ref nr, .int (num ix), .int 0, .int tm, .int sr, .int li, .int lp, .int mi])) := by rw [ef8, va_up_self]
    refine lv_goto (tgt := 53) hx hb dX1_hear_45 (by decide) ?_
    have n12 : nq ≠ en := hne kq2 ke1 (Nat.ne_of_beq_eq_false rfl)
    have h11 : f8 nq = some (.inl (cI G, 6, .inl gq)) := by rw [ef8, va_up_ne _ _ n12]; exact kq2
    have n14 : nr ≠ en := hne kr3 ke1 (Nat.ne_of_beq_eq_false rfl)
    have h13 : f8 nr = some (.inr (3, [hd4, (lastV Q), .int (nI (Q).length)])) := by rw [ef8, va_up_ne _ _ n14]; exact kr3
    exact hp_vret B0 hw hS hr ⟨Nat.le_of_ble_eq_true rfl, Nat.le_of_ble_eq_true rfl⟩ dX1_hear_53 (⟨rfl, (XP.zero (by rw [show hearF ga (rk, ri, rx, rv) (st, li, sr, tm, lp, mi, ix, gq, L) = (0, li, sr, tm, lp, mi, ix, gq, L) from (if_neg hk0).trans (if_pos hk4)]; exact (show EX G f8 en nw na nq nr (0, li, sr, tm, lp, mi, ix, gq, L) Q from ⟨h10, h11, ⟨_, h13, (CH.kp (show hK2 [en, nq, nr] [] f f8 from (by rw [ef8]; exact hK2.up List.mem_cons_self)) hc5 (EX.cu (hE)) (EX.sf (hE)))⟩, (hE).2.2.2.1, (hE).2.2.2.2.1, (hE).2.2.2.2.2⟩)) (show hK2 [en, nq, nr] Q f f8 from (by rw [ef8]; exact hK2.up List.mem_cons_self)))⟩)
  · have hk0 : ¬ rk = 0 := fun z9 => h8 (by rw [z9]; rfl)
    have hk4 : ¬ rk = 4 := fun z9 => h9 (by rw [z9]; rfl)
    refine lv_lookup (off := 44) (tgt := 48) hx hb dX1_hear_4 (by decide) (by simp [Op.lookupswitch.offset, h8, h9, Ne.symm h8, Ne.symm h9]) (by decide) ?_
    refine lv_aload_n hx hb dX1_hear_48 rfl (lv_at hl9 0 rfl) ?_
    refine lv_aload_n hx hb dX1_hear_49 rfl (lv_at hl9 1 rfl) ?_
    refine hp_V (ci := 1) (As := [.ref fr]) (rest := []) B0 hw hS (c_X1_hearAX hl G f en nw na nq nr st li sr tm lp mi ix gq L Q (show EX G f en nw na nq nr (st, li, sr, tm, lp, mi, ix, gq, L) Q from ⟨ke1, kq2, ⟨_, kr3, hc5⟩, (hE).2.2.2.1, (hE).2.2.2.2.1, (hE).2.2.2.2.2⟩) hn fr u rk ri rx rv nx k_fr k_u hfQ huq) mV_X1_hearAnswer qM_X1_79 rfl ke1 rfl rfl hl9.1 (Nat.le_of_ble_eq_true rfl) ⟨⟨Nat.le_of_ble_eq_true rfl, Nat.le_of_ble_eq_true rfl⟩, Nat.le_of_ble_eq_true rfl, Nat.le_of_ble_eq_true rfl⟩ dX1_hear_50 (fun E ce q9 f15 H locs hPX hw hS hce hcv hcl => ?_) (fun v f15 H locs hP hw hS => ?_)
    · exact hPX.elim
    · obtain ⟨ev9, x16⟩ := hP
      subst ev9
      refine W.eq (g2 := F0 m 53 ls []) rfl ?_
      exact hp_vret B0 hw hS hr ⟨Nat.le_of_ble_eq_true rfl, Nat.le_of_ble_eq_true rfl⟩ dX1_hear_53 (⟨rfl, (XP.tr (N := []) (fun c9 h9 => nomatch h9) hK2.rf (by rw [List.append_nil]; exact (by rw [show hearF ga (rk, ri, rx, rv) (st, li, sr, tm, lp, mi, ix, gq, L) = hearA (rk, ri, rx, rv) (st, li, sr, tm, lp, mi, ix, gq, L) from (if_neg hk0).trans (if_neg hk4)]; exact x16)))⟩)

