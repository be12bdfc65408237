theorem va_up_id {f : hM} {a : Nat} {e : Option va_E} (h : f a = e) : f = va_up f a e := by
  funext b
  by_cases z : b = a
  · rw [z, va_up_self, h]
  · rw [va_up_ne _ _ z]
theorem arr6_up {G : hG} {f f9 : hM} {a b : Nat} {g g9 : Nat → Int32} (h : f a = some (.inl (cI G, 6, .inl g))) (e : f9 = va_up f b (some (.inl (cI G, 6, .inl g9)))) : ∃ g' : Nat → Int32, f9 a = some (.inl (cI G, 6, .inl g')) := by
  by_cases z : a = b
  · exact ⟨g9, by rw [e, z, va_up_self]⟩
  · exact ⟨g, by rw [e, va_up_ne _ _ z]; exact h⟩
theorem vin6j {j : Nat} (h : j < 6) : vp_in (nI j) 6 := vp_in_nI h (by decide)
set_option maxHeartbeats 4000000 in
set_option maxRecDepth 100000 in
theorem c_X1_isUnknown {l : Launch} (hl : l.stackTraces = false) (G : hG) (f : hM) (en nw na nq nr : Nat) (mg st tm sr li lp mi : Int32) (ga : Nat → Int32) (k_en : f en = some (.inr (1, [.ref nw, .ref na, .ref nq, .ref nr, .int mg, .int st, .int tm, .int sr, .int li, .int lp, .int mi]))) (k_na : f na = some (.inl (cI G, 6, .inl ga))) (o x : Int32) (hop : vp_in o 6) : CT l yX1_isUnknown (.code yX1_isUnknown cX1_isUnknown 3 (some .boolean)) 0 0 0 0 G [.ref en, .int o, .int x] f (fun v f1 => f1 = f ∧ (v = some (.int 0) ∨ v = some (.int 1))) (fun E f1 => False) := by
  refine hp_start hl (own := RX1) (by decide) rfl (Nat.le_of_ble_eq_true rfl) ?_
  intro p e s m args below meth c B0 hr hnm hout hw hS ls hl9
  have hx := B0.1
  have hb := B0.2.1
  have hl9 : lv_has ls 3 [(0, .ref en), (1, .int o), (2, .int x)] := hl9
  refine lv_iload_n hx hb dX1_isUnknown_0 rfl (lv_at hl9 2 rfl) ?_
  refine lv_iconst (v := (-1)) hx hb dX1_isUnknown_1 (by decide) ?_
  refine lv_icmp_eq (tgt := 18) hx hb dX1_isUnknown_2 (by decide) (fun c1 => ?_) (fun c1 => ?_)
  · refine lv_iconst (v := 0) hx hb dX1_isUnknown_18 (by decide) ?_
    exact hp_zret (v := 0) B0 hw hS hr ⟨Nat.le_of_ble_eq_true rfl, Nat.le_of_ble_eq_true rfl⟩ (rfl) dX1_isUnknown_19 (⟨rfl, Or.inl rfl⟩)
  · refine lv_aload_n hx hb dX1_isUnknown_5 rfl (lv_at hl9 0 rfl) ?_
    refine hp_get B0 hw 1 rfl in_X1 k_en 1 (by decide) qF_X1_15 rfl dX1_isUnknown_6 ?_
    refine lv_iload_n hx hb dX1_isUnknown_9 rfl (lv_at hl9 1 rfl) ?_
    refine hp_iald B0 hw k_na hop dX1_isUnknown_10 ?_
    refine lv_if_ne (tgt := 18) hx hb dX1_isUnknown_11 (by decide) (fun c2 => ?_) (fun c2 => ?_)
    · refine lv_iconst (v := 0) hx hb dX1_isUnknown_18 (by decide) ?_
      exact hp_zret (v := 0) B0 hw hS hr ⟨Nat.le_of_ble_eq_true rfl, Nat.le_of_ble_eq_true rfl⟩ (rfl) dX1_isUnknown_19 (⟨rfl, Or.inl rfl⟩)
    · refine lv_iconst (v := 1) hx hb dX1_isUnknown_14 (by decide) ?_
      refine lv_goto (tgt := 19) hx hb dX1_isUnknown_15 (by decide) ?_
      exact hp_zret (v := 1) B0 hw hS hr ⟨Nat.le_of_ble_eq_true rfl, Nat.le_of_ble_eq_true rfl⟩ (rfl) dX1_isUnknown_19 (⟨rfl, Or.inr rfl⟩)

set_option maxHeartbeats 4000000 in
set_option maxRecDepth 100000 in
theorem c_X1_allows {l : Launch} (hl : l.stackTraces = false) (G : hG) (f : hM) (en nw na nq nr : Nat) (mg st tm sr li lp mi : Int32) (ga : Nat → Int32) (k_en : f en = some (.inr (1, [.ref nw, .ref na, .ref nq, .ref nr, .int mg, .int st, .int tm, .int sr, .int li, .int lp, .int mi]))) (k_na : f na = some (.inl (cI G, 6, .inl ga))) (o x : Int32) (hop : vp_in o 6) : CT l yX1_allows (.code yX1_allows cX1_allows 3 (some .boolean)) 0 0 0 0 G [.ref en, .int o, .int x] f (fun v f1 => f1 = f ∧ (v = some (.int 0) ∨ v = some (.int 1))) (fun E f1 => False) := by
  refine hp_start hl (own := RX1) (by decide) rfl (Nat.le_of_ble_eq_true rfl) ?_
  intro p e s m args below meth c B0 hr hnm hout hw hS ls hl9
  have hx := B0.1
  have hb := B0.2.1
  have hl9 : lv_has ls 3 [(0, .ref en), (1, .int o), (2, .int x)] := hl9
  refine lv_aload_n hx hb dX1_allows_0 rfl (lv_at hl9 0 rfl) ?_
  refine hp_get B0 hw 1 rfl in_X1 k_en 1 (by decide) qF_X1_15 rfl dX1_allows_1 ?_
  refine lv_iload_n hx hb dX1_allows_4 rfl (lv_at hl9 1 rfl) ?_
  refine hp_iald B0 hw k_na hop dX1_allows_5 ?_
  refine lv_iload_n hx hb dX1_allows_6 rfl (lv_at hl9 2 rfl) ?_
  refine lv_ishr hx hb dX1_allows_7 ?_
  refine lv_iconst (v := 1) hx hb dX1_allows_8 (by decide) ?_
  refine lv_iand hx hb dX1_allows_9 ?_
  refine lv_iconst (v := 1) hx hb dX1_allows_10 (by decide) ?_
  refine lv_icmp_ne (tgt := 18) hx hb dX1_allows_11 (by decide) (fun c1 => ?_) (fun c1 => ?_)
  · refine lv_iconst (v := 0) hx hb dX1_allows_18 (by decide) ?_
    exact hp_zret (v := 0) B0 hw hS hr ⟨Nat.le_of_ble_eq_true rfl, Nat.le_of_ble_eq_true rfl⟩ (rfl) dX1_allows_19 (⟨rfl, Or.inl rfl⟩)
  · refine lv_iconst (v := 1) hx hb dX1_allows_14 (by decide) ?_
    refine lv_goto (tgt := 19) hx hb dX1_allows_15 (by decide) ?_
    exact hp_zret (v := 1) B0 hw hS hr ⟨Nat.le_of_ble_eq_true rfl, Nat.le_of_ble_eq_true rfl⟩ (rfl) dX1_allows_19 (⟨rfl, Or.inr rfl⟩)

set_option maxHeartbeats 4000000 in
set_option maxRecDepth 100000 in
theorem c_X1_isRefused {l : Launch} (hl : l.stackTraces = false) (G : hG) (f : hM) (en nw na nq nr : Nat) (mg st tm sr li lp mi : Int32) (ga : Nat → Int32) (k_en : f en = some (.inr (1, [.ref nw, .ref na, .ref nq, .ref nr, .int mg, .int st, .int tm, .int sr, .int li, .int lp, .int mi]))) (k_na : f na = some (.inl (cI G, 6, .inl ga))) (o x : Int32) (hop : vp_in o 6) : CT l yX1_isRefused (.code yX1_isRefused cX1_isRefused 3 (some .boolean)) 1 22 0 0 G [.ref en, .int o, .int x] f (fun v f1 => f1 = f ∧ (v = some (.int 0) ∨ v = some (.int 1))) (fun E f1 => False) := by
  refine hp_start hl (own := RX1) (by decide) rfl (Nat.le_of_ble_eq_true rfl) ?_
  intro p e s m args below meth c B0 hr hnm hout hw hS ls hl9
  have hx := B0.1
  have hb := B0.2.1
  have hl9 : lv_has ls 3 [(0, .ref en), (1, .int o), (2, .int x)] := hl9
  refine lv_iload_n hx hb dX1_isRefused_0 rfl (lv_at hl9 2 rfl) ?_
  refine lv_iconst (v := (-1)) hx hb dX1_isRefused_1 (by decide) ?_
  refine lv_icmp_eq (tgt := 18) hx hb dX1_isRefused_2 (by decide) (fun c1 => ?_) (fun c1 => ?_)
  · refine lv_iconst (v := 0) hx hb dX1_isRefused_18 (by decide) ?_
    exact hp_zret (v := 0) B0 hw hS hr ⟨Nat.le_of_ble_eq_true rfl, Nat.le_of_ble_eq_true rfl⟩ (rfl) dX1_isRefused_19 (⟨rfl, Or.inl rfl⟩)
  · refine lv_aload_n hx hb dX1_isRefused_5 rfl (lv_at hl9 0 rfl) ?_
    refine lv_iload_n hx hb dX1_isRefused_6 rfl (lv_at hl9 1 rfl) ?_
    refine lv_iload_n hx hb dX1_isRefused_7 rfl (lv_at hl9 2 rfl) ?_
    refine hp_V (ci := 1) (As := [.int o, .int x]) (rest := []) B0 hw hS (c_X1_allows hl G f en nw na nq nr mg st tm sr li lp mi ga k_en k_na  o x hop) mV_X1_allows qM_X1_128 rfl k_en rfl rfl hl9.1 (Nat.le_of_ble_eq_true rfl) ⟨⟨Nat.le_of_ble_eq_true rfl, Nat.le_of_ble_eq_true rfl⟩, Nat.le_of_ble_eq_true rfl, Nat.le_of_ble_eq_true rfl⟩ dX1_isRefused_8 (fun E ce q9 f2 H locs hPX hw hS hce hcv hcl => ?_) (fun v f2 H locs hP hw hS => ?_)
    · exact hPX.elim
    · obtain ⟨ef9, hv9⟩ := hP
      rw [ef9] at hw
      rcases hv9 with ev9 | ev9
      · subst ev9
        refine W.eq (g2 := F0 m 11 ls [.int 0]) rfl ?_
        refine lv_if_ne (tgt := 18) hx hb dX1_isRefused_11 (by decide) (fun c9 => absurd (by decide) c9) (fun _ => ?_)
        refine lv_iconst (v := 1) hx hb dX1_isRefused_14 (by decide) ?_
        refine lv_goto (tgt := 19) hx hb dX1_isRefused_15 (by decide) ?_
        exact hp_zret (v := 1) B0 hw hS hr ⟨Nat.le_of_ble_eq_true rfl, Nat.le_of_ble_eq_true rfl⟩ (rfl) dX1_isRefused_19 (⟨rfl, Or.inr rfl⟩)
      · subst ev9
        refine W.eq (g2 := F0 m 11 ls [.int 1]) rfl ?_
        refine lv_if_ne (tgt := 18) hx hb dX1_isRefused_11 (by decide) (fun _ => ?_) (fun c9 => absurd c9 (by decide))
        refine lv_iconst (v := 0) hx hb dX1_isRefused_18 (by decide) ?_
        exact hp_zret (v := 0) B0 hw hS hr ⟨Nat.le_of_ble_eq_true rfl, Nat.le_of_ble_eq_true rfl⟩ (rfl) dX1_isRefused_19 (⟨rfl, Or.inl rfl⟩)

set_option maxHeartbeats 4000000 in
set_option maxRecDepth 100000 in
theorem c_X1_lowestAllowed {l : Launch} (hl : l.stackTraces = false) (G : hG) (f : hM) (en nw na nq nr : Nat) (mg st tm sr li lp mi : Int32) (ga : Nat → Int32) (k_en : f en = some (.inr (1, [.ref nw, .ref na, .ref nq, .ref nr, .int mg, .int st, .int tm, .int sr, .int li, .int lp, .int mi]))) (k_na : f na = some (.inl (cI G, 6, .inl ga))) (o : Int32) (hop : vp_in o 6) : CT l yX1_lowestAllowed (.code yX1_lowestAllowed cX1_lowestAllowed 3 (some .int)) 1 22 0 0 G [.ref en, .int o] f (fun v f1 => f1 = f ∧ ∃ r : Int32, v = some (.int r)) (fun E f1 => False) := by
  refine hp_start hl (own := RX1) (by decide) rfl (Nat.le_of_ble_eq_true rfl) ?_
  intro p e s m args below meth c B0 hr hnm hout hw hS ls hl9
  have hx := B0.1
  have hb := B0.2.1
  have hl9 : lv_has ls 3 [(0, .ref en), (1, .int o)] := hl9
  refine lv_iconst (v := 0) hx hb dX1_lowestAllowed_0 (by decide) ?_
  refine lv_istore_n (lv' := [(2, .int 0), (0, .ref en), (1, .int o)]) hx hb dX1_lowestAllowed_1 rfl hl9 (by decide) rfl (fun ls hl9 => ?_)
  refine hp_for (nL := 3) (pc := 2) (fun j f9 lv9 => f9 = f ∧  lv9 = [(2, .int (nI j)), (0, .ref en), (1, .int o)]) 10 (fun j f9 lv9 H locs ls hj hI hw hS hl9 ih => ?_) (fun f9 lv9 H locs ls hI hw hS hl9 => ?_) 10 0 (by decide) f _ _ _ ls ⟨rfl, rfl⟩ hw hS (lv_sub hl9 [0, 1, 2] rfl)
  · obtain ⟨ef9, el9⟩ := hI
    rw [ef9] at hw
    rw [el9] at hl9
    refine lv_iload_n hx hb dX1_lowestAllowed_2 rfl (lv_at hl9 0 rfl) ?_
    refine lv_bipush (v := 9) hx hb dX1_lowestAllowed_3 (by decide) ?_
    refine lv_icmp_gt (tgt := 25) hx hb dX1_lowestAllowed_5 (by decide) (fun c9 => absurd c9 (by rw [show (9 : Int32) = nI 9 from rfl]; exact nI_nlt (by omega) (by omega))) (fun _ => ?_)
    refine lv_aload_n hx hb dX1_lowestAllowed_8 rfl (lv_at hl9 1 rfl) ?_
    refine lv_iload_n hx hb dX1_lowestAllowed_9 rfl (lv_at hl9 2 rfl) ?_
    refine lv_iload_n hx hb dX1_lowestAllowed_10 rfl (lv_at hl9 0 rfl) ?_
    refine hp_V (ci := 1) (As := [.int o, .int (nI j)]) (rest := []) B0 hw hS (c_X1_allows hl G f en nw na nq nr mg st tm sr li lp mi ga k_en k_na  o (nI j) hop) mV_X1_allows qM_X1_128 rfl k_en rfl rfl hl9.1 (Nat.le_of_ble_eq_true rfl) ⟨⟨Nat.le_of_ble_eq_true rfl, Nat.le_of_ble_eq_true rfl⟩, Nat.le_of_ble_eq_true rfl, Nat.le_of_ble_eq_true rfl⟩ dX1_lowestAllowed_11 (fun E ce q9 f1 H locs hPX hw hS hce hcv hcl => ?_) (fun v f1 H locs hP hw hS => ?_)
    · exact hPX.elim
    · obtain ⟨ef9, hv9⟩ := hP
      rw [ef9] at hw
      rcases hv9 with ev9 | ev9
      · subst ev9
        refine W.eq (g2 := F0 m 14 ls [.int 0]) rfl ?_
        refine lv_if_eq (tgt := 19) hx hb dX1_lowestAllowed_14 (by decide) (fun _ => ?_) (fun c9 => absurd (by decide) c9)
        refine lv_iinc (v := (nI (j + 1))) (lv' := [(2, .int (nI (j + 1))), (0, .ref en), (1, .int o)]) hx hb dX1_lowestAllowed_19 hl9 (k := 0) rfl (nI_1 j) (by decide) rfl (fun ls hl9 => ?_)
        refine lv_goto (tgt := 2) hx hb dX1_lowestAllowed_22 (by decide) ?_
        exact ih _ _ H locs ls ⟨rfl, rfl⟩ hw hS (lv_sub hl9 [0, 1, 2] rfl)
      · subst ev9
        refine W.eq (g2 := F0 m 14 ls [.int 1]) rfl ?_
        refine lv_if_eq (tgt := 19) hx hb dX1_lowestAllowed_14 (by decide) (fun c9 => absurd c9 (by decide)) (fun _ => ?_)
        refine lv_iload_n hx hb dX1_lowestAllowed_17 rfl (lv_at hl9 0 rfl) ?_
        exact hp_iret (v := (nI j)) B0 hw hS hr ⟨Nat.le_of_ble_eq_true rfl, Nat.le_of_ble_eq_true rfl⟩ dX1_lowestAllowed_18 (⟨rfl, _, rfl⟩)
  · obtain ⟨ef9, el9⟩ := hI
    rw [ef9] at hw
    rw [el9] at hl9
    refine lv_iload_n hx hb dX1_lowestAllowed_2 rfl (lv_at hl9 0 rfl) ?_
    refine lv_bipush (v := 9) hx hb dX1_lowestAllowed_3 (by decide) ?_
    refine lv_icmp_gt (tgt := 25) hx hb dX1_lowestAllowed_5 (by decide) (fun _ => ?_) (fun c9 => absurd (by decide) c9)
    refine lv_iconst (v := (-1)) hx hb dX1_lowestAllowed_25 (by decide) ?_
    exact hp_iret (v := (-1)) B0 hw hS hr ⟨Nat.le_of_ble_eq_true rfl, Nat.le_of_ble_eq_true rfl⟩ dX1_lowestAllowed_26 (⟨rfl, _, rfl⟩)

set_option maxHeartbeats 4000000 in
set_option maxRecDepth 100000 in
theorem c_X1_kindOfAnswer {l : Launch} (hl : l.stackTraces = false) (G : hG) (f : hM) (en nw na nq nr : Nat) (mg st tm sr li lp mi : Int32) (ga : Nat → Int32) (k_en : f en = some (.inr (1, [.ref nw, .ref na, .ref nq, .ref nr, .int mg, .int st, .int tm, .int sr, .int li, .int lp, .int mi]))) (k_na : f na = some (.inl (cI G, 6, .inl ga))) (nv : Nat) (gv : Nat → Int32) (k_nv : f nv = some (.inl (cI G, 6, .inl gv))) : CT l yX1_kindOfAnswer (.code yX1_kindOfAnswer cX1_kindOfAnswer 4 (some .int)) 2 44 0 0 G [.ref en, .ref nv] f (fun v f1 => f1 = f ∧ ∃ r : Int32, v = some (.int r)) (fun E f1 => False) := by
  refine hp_start hl (own := RX1) (by decide) rfl (Nat.le_of_ble_eq_true rfl) ?_
  intro p e s m args below meth c B0 hr hnm hout hw hS ls hl9
  have hx := B0.1
  have hb := B0.2.1
  have hl9 : lv_has ls 4 [(0, .ref en), (1, .ref nv)] := hl9
  refine lv_iconst (v := 1) hx hb dX1_kindOfAnswer_0 (by decide) ?_
  refine lv_istore_n (lv' := [(2, .int 1), (0, .ref en), (1, .ref nv)]) hx hb dX1_kindOfAnswer_1 rfl hl9 (by decide) rfl (fun ls hl9 => ?_)
  refine lv_iconst (v := 0) hx hb dX1_kindOfAnswer_2 (by decide) ?_
  refine lv_istore_n (lv' := [(3, .int 0), (2, .int 1), (0, .ref en), (1, .ref nv)]) hx hb dX1_kindOfAnswer_3 rfl hl9 (by decide) rfl (fun ls hl9 => ?_)
  refine hp_for (nL := 4) (pc := 4) (fun j f9 lv9 => f9 = f ∧ ∃ k9 : Int32, lv9 = [(3, .int (nI j)), (2, .int k9), (0, .ref en), (1, .ref nv)]) 6 (fun j f9 lv9 H locs ls hj hI hw hS hl9 ih => ?_) (fun f9 lv9 H locs ls hI hw hS hl9 => ?_) 6 0 (by decide) f _ _ _ ls ⟨rfl, _, rfl⟩ hw hS (lv_sub hl9 [0, 1, 2, 3] rfl)
  · obtain ⟨ef9, k9, el9⟩ := hI
    rw [ef9] at hw
    rw [el9] at hl9
    refine lv_iload_n hx hb dX1_kindOfAnswer_4 rfl (lv_at hl9 0 rfl) ?_
    refine lv_bipush (v := 6) hx hb dX1_kindOfAnswer_5 (by decide) ?_
    refine lv_icmp_ge (tgt := 42) hx hb dX1_kindOfAnswer_7 (by decide) (fun c9 => absurd c9 (by rw [show (6 : Int32) = nI 6 from rfl]; exact nI_ge hj (by omega))) (fun _ => ?_)
    refine lv_aload_n hx hb dX1_kindOfAnswer_10 rfl (lv_at hl9 2 rfl) ?_
    refine lv_iload_n hx hb dX1_kindOfAnswer_11 rfl (lv_at hl9 0 rfl) ?_
    refine lv_aload_n hx hb dX1_kindOfAnswer_12 rfl (lv_at hl9 3 rfl) ?_
    refine lv_iload_n hx hb dX1_kindOfAnswer_13 rfl (lv_at hl9 0 rfl) ?_
    refine hp_iald B0 hw k_nv (vin6j hj) dX1_kindOfAnswer_14 ?_
    refine hp_V (ci := 1) (As := [.int (nI j), .int (gv ((nI j) : Int32).toNatClampNeg)]) (rest := []) B0 hw hS (c_X1_isUnknown hl G f en nw na nq nr mg st tm sr li lp mi ga k_en k_na  (nI j) (gv ((nI j) : Int32).toNatClampNeg) (vin6j hj)) mV_X1_isUnknown qM_X1_117 rfl k_en rfl rfl hl9.1 (Nat.le_of_ble_eq_true rfl) ⟨⟨Nat.le_of_ble_eq_true rfl, Nat.le_of_ble_eq_true rfl⟩, Nat.le_of_ble_eq_true rfl, Nat.le_of_ble_eq_true rfl⟩ dX1_kindOfAnswer_15 (fun E ce q9 f1 H locs hPX hw hS hce hcv hcl => ?_) (fun v f1 H locs hP hw hS => ?_)
    · exact hPX.elim
    · obtain ⟨ef9, hv9⟩ := hP
      rw [ef9] at hw
      rcases hv9 with ev9 | ev9
      · subst ev9
        refine W.eq (g2 := F0 m 18 ls [.int 0]) rfl ?_
        refine lv_if_eq (tgt := 23) hx hb dX1_kindOfAnswer_18 (by decide) (fun _ => ?_) (fun c9 => absurd (by decide) c9)
        refine lv_aload_n hx hb dX1_kindOfAnswer_23 rfl (lv_at hl9 2 rfl) ?_
        refine lv_iload_n hx hb dX1_kindOfAnswer_24 rfl (lv_at hl9 0 rfl) ?_
        refine lv_aload_n hx hb dX1_kindOfAnswer_25 rfl (lv_at hl9 3 rfl) ?_
        refine lv_iload_n hx hb dX1_kindOfAnswer_26 rfl (lv_at hl9 0 rfl) ?_
        refine hp_iald B0 hw k_nv (vin6j hj) dX1_kindOfAnswer_27 ?_
        refine hp_V (ci := 1) (As := [.int (nI j), .int (gv ((nI j) : Int32).toNatClampNeg)]) (rest := []) B0 hw hS (c_X1_isRefused hl G f en nw na nq nr mg st tm sr li lp mi ga k_en k_na  (nI j) (gv ((nI j) : Int32).toNatClampNeg) (vin6j hj)) mV_X1_isRefused qM_X1_121 rfl k_en rfl rfl hl9.1 (Nat.le_of_ble_eq_true rfl) ⟨⟨Nat.le_of_ble_eq_true rfl, Nat.le_of_ble_eq_true rfl⟩, Nat.le_of_ble_eq_true rfl, Nat.le_of_ble_eq_true rfl⟩ dX1_kindOfAnswer_28 (fun E ce q9 f2 H locs hPX hw hS hce hcv hcl => ?_) (fun v f2 H locs hP hw hS => ?_)
        · exact hPX.elim
        · obtain ⟨ef9, hv9⟩ := hP
          rw [ef9] at hw
          rcases hv9 with ev9 | ev9
          · subst ev9
            refine W.eq (g2 := F0 m 31 ls [.int 0]) rfl ?_
            refine lv_if_eq (tgt := 36) hx hb dX1_kindOfAnswer_31 (by decide) (fun _ => ?_) (fun c9 => absurd (by decide) c9)
            refine lv_iinc (v := (nI (j + 1))) (lv' := [(3, .int (nI (j + 1))), (2, .int k9), (0, .ref en), (1, .ref nv)]) hx hb dX1_kindOfAnswer_36 hl9 (k := 0) rfl (nI_1 j) (by decide) rfl (fun ls hl9 => ?_)
            refine lv_goto (tgt := 4) hx hb dX1_kindOfAnswer_39 (by decide) ?_
            exact ih _ _ H locs ls ⟨rfl, _, rfl⟩ hw hS (lv_sub hl9 [0, 1, 2, 3] rfl)
          · subst ev9
            refine W.eq (g2 := F0 m 31 ls [.int 1]) rfl ?_
            refine lv_if_eq (tgt := 36) hx hb dX1_kindOfAnswer_31 (by decide) (fun c9 => absurd c9 (by decide)) (fun _ => ?_)
            refine lv_iconst (v := 2) hx hb dX1_kindOfAnswer_34 (by decide) ?_
            refine lv_istore_n (lv' := [(2, .int 2), (3, .int (nI j)), (0, .ref en), (1, .ref nv)]) hx hb dX1_kindOfAnswer_35 rfl hl9 (by decide) rfl (fun ls hl9 => ?_)
            refine lv_iinc (v := (nI (j + 1))) (lv' := [(3, .int (nI (j + 1))), (2, .int 2), (0, .ref en), (1, .ref nv)]) hx hb dX1_kindOfAnswer_36 hl9 (k := 1) rfl (nI_1 j) (by decide) rfl (fun ls hl9 => ?_)
            refine lv_goto (tgt := 4) hx hb dX1_kindOfAnswer_39 (by decide) ?_
            exact ih _ _ H locs ls ⟨rfl, _, rfl⟩ hw hS (lv_sub hl9 [0, 1, 2, 3] rfl)
      · subst ev9
        refine W.eq (g2 := F0 m 18 ls [.int 1]) rfl ?_
        refine lv_if_eq (tgt := 23) hx hb dX1_kindOfAnswer_18 (by decide) (fun c9 => absurd c9 (by decide)) (fun _ => ?_)
        refine lv_iconst (v := 3) hx hb dX1_kindOfAnswer_21 (by decide) ?_
        exact hp_iret (v := 3) B0 hw hS hr ⟨Nat.le_of_ble_eq_true rfl, Nat.le_of_ble_eq_true rfl⟩ dX1_kindOfAnswer_22 (⟨rfl, _, rfl⟩)
  · obtain ⟨ef9, k9, el9⟩ := hI
    rw [ef9] at hw
    rw [el9] at hl9
    refine lv_iload_n hx hb dX1_kindOfAnswer_4 rfl (lv_at hl9 0 rfl) ?_
    refine lv_bipush (v := 6) hx hb dX1_kindOfAnswer_5 (by decide) ?_
    refine lv_icmp_ge (tgt := 42) hx hb dX1_kindOfAnswer_7 (by decide) (fun _ => ?_) (fun c9 => absurd (by decide) c9)
    refine lv_iload_n hx hb dX1_kindOfAnswer_42 rfl (lv_at hl9 1 rfl) ?_
    exact hp_iret (v := k9) B0 hw hS hr ⟨Nat.le_of_ble_eq_true rfl, Nat.le_of_ble_eq_true rfl⟩ dX1_kindOfAnswer_43 (⟨rfl, _, rfl⟩)

set_option maxHeartbeats 4000000 in
set_option maxRecDepth 100000 in
theorem c_X1_told {l : Launch} (hl : l.stackTraces = false) (G : hG) (f : hM) (en nw na nq nr : Nat) (mg st tm sr li lp mi : Int32) (ga : Nat → Int32) (k_en : f en = some (.inr (1, [.ref nw, .ref na, .ref nq, .ref nr, .int mg, .int st, .int tm, .int sr, .int li, .int lp, .int mi]))) (k_na : f na = some (.inl (cI G, 6, .inl ga))) (nv : Nat) (gv : Nat → Int32) (k_nv : f nv = some (.inl (cI G, 6, .inl gv))) (k : Int32) : CT l yX1_toldOptions (.code yX1_toldOptions cX1_toldOptions 5 (some (.array .int))) 2 44 1 6 G [.ref en, .int k, .ref nv] f (fun v f1 => ∃ (q : Nat) (gz : Nat → Int32), v = some (.ref q) ∧ f q = none ∧ f1 = va_up f q (some (.inl (cI G, 6, .inl gz)))) (fun E f1 => False) := by
  refine hp_start hl (own := RX1) (by decide) rfl (Nat.le_of_ble_eq_true rfl) ?_
  intro p e s m args below meth c B0 hr hnm hout hw hS ls hl9
  have hx := B0.1
  have hb := B0.2.1
  have hl9 : lv_has ls 5 [(0, .ref en), (1, .int k), (2, .ref nv)] := hl9
  refine hp_S (As := []) (rest := []) B0 hw hS (c_X1_tell hl G f ) mS_X1_tellNothing qM_X1_105 rfl rfl hl9.1 (Nat.le_of_ble_eq_true rfl) ⟨⟨Nat.le_of_ble_eq_true rfl, Nat.le_of_ble_eq_true rfl⟩, Nat.le_of_ble_eq_true rfl, Nat.le_of_ble_eq_true rfl⟩ dX1_toldOptions_0 (fun E ce q9 f1 H locs hPX hw hS hce hcv hcl => ?_) (fun v f1 H locs hP hw hS => ?_)
  · exact hPX.elim
  · obtain ⟨q2, g5, ev9, w3, e4⟩ := hP
    subst ev9
    have h6 : f1 q2 = some (.inl (cI G, 6, .inl g5)) := by rw [e4, va_up_self]
    refine W.eq (g2 := F0 m 3 ls [.ref q2]) rfl ?_
    refine lv_astore_n (lv' := [(3, .ref q2), (0, .ref en), (1, .int k), (2, .ref nv)]) hx hb dX1_toldOptions_3 rfl hl9 (by decide) rfl (fun ls hl9 => ?_)
    refine lv_iconst (v := 0) hx hb dX1_toldOptions_4 (by decide) ?_
    refine lv_istore (lv' := [(4, .int 0), (3, .ref q2), (0, .ref en), (1, .int k), (2, .ref nv)]) hx hb dX1_toldOptions_5 hl9 (by decide) rfl (fun ls hl9 => ?_)
    refine hp_for (nL := 5) (pc := 7) (fun j f9 lv9 => (∃ g9 : Nat → Int32, f9 = va_up f q2 (some (.inl (cI G, 6, .inl g9)))) ∧ lv9 = [(4, .int (nI j)), (3, .ref q2), (0, .ref en), (1, .int k), (2, .ref nv)]) 6 (fun j f9 lv9 H locs ls hj hI hw hS hl9 ih => ?_) (fun f9 lv9 H locs ls hI hw hS hl9 => ?_) 6 0 (by decide) f1 _ _ _ ls ⟨⟨_, e4⟩, rfl⟩ hw hS (lv_sub hl9 [0, 1, 2, 3, 4] rfl)
    · obtain ⟨⟨g9, efq⟩, el9⟩ := hI
      rw [el9] at hl9
      have h7 : f9 q2 = some (.inl (cI G, 6, .inl g9)) := by rw [efq, va_up_self]
      refine lv_iload hx hb dX1_toldOptions_7 (lv_at hl9 0 rfl) ?_
      refine lv_bipush (v := 6) hx hb dX1_toldOptions_9 (by decide) ?_
      refine lv_icmp_ge (tgt := 74) hx hb dX1_toldOptions_11 (by decide) (fun c9 => absurd c9 (by rw [show (6 : Int32) = nI 6 from rfl]; exact nI_ge hj (by omega))) (fun _ => ?_)
      refine lv_iload_n hx hb dX1_toldOptions_14 rfl (lv_at hl9 3 rfl) ?_
      refine lv_iconst (v := 3) hx hb dX1_toldOptions_15 (by decide) ?_
      refine lv_icmp_ne (tgt := 40) hx hb dX1_toldOptions_16 (by decide) (fun c8 => ?_) (fun c8 => ?_)
      · refine lv_iload_n hx hb dX1_toldOptions_40 rfl (lv_at hl9 3 rfl) ?_
        refine lv_iconst (v := 2) hx hb dX1_toldOptions_41 (by decide) ?_
        refine lv_icmp_ne (tgt := 68) hx hb dX1_toldOptions_42 (by decide) (fun c9 => ?_) (fun c9 => ?_)
        · refine lv_iinc (v := (nI (j + 1))) (lv' := [(4, .int (nI (j + 1))), (3, .ref q2), (0, .ref en), (1, .int k), (2, .ref nv)]) hx hb dX1_toldOptions_68 hl9 (k := 0) rfl (nI_1 j) (by decide) rfl (fun ls hl9 => ?_)
          refine lv_goto (tgt := 7) hx hb dX1_toldOptions_71 (by decide) ?_
          exact ih _ _ H locs ls ⟨⟨_, efq⟩, rfl⟩ hw hS (lv_sub hl9 [0, 1, 2, 3, 4] rfl)
        · refine lv_aload_n hx hb dX1_toldOptions_45 rfl (lv_at hl9 2 rfl) ?_
          refine lv_iload hx hb dX1_toldOptions_46 (lv_at hl9 0 rfl) ?_
          refine lv_aload_n hx hb dX1_toldOptions_48 rfl (lv_at hl9 4 rfl) ?_
          refine lv_iload hx hb dX1_toldOptions_49 (lv_at hl9 0 rfl) ?_
          have h10 : f9 nv = some (.inl (cI G, 6, .inl gv)) := by rw [efq, va_up_ne _ _ (hnew k_nv w3)]; exact k_nv
          refine hp_iald B0 hw h10 (vin6j hj) dX1_toldOptions_51 ?_
          have h11 : f9 en = some (.inr (1, [.ref nw, .ref na, .ref nq, .ref nr, .int mg, .int st, .int tm, .int sr, .int li, .int lp, .int mi])) := by rw [efq, va_up_ne _ _ (hnew k_en w3)]; exact k_en
          have h12 : f9 na = some (.inl (cI G, 6, .inl ga)) := by rw [efq, va_up_ne _ _ (hnew k_na w3)]; exact k_na
          refine hp_V (ci := 1) (As := [.int (nI j), .int (gv ((nI j) : Int32).toNatClampNeg)]) (rest := []) B0 hw hS (c_X1_isRefused hl G f9 en nw na nq nr mg st tm sr li lp mi ga h11 h12  (nI j) (gv ((nI j) : Int32).toNatClampNeg) (vin6j hj)) mV_X1_isRefused qM_X1_121 rfl h11 rfl rfl hl9.1 (Nat.le_of_ble_eq_true rfl) ⟨⟨Nat.le_of_ble_eq_true rfl, Nat.le_of_ble_eq_true rfl⟩, Nat.le_of_ble_eq_true rfl, Nat.le_of_ble_eq_true rfl⟩ dX1_toldOptions_52 (fun E ce q9 f13 H locs hPX hw hS hce hcv hcl => ?_) (fun v f13 H locs hP hw hS => ?_)
          · exact hPX.elim
          · obtain ⟨ef9, hv9⟩ := hP
            rw [ef9] at hw
            rcases hv9 with ev9 | ev9
            · subst ev9
              refine W.eq (g2 := F0 m 55 ls [.int 0]) rfl ?_
              refine lv_if_eq (tgt := 68) hx hb dX1_toldOptions_55 (by decide) (fun _ => ?_) (fun c9 => absurd (by decide) c9)
              refine lv_iinc (v := (nI (j + 1))) (lv' := [(4, .int (nI (j + 1))), (3, .ref q2), (0, .ref en), (1, .int k), (2, .ref nv)]) hx hb dX1_toldOptions_68 hl9 (k := 0) rfl (nI_1 j) (by decide) rfl (fun ls hl9 => ?_)
              refine lv_goto (tgt := 7) hx hb dX1_toldOptions_71 (by decide) ?_
              exact ih _ _ H locs ls ⟨⟨_, efq⟩, rfl⟩ hw hS (lv_sub hl9 [0, 1, 2, 3, 4] rfl)
            · subst ev9
              refine W.eq (g2 := F0 m 55 ls [.int 1]) rfl ?_
              refine lv_if_eq (tgt := 68) hx hb dX1_toldOptions_55 (by decide) (fun c9 => absurd c9 (by decide)) (fun _ => ?_)
              refine lv_aload_n hx hb dX1_toldOptions_58 rfl (lv_at hl9 1 rfl) ?_
              refine lv_iload hx hb dX1_toldOptions_59 (lv_at hl9 0 rfl) ?_
              refine lv_aload_n hx hb dX1_toldOptions_61 rfl (lv_at hl9 2 rfl) ?_
              refine lv_iload hx hb dX1_toldOptions_62 (lv_at hl9 0 rfl) ?_
              refine hp_V (ci := 1) (As := [.int (nI j)]) (rest := [.int (nI j), .ref q2]) B0 hw hS (c_X1_lowestAllowed hl G f9 en nw na nq nr mg st tm sr li lp mi ga h11 h12  (nI j) (vin6j hj)) mV_X1_lowestAllowed qM_X1_124 rfl h11 rfl rfl hl9.1 (Nat.le_of_ble_eq_true rfl) ⟨⟨Nat.le_of_ble_eq_true rfl, Nat.le_of_ble_eq_true rfl⟩, Nat.le_of_ble_eq_true rfl, Nat.le_of_ble_eq_true rfl⟩ dX1_toldOptions_64 (fun E ce q9 f14 H locs hPX hw hS hce hcv hcl => ?_) (fun v f14 H locs hP hw hS => ?_)
              · exact hPX.elim
              · obtain ⟨ef9, r15, ev9⟩ := hP
                rw [ef9] at hw
                subst ev9
                refine W.eq (g2 := F0 m 67 ls [.int r15, .int (nI j), .ref q2]) rfl ?_
                refine hp_iast B0 hw hS h7 (vin6j hj) dX1_toldOptions_67 (fun H locs f16 ef16 hw hS => ?_)
                have e17 : f16 = va_up f q2 (some (.inl (cI G, 6, .inl (upd g9 ((nI j) : Int32).toNatClampNeg r15)))) := by rw [ef16, efq, bx_uu]
                have h18 : f16 q2 = some (.inl (cI G, 6, .inl (upd g9 ((nI j) : Int32).toNatClampNeg r15))) := by rw [ef16, va_up_self]
                refine lv_iinc (v := (nI (j + 1))) (lv' := [(4, .int (nI (j + 1))), (3, .ref q2), (0, .ref en), (1, .int k), (2, .ref nv)]) hx hb dX1_toldOptions_68 hl9 (k := 0) rfl (nI_1 j) (by decide) rfl (fun ls hl9 => ?_)
                refine lv_goto (tgt := 7) hx hb dX1_toldOptions_71 (by decide) ?_
                exact ih _ _ H locs ls ⟨⟨_, e17⟩, rfl⟩ hw hS (lv_sub hl9 [0, 1, 2, 3, 4] rfl)
      · refine lv_aload_n hx hb dX1_toldOptions_19 rfl (lv_at hl9 2 rfl) ?_
        refine lv_iload hx hb dX1_toldOptions_20 (lv_at hl9 0 rfl) ?_
        refine lv_aload_n hx hb dX1_toldOptions_22 rfl (lv_at hl9 4 rfl) ?_
        refine lv_iload hx hb dX1_toldOptions_23 (lv_at hl9 0 rfl) ?_
        have h19 : f9 nv = some (.inl (cI G, 6, .inl gv)) := by rw [efq, va_up_ne _ _ (hnew k_nv w3)]; exact k_nv
        refine hp_iald B0 hw h19 (vin6j hj) dX1_toldOptions_25 ?_
        have h20 : f9 en = some (.inr (1, [.ref nw, .ref na, .ref nq, .ref nr, .int mg, .int st, .int tm, .int sr, .int li, .int lp, .int mi])) := by rw [efq, va_up_ne _ _ (hnew k_en w3)]; exact k_en
        have h21 : f9 na = some (.inl (cI G, 6, .inl ga)) := by rw [efq, va_up_ne _ _ (hnew k_na w3)]; exact k_na
        refine hp_V (ci := 1) (As := [.int (nI j), .int (gv ((nI j) : Int32).toNatClampNeg)]) (rest := []) B0 hw hS (c_X1_isUnknown hl G f9 en nw na nq nr mg st tm sr li lp mi ga h20 h21  (nI j) (gv ((nI j) : Int32).toNatClampNeg) (vin6j hj)) mV_X1_isUnknown qM_X1_117 rfl h20 rfl rfl hl9.1 (Nat.le_of_ble_eq_true rfl) ⟨⟨Nat.le_of_ble_eq_true rfl, Nat.le_of_ble_eq_true rfl⟩, Nat.le_of_ble_eq_true rfl, Nat.le_of_ble_eq_true rfl⟩ dX1_toldOptions_26 (fun E ce q9 f22 H locs hPX hw hS hce hcv hcl => ?_) (fun v f22 H locs hP hw hS => ?_)
        · exact hPX.elim
        · obtain ⟨ef9, hv9⟩ := hP
          rw [ef9] at hw
          rcases hv9 with ev9 | ev9
          · subst ev9
            refine W.eq (g2 := F0 m 29 ls [.int 0]) rfl ?_
            refine lv_if_eq (tgt := 40) hx hb dX1_toldOptions_29 (by decide) (fun _ => ?_) (fun c9 => absurd (by decide) c9)
            refine lv_iload_n hx hb dX1_toldOptions_40 rfl (lv_at hl9 3 rfl) ?_
            refine lv_iconst (v := 2) hx hb dX1_toldOptions_41 (by decide) ?_
            refine lv_icmp_ne (tgt := 68) hx hb dX1_toldOptions_42 (by decide) (fun c23 => ?_) (fun c23 => ?_)
            · refine lv_iinc (v := (nI (j + 1))) (lv' := [(4, .int (nI (j + 1))), (3, .ref q2), (0, .ref en), (1, .int k), (2, .ref nv)]) hx hb dX1_toldOptions_68 hl9 (k := 0) rfl (nI_1 j) (by decide) rfl (fun ls hl9 => ?_)
              refine lv_goto (tgt := 7) hx hb dX1_toldOptions_71 (by decide) ?_
              exact ih _ _ H locs ls ⟨⟨_, efq⟩, rfl⟩ hw hS (lv_sub hl9 [0, 1, 2, 3, 4] rfl)
            · refine lv_aload_n hx hb dX1_toldOptions_45 rfl (lv_at hl9 2 rfl) ?_
              refine lv_iload hx hb dX1_toldOptions_46 (lv_at hl9 0 rfl) ?_
              refine lv_aload_n hx hb dX1_toldOptions_48 rfl (lv_at hl9 4 rfl) ?_
              refine lv_iload hx hb dX1_toldOptions_49 (lv_at hl9 0 rfl) ?_
              refine hp_iald B0 hw h19 (vin6j hj) dX1_toldOptions_51 ?_
              refine hp_V (ci := 1) (As := [.int (nI j), .int (gv ((nI j) : Int32).toNatClampNeg)]) (rest := []) B0 hw hS (c_X1_isRefused hl G f9 en nw na nq nr mg st tm sr li lp mi ga h20 h21  (nI j) (gv ((nI j) : Int32).toNatClampNeg) (vin6j hj)) mV_X1_isRefused qM_X1_121 rfl h20 rfl rfl hl9.1 (Nat.le_of_ble_eq_true rfl) ⟨⟨Nat.le_of_ble_eq_true rfl, Nat.le_of_ble_eq_true rfl⟩, Nat.le_of_ble_eq_true rfl, Nat.le_of_ble_eq_true rfl⟩ dX1_toldOptions_52 (fun E ce q9 f24 H locs hPX hw hS hce hcv hcl => ?_) (fun v f24 H locs hP hw hS => ?_)
              · exact hPX.elim
              · obtain ⟨ef9, hv9⟩ := hP
                rw [ef9] at hw
                rcases hv9 with ev9 | ev9
                · subst ev9
                  refine W.eq (g2 := F0 m 55 ls [.int 0]) rfl ?_
                  refine lv_if_eq (tgt := 68) hx hb dX1_toldOptions_55 (by decide) (fun _ => ?_) (fun c9 => absurd (by decide) c9)
                  refine lv_iinc (v := (nI (j + 1))) (lv' := [(4, .int (nI (j + 1))), (3, .ref q2), (0, .ref en), (1, .int k), (2, .ref nv)]) hx hb dX1_toldOptions_68 hl9 (k := 0) rfl (nI_1 j) (by decide) rfl (fun ls hl9 => ?_)
                  refine lv_goto (tgt := 7) hx hb dX1_toldOptions_71 (by decide) ?_
                  exact ih _ _ H locs ls ⟨⟨_, efq⟩, rfl⟩ hw hS (lv_sub hl9 [0, 1, 2, 3, 4] rfl)
                · subst ev9
                  refine W.eq (g2 := F0 m 55 ls [.int 1]) rfl ?_
                  refine lv_if_eq (tgt := 68) hx hb dX1_toldOptions_55 (by decide) (fun c9 => absurd c9 (by decide)) (fun _ => ?_)
                  refine lv_aload_n hx hb dX1_toldOptions_58 rfl (lv_at hl9 1 rfl) ?_
                  refine lv_iload hx hb dX1_toldOptions_59 (lv_at hl9 0 rfl) ?_
                  refine lv_aload_n hx hb dX1_toldOptions_61 rfl (lv_at hl9 2 rfl) ?_
                  refine lv_iload hx hb dX1_toldOptions_62 (lv_at hl9 0 rfl) ?_
                  refine hp_V (ci := 1) (As := [.int (nI j)]) (rest := [.int (nI j), .ref q2]) B0 hw hS (c_X1_lowestAllowed hl G f9 en nw na nq nr mg st tm sr li lp mi ga h20 h21  (nI j) (vin6j hj)) mV_X1_lowestAllowed qM_X1_124 rfl h20 rfl rfl hl9.1 (Nat.le_of_ble_eq_true rfl) ⟨⟨Nat.le_of_ble_eq_true rfl, Nat.le_of_ble_eq_true rfl⟩, Nat.le_of_ble_eq_true rfl, Nat.le_of_ble_eq_true rfl⟩ dX1_toldOptions_64 (fun E ce q9 f25 H locs hPX hw hS hce hcv hcl => ?_) (fun v f25 H locs hP hw hS => ?_)
                  · exact hPX.elim
                  · obtain ⟨ef9, r26, ev9⟩ := hP
                    rw [ef9] at hw
                    subst ev9
                    refine W.eq (g2 := F0 m 67 ls [.int r26, .int (nI j), .ref q2]) rfl ?_
                    refine hp_iast B0 hw hS h7 (vin6j hj) dX1_toldOptions_67 (fun H locs f27 ef27 hw hS => ?_)
                    have e28 : f27 = va_up f q2 (some (.inl (cI G, 6, .inl (upd g9 ((nI j) : Int32).toNatClampNeg r26)))) := by rw [ef27, efq, bx_uu]
                    have h29 : f27 q2 = some (.inl (cI G, 6, .inl (upd g9 ((nI j) : Int32).toNatClampNeg r26))) := by rw [ef27, va_up_self]
                    refine lv_iinc (v := (nI (j + 1))) (lv' := [(4, .int (nI (j + 1))), (3, .ref q2), (0, .ref en), (1, .int k), (2, .ref nv)]) hx hb dX1_toldOptions_68 hl9 (k := 0) rfl (nI_1 j) (by decide) rfl (fun ls hl9 => ?_)
                    refine lv_goto (tgt := 7) hx hb dX1_toldOptions_71 (by decide) ?_
                    exact ih _ _ H locs ls ⟨⟨_, e28⟩, rfl⟩ hw hS (lv_sub hl9 [0, 1, 2, 3, 4] rfl)
          · subst ev9
            refine W.eq (g2 := F0 m 29 ls [.int 1]) rfl ?_
            refine lv_if_eq (tgt := 40) hx hb dX1_toldOptions_29 (by decide) (fun c9 => absurd c9 (by decide)) (fun _ => ?_)
            refine lv_aload_n hx hb dX1_toldOptions_32 rfl (lv_at hl9 1 rfl) ?_
            refine lv_iload hx hb dX1_toldOptions_33 (lv_at hl9 0 rfl) ?_
            refine lv_aload_n hx hb dX1_toldOptions_35 rfl (lv_at hl9 4 rfl) ?_
            refine lv_iload hx hb dX1_toldOptions_36 (lv_at hl9 0 rfl) ?_
            refine hp_iald B0 hw h19 (vin6j hj) dX1_toldOptions_38 ?_
            refine hp_iast B0 hw hS h7 (vin6j hj) dX1_toldOptions_39 (fun H locs f30 ef30 hw hS => ?_)
            have e31 : f30 = va_up f q2 (some (.inl (cI G, 6, .inl (upd g9 ((nI j) : Int32).toNatClampNeg (gv ((nI j) : Int32).toNatClampNeg))))) := by rw [ef30, efq, bx_uu]
            have h32 : f30 q2 = some (.inl (cI G, 6, .inl (upd g9 ((nI j) : Int32).toNatClampNeg (gv ((nI j) : Int32).toNatClampNeg)))) := by rw [ef30, va_up_self]
            refine lv_iload_n hx hb dX1_toldOptions_40 rfl (lv_at hl9 3 rfl) ?_
            refine lv_iconst (v := 2) hx hb dX1_toldOptions_41 (by decide) ?_
            refine lv_icmp_ne (tgt := 68) hx hb dX1_toldOptions_42 (by decide) (fun c33 => ?_) (fun c33 => ?_)
            · refine lv_iinc (v := (nI (j + 1))) (lv' := [(4, .int (nI (j + 1))), (3, .ref q2), (0, .ref en), (1, .int k), (2, .ref nv)]) hx hb dX1_toldOptions_68 hl9 (k := 0) rfl (nI_1 j) (by decide) rfl (fun ls hl9 => ?_)
              refine lv_goto (tgt := 7) hx hb dX1_toldOptions_71 (by decide) ?_
              exact ih _ _ H locs ls ⟨⟨_, e31⟩, rfl⟩ hw hS (lv_sub hl9 [0, 1, 2, 3, 4] rfl)
            · refine lv_aload_n hx hb dX1_toldOptions_45 rfl (lv_at hl9 2 rfl) ?_
              refine lv_iload hx hb dX1_toldOptions_46 (lv_at hl9 0 rfl) ?_
              refine lv_aload_n hx hb dX1_toldOptions_48 rfl (lv_at hl9 4 rfl) ?_
              refine lv_iload hx hb dX1_toldOptions_49 (lv_at hl9 0 rfl) ?_
              have h34 : f30 nv = some (.inl (cI G, 6, .inl gv)) := by rw [e31, va_up_ne _ _ (hnew k_nv w3)]; exact k_nv
              refine hp_iald B0 hw h34 (vin6j hj) dX1_toldOptions_51 ?_
              have h35 : f30 en = some (.inr (1, [.ref nw, .ref na, .ref nq, .ref nr, .int mg, .int st, .int tm, .int sr, .int li, .int lp, .int mi])) := by rw [e31, va_up_ne _ _ (hnew k_en w3)]; exact k_en
              have h36 : f30 na = some (.inl (cI G, 6, .inl ga)) := by rw [e31, va_up_ne _ _ (hnew k_na w3)]; exact k_na
              refine hp_V (ci := 1) (As := [.int (nI j), .int (gv ((nI j) : Int32).toNatClampNeg)]) (rest := []) B0 hw hS (c_X1_isRefused hl G f30 en nw na nq nr mg st tm sr li lp mi ga h35 h36  (nI j) (gv ((nI j) : Int32).toNatClampNeg) (vin6j hj)) mV_X1_isRefused qM_X1_121 rfl h35 rfl rfl hl9.1 (Nat.le_of_ble_eq_true rfl) ⟨⟨Nat.le_of_ble_eq_true rfl, Nat.le_of_ble_eq_true rfl⟩, Nat.le_of_ble_eq_true rfl, Nat.le_of_ble_eq_true rfl⟩ dX1_toldOptions_52 (fun E ce q9 f37 H locs hPX hw hS hce hcv hcl => ?_) (fun v f37 H locs hP hw hS => ?_)
              · exact hPX.elim
              · obtain ⟨ef9, hv9⟩ := hP
                rw [ef9] at hw
                rcases hv9 with ev9 | ev9
                · subst ev9
                  refine W.eq (g2 := F0 m 55 ls [.int 0]) rfl ?_
                  refine lv_if_eq (tgt := 68) hx hb dX1_toldOptions_55 (by decide) (fun _ => ?_) (fun c9 => absurd (by decide) c9)
                  refine lv_iinc (v := (nI (j + 1))) (lv' := [(4, .int (nI (j + 1))), (3, .ref q2), (0, .ref en), (1, .int k), (2, .ref nv)]) hx hb dX1_toldOptions_68 hl9 (k := 0) rfl (nI_1 j) (by decide) rfl (fun ls hl9 => ?_)
                  refine lv_goto (tgt := 7) hx hb dX1_toldOptions_71 (by decide) ?_
                  exact ih _ _ H locs ls ⟨⟨_, e31⟩, rfl⟩ hw hS (lv_sub hl9 [0, 1, 2, 3, 4] rfl)
                · subst ev9
                  refine W.eq (g2 := F0 m 55 ls [.int 1]) rfl ?_
                  refine lv_if_eq (tgt := 68) hx hb dX1_toldOptions_55 (by decide) (fun c9 => absurd c9 (by decide)) (fun _ => ?_)
                  refine lv_aload_n hx hb dX1_toldOptions_58 rfl (lv_at hl9 1 rfl) ?_
                  refine lv_iload hx hb dX1_toldOptions_59 (lv_at hl9 0 rfl) ?_
                  refine lv_aload_n hx hb dX1_toldOptions_61 rfl (lv_at hl9 2 rfl) ?_
                  refine lv_iload hx hb dX1_toldOptions_62 (lv_at hl9 0 rfl) ?_
                  refine hp_V (ci := 1) (As := [.int (nI j)]) (rest := [.int (nI j), .ref q2]) B0 hw hS (c_X1_lowestAllowed hl G f30 en nw na nq nr mg st tm sr li lp mi ga h35 h36  (nI j) (vin6j hj)) mV_X1_lowestAllowed qM_X1_124 rfl h35 rfl rfl hl9.1 (Nat.le_of_ble_eq_true rfl) ⟨⟨Nat.le_of_ble_eq_true rfl, Nat.le_of_ble_eq_true rfl⟩, Nat.le_of_ble_eq_true rfl, Nat.le_of_ble_eq_true rfl⟩ dX1_toldOptions_64 (fun E ce q9 f38 H locs hPX hw hS hce hcv hcl => ?_) (fun v f38 H locs hP hw hS => ?_)
                  · exact hPX.elim
                  · obtain ⟨ef9, r39, ev9⟩ := hP
                    rw [ef9] at hw
                    subst ev9
                    refine W.eq (g2 := F0 m 67 ls [.int r39, .int (nI j), .ref q2]) rfl ?_
                    refine hp_iast B0 hw hS h32 (vin6j hj) dX1_toldOptions_67 (fun H locs f40 ef40 hw hS => ?_)
                    have e41 : f40 = va_up f q2 (some (.inl (cI G, 6, .inl (upd (upd g9 ((nI j) : Int32).toNatClampNeg (gv ((nI j) : Int32).toNatClampNeg)) ((nI j) : Int32).toNatClampNeg r39)))) := by rw [ef40, e31, bx_uu]
                    have h42 : f40 q2 = some (.inl (cI G, 6, .inl (upd (upd g9 ((nI j) : Int32).toNatClampNeg (gv ((nI j) : Int32).toNatClampNeg)) ((nI j) : Int32).toNatClampNeg r39))) := by rw [ef40, va_up_self]
                    refine lv_iinc (v := (nI (j + 1))) (lv' := [(4, .int (nI (j + 1))), (3, .ref q2), (0, .ref en), (1, .int k), (2, .ref nv)]) hx hb dX1_toldOptions_68 hl9 (k := 0) rfl (nI_1 j) (by decide) rfl (fun ls hl9 => ?_)
                    refine lv_goto (tgt := 7) hx hb dX1_toldOptions_71 (by decide) ?_
                    exact ih _ _ H locs ls ⟨⟨_, e41⟩, rfl⟩ hw hS (lv_sub hl9 [0, 1, 2, 3, 4] rfl)
    · obtain ⟨⟨g9, efq⟩, el9⟩ := hI
      rw [el9] at hl9
      have h43 : f9 q2 = some (.inl (cI G, 6, .inl g9)) := by rw [efq, va_up_self]
      refine lv_iload hx hb dX1_toldOptions_7 (lv_at hl9 0 rfl) ?_
      refine lv_bipush (v := 6) hx hb dX1_toldOptions_9 (by decide) ?_
      refine lv_icmp_ge (tgt := 74) hx hb dX1_toldOptions_11 (by decide) (fun _ => ?_) (fun c9 => absurd (by decide) c9)
      refine lv_aload_n hx hb dX1_toldOptions_74 rfl (lv_at hl9 1 rfl) ?_
      exact hp_aret (v := .ref q2) B0 hw hS hr (Or.inr ⟨_, rfl⟩) (Or.inr ⟨_, rfl⟩) ⟨Nat.le_of_ble_eq_true rfl, Nat.le_of_ble_eq_true rfl⟩ dX1_toldOptions_75 (⟨q2, _, rfl, w3, efq⟩)

set_option maxHeartbeats 4000000 in
set_option maxRecDepth 100000 in
theorem c_X1_answer {l : Launch} (hl : l.stackTraces = false) (G : hG) (f : hM) (en nw na nq nr : Nat) (mg : Int32) (hE : EF G f en nw na nq nr mg) (hPx : PoolX G [] f) (ga : Nat → Int32) (k_na : f na = some (.inl (cI G, 6, .inl ga))) (haq : na ≠ nq) (fr : Nat) (kf : List Value) (k_fr : f fr = some (.inr (2, kf))) : CT l yX1_answer (.code yX1_answer cX1_answer 3 none) 3 68 2 11 G [.ref en, .ref fr] f (fun v f1 => v = none ∧ EF G f1 en nw na nq nr mg ∧ PoolX G [] f1 ∧ hKp [en, nq, nr] f f1) (fun E f1 => False) := by
  refine hp_start hl (own := RX1) (by decide) rfl (Nat.le_of_ble_eq_true rfl) ?_
  intro p e s m args below meth c B0 hr hnm hout hw hS ls hl9
  have hx := B0.1
  have hb := B0.2.1
  have hl9 : lv_has ls 3 [(0, .ref en), (1, .ref fr)] := hl9
  obtain ⟨st, tm, sr, li, lp, mi, cn, gq, hd, tl, k_en, k_nq, k_nr, fhd, ftl, blp⟩ := hE
  refine lv_aload_n hx hb dX1_answer_0 rfl (lv_at hl9 0 rfl) ?_
  refine lv_aload_n hx hb dX1_answer_1 rfl (lv_at hl9 1 rfl) ?_
  obtain ⟨x1, x2, x3, v4, y5, g6, e7, h8, h9⟩ := hPx _ _ k_fr nin0
  rw [e7] at k_fr
  refine hp_get B0 hw 2 rfl in_X2 k_fr 3 (by decide) qF_X1_92 rfl dX1_answer_2 ?_
  refine hp_V (ci := 1) (As := [.ref v4]) (rest := []) B0 hw hS (c_X1_kindOfAnswer hl G f en nw na nq nr mg st tm sr li lp mi ga k_en k_na  v4 g6 h8) mV_X1_kindOfAnswer qM_X1_109 rfl k_en rfl rfl hl9.1 (Nat.le_of_ble_eq_true rfl) ⟨⟨Nat.le_of_ble_eq_true rfl, Nat.le_of_ble_eq_true rfl⟩, Nat.le_of_ble_eq_true rfl, Nat.le_of_ble_eq_true rfl⟩ dX1_answer_5 (fun E ce q9 f11 H locs hPX hw hS hce hcv hcl => ?_) (fun v f11 H locs hP hw hS => ?_)
  · exact hPX.elim
  · obtain ⟨ef9, r12, ev9⟩ := hP
    rw [ef9] at hw
    subst ev9
    refine W.eq (g2 := F0 m 8 ls [.int r12]) rfl ?_
    refine lv_istore_n (lv' := [(2, .int r12), (0, .ref en), (1, .ref fr)]) hx hb dX1_answer_8 rfl hl9 (by decide) rfl (fun ls hl9 => ?_)
    refine lv_aload_n hx hb dX1_answer_9 rfl (lv_at hl9 1 rfl) ?_
    refine hp_get B0 hw 1 rfl in_X1 k_en 3 (by decide) qF_X1_24 rfl dX1_answer_10 ?_
    refine hp_new (fs := [.int 0, .int 0, .int 0, .null, .null]) B0 hw hS 2 rfl in_X2 tyX2 tyX2_ok qC_X1_71 qI_X2 qN_X2 (fun j hj => by rcases (show j = 0 ∨ j = 1 ∨ j = 2 ∨ j = 3 ∨ j = 4 by omega) with rfl | rfl | rfl | rfl | rfl <;> rfl) (Nat.le_of_ble_eq_true rfl) (Nat.le_of_ble_eq_true rfl) dX1_answer_13 (fun q13 H f15 w14 ef15 hw hS => ?_)
    have h16 : f15 q13 = some (.inr (2, [.int 0, .int 0, .int 0, .null, .null])) := by rw [ef15, va_up_self]
    refine lv_dup hx hb dX1_answer_16 rfl ?_
    refine lv_iload_n hx hb dX1_answer_17 rfl (lv_at hl9 0 rfl) ?_
    refine lv_aload_n hx hb dX1_answer_18 rfl (lv_at hl9 2 rfl) ?_
    have h17 : f15 fr = some (.inr (2, [.int x1, .int x2, .int x3, .ref v4, y5])) := by rw [ef15, va_up_ne _ _ (hnew k_fr w14)]; exact k_fr
    refine hp_get B0 hw 2 rfl in_X2 h17 1 (by decide) qF_X1_86 rfl dX1_answer_19 ?_
    refine lv_iconst (v := 0) hx hb dX1_answer_22 (by decide) ?_
    refine lv_aload_n hx hb dX1_answer_23 rfl (lv_at hl9 1 rfl) ?_
    refine lv_iload_n hx hb dX1_answer_24 rfl (lv_at hl9 0 rfl) ?_
    refine lv_aload_n hx hb dX1_answer_25 rfl (lv_at hl9 2 rfl) ?_
    refine hp_get B0 hw 2 rfl in_X2 h17 3 (by decide) qF_X1_92 rfl dX1_answer_26 ?_
    have h18 : f15 v4 = some (.inl (cI G, 6, .inl g6)) := by rw [ef15, va_up_ne _ _ (hnew h8 w14)]; exact h8
    have h19 : f15 en = some (.inr (1, [.ref nw, .ref na, .ref nq, .ref nr, .int mg, .int st, .int tm, .int sr, .int li, .int lp, .int mi])) := by rw [ef15, va_up_ne _ _ (hnew k_en w14)]; exact k_en
    have h20 : f15 na = some (.inl (cI G, 6, .inl ga)) := by rw [ef15, va_up_ne _ _ (hnew k_na w14)]; exact k_na
    refine hp_V (ci := 1) (As := [.int r12, .ref v4]) (rest := [.int 0, .int x2, .int r12, .ref q13, .ref q13, .ref nr]) B0 hw hS (c_X1_told hl G f15 en nw na nq nr mg st tm sr li lp mi ga h19 h20  v4 g6 h18 r12) mV_X1_toldOptions qM_X1_113 rfl h19 rfl rfl hl9.1 (Nat.le_of_ble_eq_true rfl) ⟨⟨Nat.le_of_ble_eq_true rfl, Nat.le_of_ble_eq_true rfl⟩, Nat.le_of_ble_eq_true rfl, Nat.le_of_ble_eq_true rfl⟩ dX1_answer_29 (fun E ce q9 f21 H locs hPX hw hS hce hcv hcl => ?_) (fun v f21 H locs hP hw hS => ?_)
    · exact hPX.elim
    · obtain ⟨q22, g25, ev9, w23, e24⟩ := hP
      subst ev9
      have h26 : f21 q22 = some (.inl (cI G, 6, .inl g25)) := by rw [e24, va_up_self]
      refine W.eq (g2 := F0 m 32 ls [.ref q22, .int 0, .int x2, .int r12, .ref q13, .ref q13, .ref nr]) rfl ?_
      have h27 : f21 q13 = some (.inr (2, [.int 0, .int 0, .int 0, .null, .null])) := by rw [e24, va_up_ne _ _ (hnew h16 w23)]; exact h16
      refine hp_I (As := [.int r12, .int x2, .int 0, .ref q22]) (rest := [.ref q13, .ref nr]) (b := q13) B0 hw hS (c_X2_initE hl G f21 q13 q22 r12 x2 0 h27) mI_X2_init qM_X1_99 rfl rfl hl9.1 (Nat.le_of_ble_eq_true rfl) ⟨⟨Nat.le_of_ble_eq_true rfl, Nat.le_of_ble_eq_true rfl⟩, Nat.le_of_ble_eq_true rfl, Nat.le_of_ble_eq_true rfl⟩ dX1_answer_32 (fun E ce q9 f28 H locs hPX hw hS hce hcv hcl => ?_) (fun v f28 H locs hP hw hS => ?_)
      · exact hPX.elim
      · obtain ⟨ev9, e29⟩ := hP
        subst ev9
        have h30 : f28 q13 = some (.inr (2, [.int r12, .int x2, .int 0, .ref q22, .null])) := by rw [e29, va_up_self]
        refine W.eq (g2 := F0 m 35 ls [.ref q13, .ref nr]) rfl ?_
        have h31 : f15 nr = some (.inr (3, [hd, tl, .int cn])) := by rw [ef15, va_up_ne _ _ (hnew k_nr w14)]; exact k_nr
        have h32 : f21 nr = some (.inr (3, [hd, tl, .int cn])) := by rw [e24, va_up_ne _ _ (hnew h31 w23)]; exact h31
        have n34 : nr ≠ q13 := hnew k_nr w14
        have h33 : f28 nr = some (.inr (3, [hd, tl, .int cn])) := by rw [e29, va_up_ne _ _ n34]; exact h32
        have p35 : PoolX G [q13] f15 := by rw [ef15]; exact px_newF hPx w14
        have p36 : PoolX G [q13] f21 := by rw [e24]; exact px_new p35 w23 (Nat.ne_of_beq_eq_false rfl)
        have p37 : PoolX G [] f28 := by rw [e29]; exact px_frame p36 h27 h26 FRef.nul (fun b9 h9 n9 => absurd (List.mem_singleton.mp h9) n9)
        refine hp_V (ci := 3) (As := [.ref q13]) (rest := []) B0 hw hS (c_X3_put hl G f28 nr q13 _ h30 hd tl cn h33 (fhd.kp (hKp.trn w14 ((show hKp [q13, en, nq, nr] f f15 from (by rw [ef15]; exact hKp.new w14)).tr (hKp.trn w23 ((show hKp [q22, q13, en, nq, nr] f15 f21 from (by rw [e24]; exact hKp.new w23)).tr (show hKp [q22, q13, en, nq, nr] f21 f28 from (by rw [e29]; exact hKp.fr h27))))))) (ftl.kp (hKp.trn w14 ((show hKp [q13, en, nq, nr] f f15 from (by rw [ef15]; exact hKp.new w14)).tr (hKp.trn w23 ((show hKp [q22, q13, en, nq, nr] f15 f21 from (by rw [e24]; exact hKp.new w23)).tr (show hKp [q22, q13, en, nq, nr] f21 f28 from (by rw [e29]; exact hKp.fr h27))))))) p37) mV_X3_put qM_X1_102 rfl h33 rfl rfl hl9.1 (Nat.le_of_ble_eq_true rfl) ⟨⟨Nat.le_of_ble_eq_true rfl, Nat.le_of_ble_eq_true rfl⟩, Nat.le_of_ble_eq_true rfl, Nat.le_of_ble_eq_true rfl⟩ dX1_answer_35 (fun E ce q9 f38 H locs hPX hw hS hce hcv hcl => ?_) (fun v f38 H locs hP hw hS => ?_)
        · exact hPX.elim
        · obtain ⟨ev9, ⟨hd39, tl40, cn41, h42, h43, h44⟩, h45, h46⟩ := hP
          subst ev9
          refine W.eq (g2 := F0 m 38 ls []) rfl ?_
          refine lv_iload_n hx hb dX1_answer_38 rfl (lv_at hl9 0 rfl) ?_
          refine lv_iconst (v := 1) hx hb dX1_answer_39 (by decide) ?_
          refine lv_icmp_eq (tgt := 66) hx hb dX1_answer_40 (by decide) (fun c47 => ?_) (fun c47 => ?_)
          · refine lv_aload_n hx hb dX1_answer_66 rfl (lv_at hl9 1 rfl) ?_
            have h48 : f21 en = some (.inr (1, [.ref nw, .ref na, .ref nq, .ref nr, .int mg, .int st, .int tm, .int sr, .int li, .int lp, .int mi])) := by rw [e24, va_up_ne _ _ (hnew h19 w23)]; exact h19
            have n50 : en ≠ q13 := hnew k_en w14
            have h49 : f28 en = some (.inr (1, [.ref nw, .ref na, .ref nq, .ref nr, .int mg, .int st, .int tm, .int sr, .int li, .int lp, .int mi])) := by rw [e29, va_up_ne _ _ n50]; exact h48
            have n51 : en ≠ nr := hne k_en k_nr (Nat.ne_of_beq_eq_false rfl)
            have h52 : f38 en = some (.inr (1, [.ref nw, .ref na, .ref nq, .ref nr, .int mg, .int st, .int tm, .int sr, .int li, .int lp, .int mi])) := h46.1 _ _ h49 (Nat.ne_of_beq_eq_false rfl) (ninc n51 nin0)
            refine hp_get B0 hw 1 rfl in_X1 h52 5 (by decide) qF_X1_28 rfl dX1_answer_67 ?_
            refine lv_iconst (v := 1) hx hb dX1_answer_70 (by decide) ?_
            refine lv_icmp_ne (tgt := 82) hx hb dX1_answer_71 (by decide) (fun c53 => ?_) (fun c53 => ?_)
            · refine lv_aload_n hx hb dX1_answer_82 rfl (lv_at hl9 1 rfl) ?_
              refine hp_get B0 hw 1 rfl in_X1 h52 5 (by decide) qF_X1_28 rfl dX1_answer_83 ?_
              refine lv_iconst (v := 2) hx hb dX1_answer_86 (by decide) ?_
              refine lv_icmp_ne (tgt := 95) hx hb dX1_answer_87 (by decide) (fun c54 => ?_) (fun c54 => ?_)
              · have h55 : f15 nq = some (.inl (cI G, 6, .inl gq)) := by rw [ef15, va_up_ne _ _ (hnew k_nq w14)]; exact k_nq
                have h56 : f21 nq = some (.inl (cI G, 6, .inl gq)) := by rw [e24, va_up_ne _ _ (hnew h55 w23)]; exact h55
                have n58 : nq ≠ q13 := hnew k_nq w14
                have h57 : f28 nq = some (.inl (cI G, 6, .inl gq)) := by rw [e29, va_up_ne _ _ n58]; exact h56
                have n59 : nq ≠ nr := hne k_nq k_nr (Nat.ne_of_beq_eq_false rfl)
                have h60 : f38 nq = some (.inl (cI G, 6, .inl gq)) := h46.1 _ _ h57 (Nat.ne_of_beq_eq_false rfl) (ninc n59 nin0)
                exact hp_vret B0 hw hS hr ⟨Nat.le_of_ble_eq_true rfl, Nat.le_of_ble_eq_true rfl⟩ dX1_answer_95 (⟨rfl, ⟨_, _, _, _, _, _, _, _, _, _, h52, h60, h42, h43, h44, blp⟩, h45, (hKp.trn w14 ((show hKp [q13, en, nq, nr] f f15 from (by rw [ef15]; exact hKp.new w14)).tr (hKp.trn w23 ((show hKp [q22, q13, en, nq, nr] f15 f21 from (by rw [e24]; exact hKp.new w23)).tr ((show hKp [q22, q13, en, nq, nr] f21 f28 from (by rw [e29]; exact hKp.fr h27)).tr (show hKp [q22, q13, en, nq, nr] f28 f38 from (h46.mono (fun x9 hx9 => by simp only [List.mem_cons, List.not_mem_nil, or_false] at hx9; rcases hx9 with hx9 <;> (rw [hx9]; simp)))))))))⟩)
              · refine lv_aload_n hx hb dX1_answer_90 rfl (lv_at hl9 1 rfl) ?_
                refine lv_iconst (v := 4) hx hb dX1_answer_91 (by decide) ?_
                refine hp_put (fs1 := [.ref nw, .ref na, .ref nq, .ref nr, .int mg, .int 4, .int tm, .int sr, .int li, .int lp, .int mi]) (ty := .int) B0 hw hS 1 rfl in_X1 tyX1 tyX1_ok nmX1 h52 5 (by decide) qF_X1_28 rfl (by decide +kernel) rfl rfl (Nat.le_of_ble_eq_true rfl) rfl dX1_answer_92 (fun H locs f61 ef61 hw hS => ?_)
                have h62 : f61 en = some (.inr (1, [.ref nw, .ref na, .ref nq, .ref nr, .int mg, .int 4, .int tm, .int sr, .int li, .int lp, .int mi])) := by rw [ef61, va_up_self]
                have h63 : f15 nq = some (.inl (cI G, 6, .inl gq)) := by rw [ef15, va_up_ne _ _ (hnew k_nq w14)]; exact k_nq
                have h64 : f21 nq = some (.inl (cI G, 6, .inl gq)) := by rw [e24, va_up_ne _ _ (hnew h63 w23)]; exact h63
                have n66 : nq ≠ q13 := hnew k_nq w14
                have h65 : f28 nq = some (.inl (cI G, 6, .inl gq)) := by rw [e29, va_up_ne _ _ n66]; exact h64
                have n67 : nq ≠ nr := hne k_nq k_nr (Nat.ne_of_beq_eq_false rfl)
                have h68 : f38 nq = some (.inl (cI G, 6, .inl gq)) := h46.1 _ _ h65 (Nat.ne_of_beq_eq_false rfl) (ninc n67 nin0)
                have n70 : nq ≠ en := hne k_nq k_en (Nat.ne_of_beq_eq_false rfl)
                have h69 : f61 nq = some (.inl (cI G, 6, .inl gq)) := by rw [ef61, va_up_ne _ _ n70]; exact h68
                have h71 : f61 nr = some (.inr (3, [hd39, tl40, .int cn41])) := by rw [ef61, va_up_ne _ _ (Ne.symm n51)]; exact h42
                have p72 : PoolX G [] f61 := by rw [ef61]; exact px_upd h45 h52 (Nat.ne_of_beq_eq_false rfl) (Nat.ne_of_beq_eq_false rfl) (fun g9 h9 => nomatch h9)
                exact hp_vret B0 hw hS hr ⟨Nat.le_of_ble_eq_true rfl, Nat.le_of_ble_eq_true rfl⟩ dX1_answer_95 (⟨rfl, ⟨_, _, _, _, _, _, _, _, _, _, h62, h69, h71, (h43.kp (show hKp [en, nq, nr] f38 f61 from (by rw [ef61]; exact hKp.up h52 (Nat.ne_of_beq_eq_false rfl) (by simp)))), (h44.kp (show hKp [en, nq, nr] f38 f61 from (by rw [ef61]; exact hKp.up h52 (Nat.ne_of_beq_eq_false rfl) (by simp)))), blp⟩, p72, (hKp.trn w14 ((show hKp [q13, en, nq, nr] f f15 from (by rw [ef15]; exact hKp.new w14)).tr (hKp.trn w23 ((show hKp [q22, q13, en, nq, nr] f15 f21 from (by rw [e24]; exact hKp.new w23)).tr ((show hKp [q22, q13, en, nq, nr] f21 f28 from (by rw [e29]; exact hKp.fr h27)).tr ((show hKp [q22, q13, en, nq, nr] f28 f38 from (h46.mono (fun x9 hx9 => by simp only [List.mem_cons, List.not_mem_nil, or_false] at hx9; rcases hx9 with hx9 <;> (rw [hx9]; simp)))).tr (show hKp [q22, q13, en, nq, nr] f38 f61 from (by rw [ef61]; exact hKp.up h52 (Nat.ne_of_beq_eq_false rfl) (by simp)))))))))⟩)
            · refine lv_aload_n hx hb dX1_answer_74 rfl (lv_at hl9 1 rfl) ?_
              refine lv_iconst (v := 3) hx hb dX1_answer_75 (by decide) ?_
              refine hp_put (fs1 := [.ref nw, .ref na, .ref nq, .ref nr, .int mg, .int 3, .int tm, .int sr, .int li, .int lp, .int mi]) (ty := .int) B0 hw hS 1 rfl in_X1 tyX1 tyX1_ok nmX1 h52 5 (by decide) qF_X1_28 rfl (by decide +kernel) rfl rfl (Nat.le_of_ble_eq_true rfl) rfl dX1_answer_76 (fun H locs f73 ef73 hw hS => ?_)
              have h74 : f73 en = some (.inr (1, [.ref nw, .ref na, .ref nq, .ref nr, .int mg, .int 3, .int tm, .int sr, .int li, .int lp, .int mi])) := by rw [ef73, va_up_self]
              refine lv_goto (tgt := 95) hx hb dX1_answer_79 (by decide) ?_
              have h75 : f15 nq = some (.inl (cI G, 6, .inl gq)) := by rw [ef15, va_up_ne _ _ (hnew k_nq w14)]; exact k_nq
              have h76 : f21 nq = some (.inl (cI G, 6, .inl gq)) := by rw [e24, va_up_ne _ _ (hnew h75 w23)]; exact h75
              have n78 : nq ≠ q13 := hnew k_nq w14
              have h77 : f28 nq = some (.inl (cI G, 6, .inl gq)) := by rw [e29, va_up_ne _ _ n78]; exact h76
              have n79 : nq ≠ nr := hne k_nq k_nr (Nat.ne_of_beq_eq_false rfl)
              have h80 : f38 nq = some (.inl (cI G, 6, .inl gq)) := h46.1 _ _ h77 (Nat.ne_of_beq_eq_false rfl) (ninc n79 nin0)
              have n82 : nq ≠ en := hne k_nq k_en (Nat.ne_of_beq_eq_false rfl)
              have h81 : f73 nq = some (.inl (cI G, 6, .inl gq)) := by rw [ef73, va_up_ne _ _ n82]; exact h80
              have h83 : f73 nr = some (.inr (3, [hd39, tl40, .int cn41])) := by rw [ef73, va_up_ne _ _ (Ne.symm n51)]; exact h42
              have p84 : PoolX G [] f73 := by rw [ef73]; exact px_upd h45 h52 (Nat.ne_of_beq_eq_false rfl) (Nat.ne_of_beq_eq_false rfl) (fun g9 h9 => nomatch h9)
              exact hp_vret B0 hw hS hr ⟨Nat.le_of_ble_eq_true rfl, Nat.le_of_ble_eq_true rfl⟩ dX1_answer_95 (⟨rfl, ⟨_, _, _, _, _, _, _, _, _, _, h74, h81, h83, (h43.kp (show hKp [en, nq, nr] f38 f73 from (by rw [ef73]; exact hKp.up h52 (Nat.ne_of_beq_eq_false rfl) (by simp)))), (h44.kp (show hKp [en, nq, nr] f38 f73 from (by rw [ef73]; exact hKp.up h52 (Nat.ne_of_beq_eq_false rfl) (by simp)))), blp⟩, p84, (hKp.trn w14 ((show hKp [q13, en, nq, nr] f f15 from (by rw [ef15]; exact hKp.new w14)).tr (hKp.trn w23 ((show hKp [q22, q13, en, nq, nr] f15 f21 from (by rw [e24]; exact hKp.new w23)).tr ((show hKp [q22, q13, en, nq, nr] f21 f28 from (by rw [e29]; exact hKp.fr h27)).tr ((show hKp [q22, q13, en, nq, nr] f28 f38 from (h46.mono (fun x9 hx9 => by simp only [List.mem_cons, List.not_mem_nil, or_false] at hx9; rcases hx9 with hx9 <;> (rw [hx9]; simp)))).tr (show hKp [q22, q13, en, nq, nr] f38 f73 from (by rw [ef73]; exact hKp.up h52 (Nat.ne_of_beq_eq_false rfl) (by simp)))))))))⟩)
          · refine lv_aload_n hx hb dX1_answer_43 rfl (lv_at hl9 1 rfl) ?_
            refine lv_aload_n hx hb dX1_answer_44 rfl (lv_at hl9 1 rfl) ?_
            have h85 : f21 en = some (.inr (1, [.ref nw, .ref na, .ref nq, .ref nr, .int mg, .int st, .int tm, .int sr, .int li, .int lp, .int mi])) := by rw [e24, va_up_ne _ _ (hnew h19 w23)]; exact h19
            have n87 : en ≠ q13 := hnew k_en w14
            have h86 : f28 en = some (.inr (1, [.ref nw, .ref na, .ref nq, .ref nr, .int mg, .int st, .int tm, .int sr, .int li, .int lp, .int mi])) := by rw [e29, va_up_ne _ _ n87]; exact h85
            have n88 : en ≠ nr := hne k_en k_nr (Nat.ne_of_beq_eq_false rfl)
            have h89 : f38 en = some (.inr (1, [.ref nw, .ref na, .ref nq, .ref nr, .int mg, .int st, .int tm, .int sr, .int li, .int lp, .int mi])) := h46.1 _ _ h86 (Nat.ne_of_beq_eq_false rfl) (ninc n88 nin0)
            refine hp_get B0 hw 1 rfl in_X1 h89 5 (by decide) qF_X1_28 rfl dX1_answer_45 ?_
            refine lv_iconst (v := 3) hx hb dX1_answer_48 (by decide) ?_
            refine lv_icmp_ne (tgt := 56) hx hb dX1_answer_49 (by decide) (fun c90 => ?_) (fun c90 => ?_)
            · refine lv_aload_n hx hb dX1_answer_56 rfl (lv_at hl9 1 rfl) ?_
              refine hp_get B0 hw 1 rfl in_X1 h89 5 (by decide) qF_X1_28 rfl dX1_answer_57 ?_
              refine hp_put (fs1 := [.ref nw, .ref na, .ref nq, .ref nr, .int mg, .int st, .int tm, .int sr, .int li, .int lp, .int mi]) (ty := .int) B0 hw hS 1 rfl in_X1 tyX1 tyX1_ok nmX1 h89 5 (by decide) qF_X1_28 rfl (by decide +kernel) rfl rfl (Nat.le_of_ble_eq_true rfl) rfl dX1_answer_60 (fun H locs f91 ef91 hw hS => ?_)
              have h92 : f91 en = some (.inr (1, [.ref nw, .ref na, .ref nq, .ref nr, .int mg, .int st, .int tm, .int sr, .int li, .int lp, .int mi])) := by rw [ef91, va_up_self]
              refine lv_goto (tgt := 95) hx hb dX1_answer_63 (by decide) ?_
              have h93 : f15 nq = some (.inl (cI G, 6, .inl gq)) := by rw [ef15, va_up_ne _ _ (hnew k_nq w14)]; exact k_nq
              have h94 : f21 nq = some (.inl (cI G, 6, .inl gq)) := by rw [e24, va_up_ne _ _ (hnew h93 w23)]; exact h93
              have n96 : nq ≠ q13 := hnew k_nq w14
              have h95 : f28 nq = some (.inl (cI G, 6, .inl gq)) := by rw [e29, va_up_ne _ _ n96]; exact h94
              have n97 : nq ≠ nr := hne k_nq k_nr (Nat.ne_of_beq_eq_false rfl)
              have h98 : f38 nq = some (.inl (cI G, 6, .inl gq)) := h46.1 _ _ h95 (Nat.ne_of_beq_eq_false rfl) (ninc n97 nin0)
              have n100 : nq ≠ en := hne k_nq k_en (Nat.ne_of_beq_eq_false rfl)
              have h99 : f91 nq = some (.inl (cI G, 6, .inl gq)) := by rw [ef91, va_up_ne _ _ n100]; exact h98
              have h101 : f91 nr = some (.inr (3, [hd39, tl40, .int cn41])) := by rw [ef91, va_up_ne _ _ (Ne.symm n88)]; exact h42
              have p102 : PoolX G [] f91 := by rw [ef91]; exact px_upd h45 h89 (Nat.ne_of_beq_eq_false rfl) (Nat.ne_of_beq_eq_false rfl) (fun g9 h9 => nomatch h9)
              exact hp_vret B0 hw hS hr ⟨Nat.le_of_ble_eq_true rfl, Nat.le_of_ble_eq_true rfl⟩ dX1_answer_95 (⟨rfl, ⟨_, _, _, _, _, _, _, _, _, _, h92, h99, h101, (h43.kp (show hKp [en, nq, nr] f38 f91 from (by rw [ef91]; exact hKp.up h89 (Nat.ne_of_beq_eq_false rfl) (by simp)))), (h44.kp (show hKp [en, nq, nr] f38 f91 from (by rw [ef91]; exact hKp.up h89 (Nat.ne_of_beq_eq_false rfl) (by simp)))), blp⟩, p102, (hKp.trn w14 ((show hKp [q13, en, nq, nr] f f15 from (by rw [ef15]; exact hKp.new w14)).tr (hKp.trn w23 ((show hKp [q22, q13, en, nq, nr] f15 f21 from (by rw [e24]; exact hKp.new w23)).tr ((show hKp [q22, q13, en, nq, nr] f21 f28 from (by rw [e29]; exact hKp.fr h27)).tr ((show hKp [q22, q13, en, nq, nr] f28 f38 from (h46.mono (fun x9 hx9 => by simp only [List.mem_cons, List.not_mem_nil, or_false] at hx9; rcases hx9 with hx9 <;> (rw [hx9]; simp)))).tr (show hKp [q22, q13, en, nq, nr] f38 f91 from (by rw [ef91]; exact hKp.up h89 (Nat.ne_of_beq_eq_false rfl) (by simp)))))))))⟩)
            · refine lv_iconst (v := 1) hx hb dX1_answer_52 (by decide) ?_
              refine lv_goto (tgt := 60) hx hb dX1_answer_53 (by decide) ?_
              refine hp_put (fs1 := [.ref nw, .ref na, .ref nq, .ref nr, .int mg, .int 1, .int tm, .int sr, .int li, .int lp, .int mi]) (ty := .int) B0 hw hS 1 rfl in_X1 tyX1 tyX1_ok nmX1 h89 5 (by decide) qF_X1_28 rfl (by decide +kernel) rfl rfl (Nat.le_of_ble_eq_true rfl) rfl dX1_answer_60 (fun H locs f103 ef103 hw hS => ?_)
              have h104 : f103 en = some (.inr (1, [.ref nw, .ref na, .ref nq, .ref nr, .int mg, .int 1, .int tm, .int sr, .int li, .int lp, .int mi])) := by rw [ef103, va_up_self]
              refine lv_goto (tgt := 95) hx hb dX1_answer_63 (by decide) ?_
              have h105 : f15 nq = some (.inl (cI G, 6, .inl gq)) := by rw [ef15, va_up_ne _ _ (hnew k_nq w14)]; exact k_nq
              have h106 : f21 nq = some (.inl (cI G, 6, .inl gq)) := by rw [e24, va_up_ne _ _ (hnew h105 w23)]; exact h105
              have n108 : nq ≠ q13 := hnew k_nq w14
              have h107 : f28 nq = some (.inl (cI G, 6, .inl gq)) := by rw [e29, va_up_ne _ _ n108]; exact h106
              have n109 : nq ≠ nr := hne k_nq k_nr (Nat.ne_of_beq_eq_false rfl)
              have h110 : f38 nq = some (.inl (cI G, 6, .inl gq)) := h46.1 _ _ h107 (Nat.ne_of_beq_eq_false rfl) (ninc n109 nin0)
              have n112 : nq ≠ en := hne k_nq k_en (Nat.ne_of_beq_eq_false rfl)
              have h111 : f103 nq = some (.inl (cI G, 6, .inl gq)) := by rw [ef103, va_up_ne _ _ n112]; exact h110
              have h113 : f103 nr = some (.inr (3, [hd39, tl40, .int cn41])) := by rw [ef103, va_up_ne _ _ (Ne.symm n88)]; exact h42
              have p114 : PoolX G [] f103 := by rw [ef103]; exact px_upd h45 h89 (Nat.ne_of_beq_eq_false rfl) (Nat.ne_of_beq_eq_false rfl) (fun g9 h9 => nomatch h9)
              exact hp_vret B0 hw hS hr ⟨Nat.le_of_ble_eq_true rfl, Nat.le_of_ble_eq_true rfl⟩ dX1_answer_95 (⟨rfl, ⟨_, _, _, _, _, _, _, _, _, _, h104, h111, h113, (h43.kp (show hKp [en, nq, nr] f38 f103 from (by rw [ef103]; exact hKp.up h89 (Nat.ne_of_beq_eq_false rfl) (by simp)))), (h44.kp (show hKp [en, nq, nr] f38 f103 from (by rw [ef103]; exact hKp.up h89 (Nat.ne_of_beq_eq_false rfl) (by simp)))), blp⟩, p114, (hKp.trn w14 ((show hKp [q13, en, nq, nr] f f15 from (by rw [ef15]; exact hKp.new w14)).tr (hKp.trn w23 ((show hKp [q22, q13, en, nq, nr] f15 f21 from (by rw [e24]; exact hKp.new w23)).tr ((show hKp [q22, q13, en, nq, nr] f21 f28 from (by rw [e29]; exact hKp.fr h27)).tr ((show hKp [q22, q13, en, nq, nr] f28 f38 from (h46.mono (fun x9 hx9 => by simp only [List.mem_cons, List.not_mem_nil, or_false] at hx9; rcases hx9 with hx9 <;> (rw [hx9]; simp)))).tr (show hKp [q22, q13, en, nq, nr] f38 f103 from (by rw [ef103]; exact hKp.up h89 (Nat.ne_of_beq_eq_false rfl) (by simp)))))))))⟩)

set_option maxHeartbeats 4000000 in
set_option maxRecDepth 100000 in
theorem c_X1_changeAsked {l : Launch} (hl : l.stackTraces = false) (G : hG) (f : hM) (en nw na nq nr : Nat) (mg st tm sr li lp mi : Int32) (gq : Nat → Int32) (k_en : f en = some (.inr (1, [.ref nw, .ref na, .ref nq, .ref nr, .int mg, .int st, .int tm, .int sr, .int li, .int lp, .int mi]))) (k_nq : f nq = some (.inl (cI G, 6, .inl gq))) (fr nv : Nat) (x1 x2 x3 : Int32) (bh : Value) (gv : Nat → Int32) (k_fr : f fr = some (.inr (2, [.int x1, .int x2, .int x3, .ref nv, bh]))) (k_nv : f nv = some (.inl (cI G, 6, .inl gv))) : CT l yX1_changeAskedFor (.code yX1_changeAskedFor cX1_changeAskedFor 3 none) 0 0 0 0 G [.ref en, .ref fr] f (fun v f1 => v = none ∧ ∃ g9 : Nat → Int32, f1 = va_up f nq (some (.inl (cI G, 6, .inl g9)))) (fun E f1 => False) := by
  refine hp_start hl (own := RX1) (by decide) rfl (Nat.le_of_ble_eq_true rfl) ?_
  intro p e s m args below meth c B0 hr hnm hout hw hS ls hl9
  have hx := B0.1
  have hb := B0.2.1
  have hl9 : lv_has ls 3 [(0, .ref en), (1, .ref fr)] := hl9
  refine lv_iconst (v := 0) hx hb dX1_changeAskedFor_0 (by decide) ?_
  refine lv_istore_n (lv' := [(2, .int 0), (0, .ref en), (1, .ref fr)]) hx hb dX1_changeAskedFor_1 rfl hl9 (by decide) rfl (fun ls hl9 => ?_)
  refine hp_for (nL := 3) (pc := 2) (fun j f9 lv9 => (∃ g9 : Nat → Int32, f9 = va_up f nq (some (.inl (cI G, 6, .inl g9)))) ∧ lv9 = [(2, .int (nI j)), (0, .ref en), (1, .ref fr)]) 6 (fun j f9 lv9 H locs ls hj hI hw hS hl9 ih => ?_) (fun f9 lv9 H locs ls hI hw hS hl9 => ?_) 6 0 (by decide) f _ _ _ ls ⟨⟨_, va_up_id k_nq⟩, rfl⟩ hw hS (lv_sub hl9 [0, 1, 2] rfl)
  · obtain ⟨⟨g9, ef9⟩, el9⟩ := hI
    rw [el9] at hl9
    have h1 : f9 nq = some (.inl (cI G, 6, .inl g9)) := by rw [ef9, va_up_self]
    obtain ⟨gv9, hv9⟩ := arr6_up (b := nq) k_nv ef9
    refine lv_iload_n hx hb dX1_changeAskedFor_2 rfl (lv_at hl9 0 rfl) ?_
    refine lv_bipush (v := 6) hx hb dX1_changeAskedFor_3 (by decide) ?_
    refine lv_icmp_ge (tgt := 48) hx hb dX1_changeAskedFor_5 (by decide) (fun c9 => absurd c9 (by rw [show (6 : Int32) = nI 6 from rfl]; exact nI_ge hj (by omega))) (fun _ => ?_)
    refine lv_aload_n hx hb dX1_changeAskedFor_8 rfl (lv_at hl9 2 rfl) ?_
    have n3 : fr ≠ nq := hne k_fr k_nq (Nat.ne_of_beq_eq_false rfl)
    have h2 : f9 fr = some (.inr (2, [.int x1, .int x2, .int x3, .ref nv, bh])) := by rw [ef9, va_up_ne _ _ n3]; exact k_fr
    refine hp_get B0 hw 2 rfl in_X2 h2 3 (by decide) qF_X1_92 rfl dX1_changeAskedFor_9 ?_
    refine lv_iload_n hx hb dX1_changeAskedFor_12 rfl (lv_at hl9 0 rfl) ?_
    refine hp_iald B0 hw hv9 (vin6j hj) dX1_changeAskedFor_13 ?_
    refine lv_iconst (v := (-1)) hx hb dX1_changeAskedFor_14 (by decide) ?_
    refine lv_icmp_eq (tgt := 42) hx hb dX1_changeAskedFor_15 (by decide) (fun c4 => ?_) (fun c4 => ?_)
    · refine lv_iinc (v := (nI (j + 1))) (lv' := [(2, .int (nI (j + 1))), (0, .ref en), (1, .ref fr)]) hx hb dX1_changeAskedFor_42 hl9 (k := 0) rfl (nI_1 j) (by decide) rfl (fun ls hl9 => ?_)
      refine lv_goto (tgt := 2) hx hb dX1_changeAskedFor_45 (by decide) ?_
      exact ih _ _ H locs ls ⟨⟨_, ef9⟩, rfl⟩ hw hS (lv_sub hl9 [0, 1, 2] rfl)
    · refine lv_aload_n hx hb dX1_changeAskedFor_18 rfl (lv_at hl9 1 rfl) ?_
      have n6 : en ≠ nq := hne k_en k_nq (Nat.ne_of_beq_eq_false rfl)
      have h5 : f9 en = some (.inr (1, [.ref nw, .ref na, .ref nq, .ref nr, .int mg, .int st, .int tm, .int sr, .int li, .int lp, .int mi])) := by rw [ef9, va_up_ne _ _ n6]; exact k_en
      refine hp_get B0 hw 1 rfl in_X1 h5 2 (by decide) qF_X1_18 rfl dX1_changeAskedFor_19 ?_
      refine lv_iload_n hx hb dX1_changeAskedFor_22 rfl (lv_at hl9 0 rfl) ?_
      refine lv_aload_n hx hb dX1_changeAskedFor_23 rfl (lv_at hl9 2 rfl) ?_
      refine hp_get B0 hw 2 rfl in_X2 h2 0 (by decide) qF_X1_70 rfl dX1_changeAskedFor_24 ?_
      refine lv_iconst (v := 2) hx hb dX1_changeAskedFor_27 (by decide) ?_
      refine lv_icmp_ne (tgt := 40) hx hb dX1_changeAskedFor_28 (by decide) (fun c7 => ?_) (fun c7 => ?_)
      · refine lv_iconst (v := (-1)) hx hb dX1_changeAskedFor_40 (by decide) ?_
        refine hp_iast B0 hw hS h1 (vin6j hj) dX1_changeAskedFor_41 (fun H locs f8 ef8 hw hS => ?_)
        have h9 : f8 nq = some (.inl (cI G, 6, .inl (upd g9 ((nI j) : Int32).toNatClampNeg (-1)))) := by rw [ef8, va_up_self]
        refine lv_iinc (v := (nI (j + 1))) (lv' := [(2, .int (nI (j + 1))), (0, .ref en), (1, .ref fr)]) hx hb dX1_changeAskedFor_42 hl9 (k := 0) rfl (nI_1 j) (by decide) rfl (fun ls hl9 => ?_)
        refine lv_goto (tgt := 2) hx hb dX1_changeAskedFor_45 (by decide) ?_
        exact ih _ _ H locs ls ⟨⟨_, (by rw [ef8, ef9, bx_uu])⟩, rfl⟩ hw hS (lv_sub hl9 [0, 1, 2] rfl)
      · refine lv_aload_n hx hb dX1_changeAskedFor_31 rfl (lv_at hl9 2 rfl) ?_
        refine hp_get B0 hw 2 rfl in_X2 h2 3 (by decide) qF_X1_92 rfl dX1_changeAskedFor_32 ?_
        refine lv_iload_n hx hb dX1_changeAskedFor_35 rfl (lv_at hl9 0 rfl) ?_
        refine hp_iald B0 hw hv9 (vin6j hj) dX1_changeAskedFor_36 ?_
        refine lv_goto (tgt := 41) hx hb dX1_changeAskedFor_37 (by decide) ?_
        refine hp_iast B0 hw hS h1 (vin6j hj) dX1_changeAskedFor_41 (fun H locs f10 ef10 hw hS => ?_)
        have h11 : f10 nq = some (.inl (cI G, 6, .inl (upd g9 ((nI j) : Int32).toNatClampNeg (gv9 ((nI j) : Int32).toNatClampNeg)))) := by rw [ef10, va_up_self]
        refine lv_iinc (v := (nI (j + 1))) (lv' := [(2, .int (nI (j + 1))), (0, .ref en), (1, .ref fr)]) hx hb dX1_changeAskedFor_42 hl9 (k := 0) rfl (nI_1 j) (by decide) rfl (fun ls hl9 => ?_)
        refine lv_goto (tgt := 2) hx hb dX1_changeAskedFor_45 (by decide) ?_
        exact ih _ _ H locs ls ⟨⟨_, (by rw [ef10, ef9, bx_uu])⟩, rfl⟩ hw hS (lv_sub hl9 [0, 1, 2] rfl)
  · obtain ⟨⟨g9, ef9⟩, el9⟩ := hI
    rw [el9] at hl9
    have h12 : f9 nq = some (.inl (cI G, 6, .inl g9)) := by rw [ef9, va_up_self]
    obtain ⟨gv9, hv9⟩ := arr6_up (b := nq) k_nv ef9
    refine lv_iload_n hx hb dX1_changeAskedFor_2 rfl (lv_at hl9 0 rfl) ?_
    refine lv_bipush (v := 6) hx hb dX1_changeAskedFor_3 (by decide) ?_
    refine lv_icmp_ge (tgt := 48) hx hb dX1_changeAskedFor_5 (by decide) (fun _ => ?_) (fun c9 => absurd (by decide) c9)
    exact hp_vret B0 hw hS hr ⟨Nat.le_of_ble_eq_true rfl, Nat.le_of_ble_eq_true rfl⟩ dX1_changeAskedFor_48 (⟨rfl, _, ef9⟩)

set_option maxHeartbeats 4000000 in
set_option maxRecDepth 100000 in
theorem c_X1_hearRequest {l : Launch} (hl : l.stackTraces = false) (G : hG) (f : hM) (en nw na nq nr : Nat) (mg : Int32) (hE : EF G f en nw na nq nr mg) (hPx : PoolX G [] f) (ga : Nat → Int32) (k_na : f na = some (.inl (cI G, 6, .inl ga))) (haq : na ≠ nq) (fr : Nat) (kf : List Value) (k_fr : f fr = some (.inr (2, kf))) : CT l yX1_hearRequest (.code yX1_hearRequest cX1_hearRequest 2 none) 4 90 4 22 G [.ref en, .ref fr] f (fun v f1 => v = none ∧ EF G f1 en nw na nq nr mg ∧ PoolX G [] f1 ∧ hKp [en, nq, nr] f f1) (fun E f1 => False) := by
  refine hp_start hl (own := RX1) (by decide) rfl (Nat.le_of_ble_eq_true rfl) ?_
  intro p e s m args below meth c B0 hr hnm hout hw hS ls hl9
  have hx := B0.1
  have hb := B0.2.1
  have hl9 : lv_has ls 2 [(0, .ref en), (1, .ref fr)] := hl9
  obtain ⟨st, tm, sr, li, lp, mi, cn, gq, hd, tl, k_en, k_nq, k_nr, fhd, ftl, blp⟩ := hE
  refine lv_aload_n hx hb dX1_hearRequest_0 rfl (lv_at hl9 0 rfl) ?_
  refine lv_aload_n hx hb dX1_hearRequest_1 rfl (lv_at hl9 1 rfl) ?_
  obtain ⟨x1, x2, x3, v4, y5, g6, e7, h8, h9⟩ := hPx _ _ k_fr nin0
  rw [e7] at k_fr
  refine hp_get B0 hw 2 rfl in_X2 k_fr 2 (by decide) qF_X1_82 rfl dX1_hearRequest_2 ?_
  refine lv_aload_n hx hb dX1_hearRequest_5 rfl (lv_at hl9 0 rfl) ?_
  refine hp_get B0 hw 1 rfl in_X1 k_en 4 (by decide) qF_X1_48 rfl dX1_hearRequest_6 ?_
  refine lv_icmp_ne (tgt := 16) hx hb dX1_hearRequest_9 (by decide) (fun c11 => ?_) (fun c11 => ?_)
  · refine lv_iconst (v := 0) hx hb dX1_hearRequest_16 (by decide) ?_
    refine hp_put (fs1 := [.ref nw, .ref na, .ref nq, .ref nr, .int mg, .int st, .int tm, .int sr, .int li, .int 0, .int mi]) (ty := .boolean) B0 hw hS 1 rfl in_X1 tyX1 tyX1_ok nmX1 k_en 9 (by decide) qF_X1_41 rfl (by decide +kernel) rfl rfl (Nat.le_of_ble_eq_true rfl) rfl dX1_hearRequest_17 (fun H locs f12 ef12 hw hS => ?_)
    have h13 : f12 en = some (.inr (1, [.ref nw, .ref na, .ref nq, .ref nr, .int mg, .int st, .int tm, .int sr, .int li, .int 0, .int mi])) := by rw [ef12, va_up_self]
    refine lv_aload_n hx hb dX1_hearRequest_20 rfl (lv_at hl9 0 rfl) ?_
    refine hp_get B0 hw 1 rfl in_X1 h13 9 (by decide) qF_X1_41 rfl dX1_hearRequest_21 ?_
    refine lv_if_eq (tgt := 28) hx hb dX1_hearRequest_24 (by decide) (fun _ => ?_) (fun c9 => absurd (by decide) c9)
    refine lv_aload_n hx hb dX1_hearRequest_28 rfl (lv_at hl9 0 rfl) ?_
    refine hp_get B0 hw 1 rfl in_X1 h13 5 (by decide) qF_X1_28 rfl dX1_hearRequest_29 ?_
    refine lv_if_ne (tgt := 40) hx hb dX1_hearRequest_32 (by decide) (fun c14 => ?_) (fun c14 => ?_)
    · refine lv_aload_n hx hb dX1_hearRequest_40 rfl (lv_at hl9 0 rfl) ?_
      refine hp_get B0 hw 1 rfl in_X1 h13 5 (by decide) qF_X1_28 rfl dX1_hearRequest_41 ?_
      refine lv_iconst (v := 4) hx hb dX1_hearRequest_44 (by decide) ?_
      refine lv_icmp_ne (tgt := 61) hx hb dX1_hearRequest_45 (by decide) (fun c15 => ?_) (fun c15 => ?_)
      · refine lv_aload_n hx hb dX1_hearRequest_61 rfl (lv_at hl9 0 rfl) ?_
        refine lv_aload_n hx hb dX1_hearRequest_62 rfl (lv_at hl9 1 rfl) ?_
        have n17 : nq ≠ en := hne k_nq k_en (Nat.ne_of_beq_eq_false rfl)
        have h16 : f12 nq = some (.inl (cI G, 6, .inl gq)) := by rw [ef12, va_up_ne _ _ n17]; exact k_nq
        have n19 : nr ≠ en := hne k_nr k_en (Nat.ne_of_beq_eq_false rfl)
        have h18 : f12 nr = some (.inr (3, [hd, tl, .int cn])) := by rw [ef12, va_up_ne _ _ n19]; exact k_nr
        have p20 : PoolX G [] f12 := by rw [ef12]; exact px_upd hPx k_en (Nat.ne_of_beq_eq_false rfl) (Nat.ne_of_beq_eq_false rfl) (fun g9 h9 => nomatch h9)
        have n22 : fr ≠ en := hne k_fr k_en (Nat.ne_of_beq_eq_false rfl)
        have h21 : f12 fr = some (.inr (2, [.int x1, .int x2, .int x3, .ref v4, y5])) := by rw [ef12, va_up_ne _ _ n22]; exact k_fr
        have n24 : na ≠ en := hne k_na k_en (Nat.ne_of_beq_eq_false rfl)
        have h23 : f12 na = some (.inl (cI G, 6, .inl ga)) := by rw [ef12, va_up_ne _ _ n24]; exact k_na
        refine hp_V (ci := 1) (As := [.ref fr]) (rest := []) B0 hw hS (c_X1_answer hl G f12 en nw na nq nr mg ⟨_, _, _, _, _, _, _, _, _, _, h13, h16, h18, (fhd.kp (show hKp [en, nq, nr] f f12 from (by rw [ef12]; exact hKp.up k_en (Nat.ne_of_beq_eq_false rfl) (by simp)))), (ftl.kp (show hKp [en, nq, nr] f f12 from (by rw [ef12]; exact hKp.up k_en (Nat.ne_of_beq_eq_false rfl) (by simp)))), rfl⟩ p20 ga h23 haq fr _ h21) mV_X1_answer qM_X1_83 rfl h13 rfl rfl hl9.1 (Nat.le_of_ble_eq_true rfl) ⟨⟨Nat.le_of_ble_eq_true rfl, Nat.le_of_ble_eq_true rfl⟩, Nat.le_of_ble_eq_true rfl, Nat.le_of_ble_eq_true rfl⟩ dX1_hearRequest_63 (fun E ce q9 f25 H locs hPX hw hS hce hcv hcl => ?_) (fun v f25 H locs hP hw hS => ?_)
        · exact hPX.elim
        · obtain ⟨ev9, h26, p27, k28⟩ := hP
          obtain ⟨st29, tm30, sr31, li32, lp33, mi34, cn35, gq36, hd37, tl38, h39, h40, h41, h42, h43, h44⟩ := h26
          subst ev9
          refine W.eq (g2 := F0 m 66 ls []) rfl ?_
          exact hp_vret B0 hw hS hr ⟨Nat.le_of_ble_eq_true rfl, Nat.le_of_ble_eq_true rfl⟩ dX1_hearRequest_66 (⟨rfl, ⟨_, _, _, _, _, _, _, _, _, _, h39, h40, h41, h42, h43, h44⟩, p27, ((show hKp [en, nq, nr] f f12 from (by rw [ef12]; exact hKp.up k_en (Nat.ne_of_beq_eq_false rfl) (by simp))).tr (show hKp [en, nq, nr] f12 f25 from (k28.mono (fun x9 hx9 => by simp only [List.mem_cons, List.not_mem_nil, or_false] at hx9; rcases hx9 with hx9 | hx9 | hx9 <;> (rw [hx9]; simp)))))⟩)
      · refine lv_aload_n hx hb dX1_hearRequest_48 rfl (lv_at hl9 0 rfl) ?_
        have n46 : nq ≠ en := hne k_nq k_en (Nat.ne_of_beq_eq_false rfl)
        have h45 : f12 nq = some (.inl (cI G, 6, .inl gq)) := by rw [ef12, va_up_ne _ _ n46]; exact k_nq
        have n48 : nr ≠ en := hne k_nr k_en (Nat.ne_of_beq_eq_false rfl)
        have h47 : f12 nr = some (.inr (3, [hd, tl, .int cn])) := by rw [ef12, va_up_ne _ _ n48]; exact k_nr
        have p49 : PoolX G [] f12 := by rw [ef12]; exact px_upd hPx k_en (Nat.ne_of_beq_eq_false rfl) (Nat.ne_of_beq_eq_false rfl) (fun g9 h9 => nomatch h9)
        refine hp_V (ci := 1) (As := []) (rest := []) B0 hw hS (c_X1_ask hl G f12 en nw na nq nr mg ⟨_, _, _, _, _, _, _, _, _, _, h13, h45, h47, (fhd.kp (show hKp [en, nq, nr] f f12 from (by rw [ef12]; exact hKp.up k_en (Nat.ne_of_beq_eq_false rfl) (by simp)))), (ftl.kp (show hKp [en, nq, nr] f f12 from (by rw [ef12]; exact hKp.up k_en (Nat.ne_of_beq_eq_false rfl) (by simp)))), rfl⟩ p49 ) mV_X1_ask qM_X1_63 rfl h13 rfl rfl hl9.1 (Nat.le_of_ble_eq_true rfl) ⟨⟨Nat.le_of_ble_eq_true rfl, Nat.le_of_ble_eq_true rfl⟩, Nat.le_of_ble_eq_true rfl, Nat.le_of_ble_eq_true rfl⟩ dX1_hearRequest_49 (fun E ce q9 f50 H locs hPX hw hS hce hcv hcl => ?_) (fun v f50 H locs hP hw hS => ?_)
        · exact hPX.elim
        · obtain ⟨hv9, hr9⟩ := hP
          rcases hv9 with ev9 | ev9
          · subst ev9
            have hP := hr9
            obtain ⟨h51, p52, k53⟩ := hP
            obtain ⟨st54, tm55, sr56, li57, lp58, mi59, cn60, gq61, hd62, tl63, h64, h65, h66, h67, h68, h69⟩ := h51
            refine W.eq (g2 := F0 m 52 ls [.int 0]) rfl ?_
            refine lv_if_ne (tgt := 56) hx hb dX1_hearRequest_52 (by decide) (fun c9 => absurd (by decide) c9) (fun _ => ?_)
            exact hp_vret B0 hw hS hr ⟨Nat.le_of_ble_eq_true rfl, Nat.le_of_ble_eq_true rfl⟩ dX1_hearRequest_55 (⟨rfl, ⟨_, _, _, _, _, _, _, _, _, _, h64, h65, h66, h67, h68, h69⟩, p52, ((show hKp [en, nq, nr] f f12 from (by rw [ef12]; exact hKp.up k_en (Nat.ne_of_beq_eq_false rfl) (by simp))).tr (show hKp [en, nq, nr] f12 f50 from (k53.mono (fun x9 hx9 => by simp only [List.mem_cons, List.not_mem_nil, or_false] at hx9; rcases hx9 with hx9 | hx9 | hx9 <;> (rw [hx9]; simp)))))⟩)
          · subst ev9
            have hP := hr9
            obtain ⟨h70, p71, k72⟩ := hP
            obtain ⟨st73, tm74, sr75, li76, lp77, mi78, cn79, gq80, hd81, tl82, h83, h84, h85, h86, h87, h88⟩ := h70
            refine W.eq (g2 := F0 m 52 ls [.int 1]) rfl ?_
            refine lv_if_ne (tgt := 56) hx hb dX1_hearRequest_52 (by decide) (fun _ => ?_) (fun c9 => absurd c9 (by decide))
            refine lv_aload_n hx hb dX1_hearRequest_56 rfl (lv_at hl9 0 rfl) ?_
            refine lv_iconst (v := 1) hx hb dX1_hearRequest_57 (by decide) ?_
            refine hp_put (fs1 := [.ref nw, .ref na, .ref nq, .ref nr, .int mg, .int 1, .int tm74, .int sr75, .int li76, .int lp77, .int mi78]) (ty := .int) B0 hw hS 1 rfl in_X1 tyX1 tyX1_ok nmX1 h83 5 (by decide) qF_X1_28 rfl (by decide +kernel) rfl rfl (Nat.le_of_ble_eq_true rfl) rfl dX1_hearRequest_58 (fun H locs f89 ef89 hw hS => ?_)
            have h90 : f89 en = some (.inr (1, [.ref nw, .ref na, .ref nq, .ref nr, .int mg, .int 1, .int tm74, .int sr75, .int li76, .int lp77, .int mi78])) := by rw [ef89, va_up_self]
            refine lv_aload_n hx hb dX1_hearRequest_61 rfl (lv_at hl9 0 rfl) ?_
            refine lv_aload_n hx hb dX1_hearRequest_62 rfl (lv_at hl9 1 rfl) ?_
            have h91 : f89 nq = some (.inl (cI G, 6, .inl gq80)) := by rw [ef89, va_up_ne _ _ n46]; exact h84
            have h92 : f89 nr = some (.inr (3, [hd81, tl82, .int cn79])) := by rw [ef89, va_up_ne _ _ n48]; exact h85
            have p93 : PoolX G [] f89 := by rw [ef89]; exact px_upd p71 h83 (Nat.ne_of_beq_eq_false rfl) (Nat.ne_of_beq_eq_false rfl) (fun g9 h9 => nomatch h9)
            have n95 : fr ≠ en := hne k_fr k_en (Nat.ne_of_beq_eq_false rfl)
            have h94 : f12 fr = some (.inr (2, [.int x1, .int x2, .int x3, .ref v4, y5])) := by rw [ef12, va_up_ne _ _ n95]; exact k_fr
            obtain ⟨k96, h97⟩ := k72.2 _ _ h94
            have h98 : f89 fr = some (.inr (2, k96)) := by rw [ef89, va_up_ne _ _ n95]; exact h97
            have n100 : na ≠ en := hne k_na k_en (Nat.ne_of_beq_eq_false rfl)
            have h99 : f12 na = some (.inl (cI G, 6, .inl ga)) := by rw [ef12, va_up_ne _ _ n100]; exact k_na
            have n101 : na ≠ nr := hne k_na k_nr (Nat.ne_of_beq_eq_false rfl)
            have h102 : f50 na = some (.inl (cI G, 6, .inl ga)) := k72.1 _ _ h99 (Nat.ne_of_beq_eq_false rfl) (ninc n100 (ninc haq (ninc n101 nin0)))
            have h103 : f89 na = some (.inl (cI G, 6, .inl ga)) := by rw [ef89, va_up_ne _ _ n100]; exact h102
            refine hp_V (ci := 1) (As := [.ref fr]) (rest := []) B0 hw hS (c_X1_answer hl G f89 en nw na nq nr mg ⟨_, _, _, _, _, _, _, _, _, _, h90, h91, h92, (h86.kp (show hKp [en, nq, nr] f50 f89 from (by rw [ef89]; exact hKp.up h83 (Nat.ne_of_beq_eq_false rfl) (by simp)))), (h87.kp (show hKp [en, nq, nr] f50 f89 from (by rw [ef89]; exact hKp.up h83 (Nat.ne_of_beq_eq_false rfl) (by simp)))), h88⟩ p93 ga h103 haq fr _ h98) mV_X1_answer qM_X1_83 rfl h90 rfl rfl hl9.1 (Nat.le_of_ble_eq_true rfl) ⟨⟨Nat.le_of_ble_eq_true rfl, Nat.le_of_ble_eq_true rfl⟩, Nat.le_of_ble_eq_true rfl, Nat.le_of_ble_eq_true rfl⟩ dX1_hearRequest_63 (fun E ce q9 f104 H locs hPX hw hS hce hcv hcl => ?_) (fun v f104 H locs hP hw hS => ?_)
            · exact hPX.elim
            · obtain ⟨ev9, h105, p106, k107⟩ := hP
              obtain ⟨st108, tm109, sr110, li111, lp112, mi113, cn114, gq115, hd116, tl117, h118, h119, h120, h121, h122, h123⟩ := h105
              subst ev9
              refine W.eq (g2 := F0 m 66 ls []) rfl ?_
              exact hp_vret B0 hw hS hr ⟨Nat.le_of_ble_eq_true rfl, Nat.le_of_ble_eq_true rfl⟩ dX1_hearRequest_66 (⟨rfl, ⟨_, _, _, _, _, _, _, _, _, _, h118, h119, h120, h121, h122, h123⟩, p106, ((show hKp [en, nq, nr] f f12 from (by rw [ef12]; exact hKp.up k_en (Nat.ne_of_beq_eq_false rfl) (by simp))).tr ((show hKp [en, nq, nr] f12 f50 from (k72.mono (fun x9 hx9 => by simp only [List.mem_cons, List.not_mem_nil, or_false] at hx9; rcases hx9 with hx9 | hx9 | hx9 <;> (rw [hx9]; simp)))).tr ((show hKp [en, nq, nr] f50 f89 from (by rw [ef89]; exact hKp.up h83 (Nat.ne_of_beq_eq_false rfl) (by simp))).tr (show hKp [en, nq, nr] f89 f104 from (k107.mono (fun x9 hx9 => by simp only [List.mem_cons, List.not_mem_nil, or_false] at hx9; rcases hx9 with hx9 | hx9 | hx9 <;> (rw [hx9]; simp)))))))⟩)
    · refine lv_aload_n hx hb dX1_hearRequest_35 rfl (lv_at hl9 0 rfl) ?_
      have n125 : nq ≠ en := hne k_nq k_en (Nat.ne_of_beq_eq_false rfl)
      have h124 : f12 nq = some (.inl (cI G, 6, .inl gq)) := by rw [ef12, va_up_ne _ _ n125]; exact k_nq
      have n127 : nr ≠ en := hne k_nr k_en (Nat.ne_of_beq_eq_false rfl)
      have h126 : f12 nr = some (.inr (3, [hd, tl, .int cn])) := by rw [ef12, va_up_ne _ _ n127]; exact k_nr
      have p128 : PoolX G [] f12 := by rw [ef12]; exact px_upd hPx k_en (Nat.ne_of_beq_eq_false rfl) (Nat.ne_of_beq_eq_false rfl) (fun g9 h9 => nomatch h9)
      refine hp_V (ci := 1) (As := []) (rest := []) B0 hw hS (c_X1_sendStop hl G f12 en nw na nq nr mg ⟨_, _, _, _, _, _, _, _, _, _, h13, h124, h126, (fhd.kp (show hKp [en, nq, nr] f f12 from (by rw [ef12]; exact hKp.up k_en (Nat.ne_of_beq_eq_false rfl) (by simp)))), (ftl.kp (show hKp [en, nq, nr] f f12 from (by rw [ef12]; exact hKp.up k_en (Nat.ne_of_beq_eq_false rfl) (by simp)))), rfl⟩ p128 ) mV_X1_sendStop qM_X1_67 rfl h13 rfl rfl hl9.1 (Nat.le_of_ble_eq_true rfl) ⟨⟨Nat.le_of_ble_eq_true rfl, Nat.le_of_ble_eq_true rfl⟩, Nat.le_of_ble_eq_true rfl, Nat.le_of_ble_eq_true rfl⟩ dX1_hearRequest_36 (fun E ce q9 f129 H locs hPX hw hS hce hcv hcl => ?_) (fun v f129 H locs hP hw hS => ?_)
      · exact hPX.elim
      · obtain ⟨ev9, h130, p131, k132⟩ := hP
        obtain ⟨st133, tm134, sr135, li136, lp137, mi138, cn139, gq140, hd141, tl142, h143, h144, h145, h146, h147, h148⟩ := h130
        subst ev9
        refine W.eq (g2 := F0 m 39 ls []) rfl ?_
        exact hp_vret B0 hw hS hr ⟨Nat.le_of_ble_eq_true rfl, Nat.le_of_ble_eq_true rfl⟩ dX1_hearRequest_39 (⟨rfl, ⟨_, _, _, _, _, _, _, _, _, _, h143, h144, h145, h146, h147, h148⟩, p131, ((show hKp [en, nq, nr] f f12 from (by rw [ef12]; exact hKp.up k_en (Nat.ne_of_beq_eq_false rfl) (by simp))).tr (show hKp [en, nq, nr] f12 f129 from (k132.mono (fun x9 hx9 => by simp only [List.mem_cons, List.not_mem_nil, or_false] at hx9; rcases hx9 with hx9 | hx9 | hx9 <;> (rw [hx9]; simp)))))⟩)
  · refine lv_iconst (v := 1) hx hb dX1_hearRequest_12 (by decide) ?_
    refine lv_goto (tgt := 17) hx hb dX1_hearRequest_13 (by decide) ?_
    refine hp_put (fs1 := [.ref nw, .ref na, .ref nq, .ref nr, .int mg, .int st, .int tm, .int sr, .int li, .int 1, .int mi]) (ty := .boolean) B0 hw hS 1 rfl in_X1 tyX1 tyX1_ok nmX1 k_en 9 (by decide) qF_X1_41 rfl (by decide +kernel) rfl rfl (Nat.le_of_ble_eq_true rfl) rfl dX1_hearRequest_17 (fun H locs f149 ef149 hw hS => ?_)
    have h150 : f149 en = some (.inr (1, [.ref nw, .ref na, .ref nq, .ref nr, .int mg, .int st, .int tm, .int sr, .int li, .int 1, .int mi])) := by rw [ef149, va_up_self]
    refine lv_aload_n hx hb dX1_hearRequest_20 rfl (lv_at hl9 0 rfl) ?_
    refine hp_get B0 hw 1 rfl in_X1 h150 9 (by decide) qF_X1_41 rfl dX1_hearRequest_21 ?_
    refine lv_if_eq (tgt := 28) hx hb dX1_hearRequest_24 (by decide) (fun c9 => absurd c9 (by decide)) (fun _ => ?_)
    have n152 : nq ≠ en := hne k_nq k_en (Nat.ne_of_beq_eq_false rfl)
    have h151 : f149 nq = some (.inl (cI G, 6, .inl gq)) := by rw [ef149, va_up_ne _ _ n152]; exact k_nq
    have n154 : nr ≠ en := hne k_nr k_en (Nat.ne_of_beq_eq_false rfl)
    have h153 : f149 nr = some (.inr (3, [hd, tl, .int cn])) := by rw [ef149, va_up_ne _ _ n154]; exact k_nr
    have p155 : PoolX G [] f149 := by rw [ef149]; exact px_upd hPx k_en (Nat.ne_of_beq_eq_false rfl) (Nat.ne_of_beq_eq_false rfl) (fun g9 h9 => nomatch h9)
    exact hp_vret B0 hw hS hr ⟨Nat.le_of_ble_eq_true rfl, Nat.le_of_ble_eq_true rfl⟩ dX1_hearRequest_27 (⟨rfl, ⟨_, _, _, _, _, _, _, _, _, _, h150, h151, h153, (fhd.kp (show hKp [en, nq, nr] f f149 from (by rw [ef149]; exact hKp.up k_en (Nat.ne_of_beq_eq_false rfl) (by simp)))), (ftl.kp (show hKp [en, nq, nr] f f149 from (by rw [ef149]; exact hKp.up k_en (Nat.ne_of_beq_eq_false rfl) (by simp)))), rfl⟩, p155, (show hKp [en, nq, nr] f f149 from (by rw [ef149]; exact hKp.up k_en (Nat.ne_of_beq_eq_false rfl) (by simp)))⟩)

set_option maxHeartbeats 4000000 in
set_option maxRecDepth 100000 in
theorem c_X1_hearAnswer {l : Launch} (hl : l.stackTraces = false) (G : hG) (f : hM) (en nw na nq nr : Nat) (mg : Int32) (hE : EF G f en nw na nq nr mg) (hPx : PoolX G [] f) (fr : Nat) (kf : List Value) (k_fr : f fr = some (.inr (2, kf))) : CT l yX1_hearAnswer (.code yX1_hearAnswer cX1_hearAnswer 3 none) 3 57 2 11 G [.ref en, .ref fr] f (fun v f1 => v = none ∧ EF G f1 en nw na nq nr mg ∧ PoolX G [] f1 ∧ hKp [en, nq, nr] f f1) (fun E f1 => False) := by
  refine hp_start hl (own := RX1) (by decide) rfl (Nat.le_of_ble_eq_true rfl) ?_
  intro p e s m args below meth c B0 hr hnm hout hw hS ls hl9
  have hx := B0.1
  have hb := B0.2.1
  have hl9 : lv_has ls 3 [(0, .ref en), (1, .ref fr)] := hl9
  obtain ⟨st, tm, sr, li, lp, mi, cn, gq, hd, tl, k_en, k_nq, k_nr, fhd, ftl, blp⟩ := hE
  refine lv_aload_n hx hb dX1_hearAnswer_0 rfl (lv_at hl9 0 rfl) ?_
  refine hp_get B0 hw 1 rfl in_X1 k_en 5 (by decide) qF_X1_28 rfl dX1_hearAnswer_1 ?_
  refine lv_iconst (v := 1) hx hb dX1_hearAnswer_4 (by decide) ?_
  refine lv_icmp_eq (tgt := 16) hx hb dX1_hearAnswer_5 (by decide) (fun c1 => ?_) (fun c1 => ?_)
  · refine lv_iconst (v := 1) hx hb dX1_hearAnswer_16 (by decide) ?_
    refine lv_goto (tgt := 21) hx hb dX1_hearAnswer_17 (by decide) ?_
    refine lv_istore_n (lv' := [(2, .int 1), (0, .ref en), (1, .ref fr)]) hx hb dX1_hearAnswer_21 rfl hl9 (by decide) rfl (fun ls hl9 => ?_)
    refine lv_iload_n hx hb dX1_hearAnswer_22 rfl (lv_at hl9 0 rfl) ?_
    refine lv_if_eq (tgt := 37) hx hb dX1_hearAnswer_23 (by decide) (fun c9 => absurd c9 (by decide)) (fun _ => ?_)
    refine lv_aload_n hx hb dX1_hearAnswer_26 rfl (lv_at hl9 2 rfl) ?_
    obtain ⟨x2, x3, x4, v5, y6, g7, e8, h9, h10⟩ := hPx _ _ k_fr nin0
    rw [e8] at k_fr
    refine hp_get B0 hw 2 rfl in_X2 k_fr 1 (by decide) qF_X1_86 rfl dX1_hearAnswer_27 ?_
    refine lv_aload_n hx hb dX1_hearAnswer_30 rfl (lv_at hl9 1 rfl) ?_
    refine hp_get B0 hw 1 rfl in_X1 k_en 8 (by decide) qF_X1_38 rfl dX1_hearAnswer_31 ?_
    refine lv_icmp_eq (tgt := 38) hx hb dX1_hearAnswer_34 (by decide) (fun c12 => ?_) (fun c12 => ?_)
    · refine lv_aload_n hx hb dX1_hearAnswer_38 rfl (lv_at hl9 2 rfl) ?_
      refine hp_get B0 hw 2 rfl in_X2 k_fr 0 (by decide) qF_X1_70 rfl dX1_hearAnswer_39 ?_
      refine lv_iconst (v := 1) hx hb dX1_hearAnswer_42 (by decide) ?_
      refine lv_icmp_ne (tgt := 64) hx hb dX1_hearAnswer_43 (by decide) (fun c13 => ?_) (fun c13 => ?_)
      · refine lv_aload_n hx hb dX1_hearAnswer_64 rfl (lv_at hl9 1 rfl) ?_
        refine lv_aload_n hx hb dX1_hearAnswer_65 rfl (lv_at hl9 2 rfl) ?_
        refine hp_V (ci := 1) (As := [.ref fr]) (rest := []) B0 hw hS (c_X1_changeAsked hl G f en nw na nq nr mg st tm sr li lp mi gq k_en k_nq fr v5 x2 x3 x4 y6 g7 k_fr h9) mV_X1_changeAskedFor qM_X1_89 rfl k_en rfl rfl hl9.1 (Nat.le_of_ble_eq_true rfl) ⟨⟨Nat.le_of_ble_eq_true rfl, Nat.le_of_ble_eq_true rfl⟩, Nat.le_of_ble_eq_true rfl, Nat.le_of_ble_eq_true rfl⟩ dX1_hearAnswer_66 (fun E ce q9 f14 H locs hPX hw hS hce hcv hcl => ?_) (fun v f14 H locs hP hw hS => ?_)
        · exact hPX.elim
        · obtain ⟨ev9, g15, e16⟩ := hP
          subst ev9
          have h17 : f14 nq = some (.inl (cI G, 6, .inl g15)) := by rw [e16, va_up_self]
          refine W.eq (g2 := F0 m 69 ls []) rfl ?_
          refine lv_aload_n hx hb dX1_hearAnswer_69 rfl (lv_at hl9 1 rfl) ?_
          have n19 : en ≠ nq := hne k_en k_nq (Nat.ne_of_beq_eq_false rfl)
          have h18 : f14 en = some (.inr (1, [.ref nw, .ref na, .ref nq, .ref nr, .int mg, .int st, .int tm, .int sr, .int li, .int lp, .int mi])) := by rw [e16, va_up_ne _ _ n19]; exact k_en
          have n21 : nr ≠ nq := hne k_nr k_nq (Nat.ne_of_beq_eq_false rfl)
          have h20 : f14 nr = some (.inr (3, [hd, tl, .int cn])) := by rw [e16, va_up_ne _ _ n21]; exact k_nr
          have p22 : PoolX G [] f14 := by rw [e16]; exact px_upd hPx k_nq (Nat.ne_of_beq_eq_false rfl) (Nat.ne_of_beq_eq_false rfl) (fun g9 h9 => ⟨_, rfl⟩)
          refine hp_V (ci := 1) (As := []) (rest := []) B0 hw hS (c_X1_ask hl G f14 en nw na nq nr mg ⟨_, _, _, _, _, _, _, _, _, _, h18, h17, h20, (fhd.kp (show hKp [en, nq, nr] f f14 from (by rw [e16]; exact hKp.up k_nq (Nat.ne_of_beq_eq_false rfl) (by simp)))), (ftl.kp (show hKp [en, nq, nr] f f14 from (by rw [e16]; exact hKp.up k_nq (Nat.ne_of_beq_eq_false rfl) (by simp)))), blp⟩ p22 ) mV_X1_ask qM_X1_63 rfl h18 rfl rfl hl9.1 (Nat.le_of_ble_eq_true rfl) ⟨⟨Nat.le_of_ble_eq_true rfl, Nat.le_of_ble_eq_true rfl⟩, Nat.le_of_ble_eq_true rfl, Nat.le_of_ble_eq_true rfl⟩ dX1_hearAnswer_70 (fun E ce q9 f23 H locs hPX hw hS hce hcv hcl => ?_) (fun v f23 H locs hP hw hS => ?_)
          · exact hPX.elim
          · obtain ⟨hv9, hr9⟩ := hP
            rcases hv9 with ev9 | ev9
            · subst ev9
              have hP := hr9
              obtain ⟨h24, p25, k26⟩ := hP
              obtain ⟨st27, tm28, sr29, li30, lp31, mi32, cn33, gq34, hd35, tl36, h37, h38, h39, h40, h41, h42⟩ := h24
              refine W.eq (g2 := F0 m 73 ls [.int 0]) rfl ?_
              refine lv_pop hx hb dX1_hearAnswer_73 rfl ?_
              exact hp_vret B0 hw hS hr ⟨Nat.le_of_ble_eq_true rfl, Nat.le_of_ble_eq_true rfl⟩ dX1_hearAnswer_74 (⟨rfl, ⟨_, _, _, _, _, _, _, _, _, _, h37, h38, h39, h40, h41, h42⟩, p25, ((show hKp [en, nq, nr] f f14 from (by rw [e16]; exact hKp.up k_nq (Nat.ne_of_beq_eq_false rfl) (by simp))).tr (show hKp [en, nq, nr] f14 f23 from (k26.mono (fun x9 hx9 => by simp only [List.mem_cons, List.not_mem_nil, or_false] at hx9; rcases hx9 with hx9 | hx9 | hx9 <;> (rw [hx9]; simp)))))⟩)
            · subst ev9
              have hP := hr9
              obtain ⟨h43, p44, k45⟩ := hP
              obtain ⟨st46, tm47, sr48, li49, lp50, mi51, cn52, gq53, hd54, tl55, h56, h57, h58, h59, h60, h61⟩ := h43
              refine W.eq (g2 := F0 m 73 ls [.int 1]) rfl ?_
              refine lv_pop hx hb dX1_hearAnswer_73 rfl ?_
              exact hp_vret B0 hw hS hr ⟨Nat.le_of_ble_eq_true rfl, Nat.le_of_ble_eq_true rfl⟩ dX1_hearAnswer_74 (⟨rfl, ⟨_, _, _, _, _, _, _, _, _, _, h56, h57, h58, h59, h60, h61⟩, p44, ((show hKp [en, nq, nr] f f14 from (by rw [e16]; exact hKp.up k_nq (Nat.ne_of_beq_eq_false rfl) (by simp))).tr (show hKp [en, nq, nr] f14 f23 from (k45.mono (fun x9 hx9 => by simp only [List.mem_cons, List.not_mem_nil, or_false] at hx9; rcases hx9 with hx9 | hx9 | hx9 <;> (rw [hx9]; simp)))))⟩)
      · refine lv_aload_n hx hb dX1_hearAnswer_46 rfl (lv_at hl9 1 rfl) ?_
        refine lv_aload_n hx hb dX1_hearAnswer_47 rfl (lv_at hl9 1 rfl) ?_
        refine hp_get B0 hw 1 rfl in_X1 k_en 5 (by decide) qF_X1_28 rfl dX1_hearAnswer_48 ?_
        refine lv_iconst (v := 1) hx hb dX1_hearAnswer_51 (by decide) ?_
        refine lv_icmp_ne (tgt := 59) hx hb dX1_hearAnswer_52 (by decide) (fun c62 => ?_) (fun c62 => ?_)
        · refine lv_iconst (v := 4) hx hb dX1_hearAnswer_59 (by decide) ?_
          refine hp_put (fs1 := [.ref nw, .ref na, .ref nq, .ref nr, .int mg, .int 4, .int tm, .int sr, .int li, .int lp, .int mi]) (ty := .int) B0 hw hS 1 rfl in_X1 tyX1 tyX1_ok nmX1 k_en 5 (by decide) qF_X1_28 rfl (by decide +kernel) rfl rfl (Nat.le_of_ble_eq_true rfl) rfl dX1_hearAnswer_60 (fun H locs f63 ef63 hw hS => ?_)
          have h64 : f63 en = some (.inr (1, [.ref nw, .ref na, .ref nq, .ref nr, .int mg, .int 4, .int tm, .int sr, .int li, .int lp, .int mi])) := by rw [ef63, va_up_self]
          have n66 : nq ≠ en := hne k_nq k_en (Nat.ne_of_beq_eq_false rfl)
          have h65 : f63 nq = some (.inl (cI G, 6, .inl gq)) := by rw [ef63, va_up_ne _ _ n66]; exact k_nq
          have n68 : nr ≠ en := hne k_nr k_en (Nat.ne_of_beq_eq_false rfl)
          have h67 : f63 nr = some (.inr (3, [hd, tl, .int cn])) := by rw [ef63, va_up_ne _ _ n68]; exact k_nr
          have p69 : PoolX G [] f63 := by rw [ef63]; exact px_upd hPx k_en (Nat.ne_of_beq_eq_false rfl) (Nat.ne_of_beq_eq_false rfl) (fun g9 h9 => nomatch h9)
          exact hp_vret B0 hw hS hr ⟨Nat.le_of_ble_eq_true rfl, Nat.le_of_ble_eq_true rfl⟩ dX1_hearAnswer_63 (⟨rfl, ⟨_, _, _, _, _, _, _, _, _, _, h64, h65, h67, (fhd.kp (show hKp [en, nq, nr] f f63 from (by rw [ef63]; exact hKp.up k_en (Nat.ne_of_beq_eq_false rfl) (by simp)))), (ftl.kp (show hKp [en, nq, nr] f f63 from (by rw [ef63]; exact hKp.up k_en (Nat.ne_of_beq_eq_false rfl) (by simp)))), blp⟩, p69, (show hKp [en, nq, nr] f f63 from (by rw [ef63]; exact hKp.up k_en (Nat.ne_of_beq_eq_false rfl) (by simp)))⟩)
        · refine lv_iconst (v := 2) hx hb dX1_hearAnswer_55 (by decide) ?_
          refine lv_goto (tgt := 60) hx hb dX1_hearAnswer_56 (by decide) ?_
          refine hp_put (fs1 := [.ref nw, .ref na, .ref nq, .ref nr, .int mg, .int 2, .int tm, .int sr, .int li, .int lp, .int mi]) (ty := .int) B0 hw hS 1 rfl in_X1 tyX1 tyX1_ok nmX1 k_en 5 (by decide) qF_X1_28 rfl (by decide +kernel) rfl rfl (Nat.le_of_ble_eq_true rfl) rfl dX1_hearAnswer_60 (fun H locs f70 ef70 hw hS => ?_)
          have h71 : f70 en = some (.inr (1, [.ref nw, .ref na, .ref nq, .ref nr, .int mg, .int 2, .int tm, .int sr, .int li, .int lp, .int mi])) := by rw [ef70, va_up_self]
          have n73 : nq ≠ en := hne k_nq k_en (Nat.ne_of_beq_eq_false rfl)
          have h72 : f70 nq = some (.inl (cI G, 6, .inl gq)) := by rw [ef70, va_up_ne _ _ n73]; exact k_nq
          have n75 : nr ≠ en := hne k_nr k_en (Nat.ne_of_beq_eq_false rfl)
          have h74 : f70 nr = some (.inr (3, [hd, tl, .int cn])) := by rw [ef70, va_up_ne _ _ n75]; exact k_nr
          have p76 : PoolX G [] f70 := by rw [ef70]; exact px_upd hPx k_en (Nat.ne_of_beq_eq_false rfl) (Nat.ne_of_beq_eq_false rfl) (fun g9 h9 => nomatch h9)
          exact hp_vret B0 hw hS hr ⟨Nat.le_of_ble_eq_true rfl, Nat.le_of_ble_eq_true rfl⟩ dX1_hearAnswer_63 (⟨rfl, ⟨_, _, _, _, _, _, _, _, _, _, h71, h72, h74, (fhd.kp (show hKp [en, nq, nr] f f70 from (by rw [ef70]; exact hKp.up k_en (Nat.ne_of_beq_eq_false rfl) (by simp)))), (ftl.kp (show hKp [en, nq, nr] f f70 from (by rw [ef70]; exact hKp.up k_en (Nat.ne_of_beq_eq_false rfl) (by simp)))), blp⟩, p76, (show hKp [en, nq, nr] f f70 from (by rw [ef70]; exact hKp.up k_en (Nat.ne_of_beq_eq_false rfl) (by simp)))⟩)
    · exact hp_vret B0 hw hS hr ⟨Nat.le_of_ble_eq_true rfl, Nat.le_of_ble_eq_true rfl⟩ dX1_hearAnswer_37 (⟨rfl, ⟨_, _, _, _, _, _, _, _, _, _, k_en, k_nq, k_nr, fhd, ftl, blp⟩, hPx, hKp.rf⟩)
  · refine lv_aload_n hx hb dX1_hearAnswer_8 rfl (lv_at hl9 0 rfl) ?_
    refine hp_get B0 hw 1 rfl in_X1 k_en 5 (by decide) qF_X1_28 rfl dX1_hearAnswer_9 ?_
    refine lv_iconst (v := 3) hx hb dX1_hearAnswer_12 (by decide) ?_
    refine lv_icmp_ne (tgt := 20) hx hb dX1_hearAnswer_13 (by decide) (fun c77 => ?_) (fun c77 => ?_)
    · refine lv_iconst (v := 0) hx hb dX1_hearAnswer_20 (by decide) ?_
      refine lv_istore_n (lv' := [(2, .int 0), (0, .ref en), (1, .ref fr)]) hx hb dX1_hearAnswer_21 rfl hl9 (by decide) rfl (fun ls hl9 => ?_)
      refine lv_iload_n hx hb dX1_hearAnswer_22 rfl (lv_at hl9 0 rfl) ?_
      refine lv_if_eq (tgt := 37) hx hb dX1_hearAnswer_23 (by decide) (fun _ => ?_) (fun c9 => absurd (by decide) c9)
      exact hp_vret B0 hw hS hr ⟨Nat.le_of_ble_eq_true rfl, Nat.le_of_ble_eq_true rfl⟩ dX1_hearAnswer_37 (⟨rfl, ⟨_, _, _, _, _, _, _, _, _, _, k_en, k_nq, k_nr, fhd, ftl, blp⟩, hPx, hKp.rf⟩)
    · refine lv_iconst (v := 1) hx hb dX1_hearAnswer_16 (by decide) ?_
      refine lv_goto (tgt := 21) hx hb dX1_hearAnswer_17 (by decide) ?_
      refine lv_istore_n (lv' := [(2, .int 1), (0, .ref en), (1, .ref fr)]) hx hb dX1_hearAnswer_21 rfl hl9 (by decide) rfl (fun ls hl9 => ?_)
      refine lv_iload_n hx hb dX1_hearAnswer_22 rfl (lv_at hl9 0 rfl) ?_
      refine lv_if_eq (tgt := 37) hx hb dX1_hearAnswer_23 (by decide) (fun c9 => absurd c9 (by decide)) (fun _ => ?_)
      refine lv_aload_n hx hb dX1_hearAnswer_26 rfl (lv_at hl9 2 rfl) ?_
      obtain ⟨x78, x79, x80, v81, y82, g83, e84, h85, h86⟩ := hPx _ _ k_fr nin0
      rw [e84] at k_fr
      refine hp_get B0 hw 2 rfl in_X2 k_fr 1 (by decide) qF_X1_86 rfl dX1_hearAnswer_27 ?_
      refine lv_aload_n hx hb dX1_hearAnswer_30 rfl (lv_at hl9 1 rfl) ?_
      refine hp_get B0 hw 1 rfl in_X1 k_en 8 (by decide) qF_X1_38 rfl dX1_hearAnswer_31 ?_
      refine lv_icmp_eq (tgt := 38) hx hb dX1_hearAnswer_34 (by decide) (fun c88 => ?_) (fun c88 => ?_)
      · refine lv_aload_n hx hb dX1_hearAnswer_38 rfl (lv_at hl9 2 rfl) ?_
        refine hp_get B0 hw 2 rfl in_X2 k_fr 0 (by decide) qF_X1_70 rfl dX1_hearAnswer_39 ?_
        refine lv_iconst (v := 1) hx hb dX1_hearAnswer_42 (by decide) ?_
        refine lv_icmp_ne (tgt := 64) hx hb dX1_hearAnswer_43 (by decide) (fun c89 => ?_) (fun c89 => ?_)
        · refine lv_aload_n hx hb dX1_hearAnswer_64 rfl (lv_at hl9 1 rfl) ?_
          refine lv_aload_n hx hb dX1_hearAnswer_65 rfl (lv_at hl9 2 rfl) ?_
          refine hp_V (ci := 1) (As := [.ref fr]) (rest := []) B0 hw hS (c_X1_changeAsked hl G f en nw na nq nr mg st tm sr li lp mi gq k_en k_nq fr v81 x78 x79 x80 y82 g83 k_fr h85) mV_X1_changeAskedFor qM_X1_89 rfl k_en rfl rfl hl9.1 (Nat.le_of_ble_eq_true rfl) ⟨⟨Nat.le_of_ble_eq_true rfl, Nat.le_of_ble_eq_true rfl⟩, Nat.le_of_ble_eq_true rfl, Nat.le_of_ble_eq_true rfl⟩ dX1_hearAnswer_66 (fun E ce q9 f90 H locs hPX hw hS hce hcv hcl => ?_) (fun v f90 H locs hP hw hS => ?_)
          · exact hPX.elim
          · obtain ⟨ev9, g91, e92⟩ := hP
            subst ev9
            have h93 : f90 nq = some (.inl (cI G, 6, .inl g91)) := by rw [e92, va_up_self]
            refine W.eq (g2 := F0 m 69 ls []) rfl ?_
            refine lv_aload_n hx hb dX1_hearAnswer_69 rfl (lv_at hl9 1 rfl) ?_
            have n95 : en ≠ nq := hne k_en k_nq (Nat.ne_of_beq_eq_false rfl)
            have h94 : f90 en = some (.inr (1, [.ref nw, .ref na, .ref nq, .ref nr, .int mg, .int st, .int tm, .int sr, .int li, .int lp, .int mi])) := by rw [e92, va_up_ne _ _ n95]; exact k_en
            have n97 : nr ≠ nq := hne k_nr k_nq (Nat.ne_of_beq_eq_false rfl)
            have h96 : f90 nr = some (.inr (3, [hd, tl, .int cn])) := by rw [e92, va_up_ne _ _ n97]; exact k_nr
            have p98 : PoolX G [] f90 := by rw [e92]; exact px_upd hPx k_nq (Nat.ne_of_beq_eq_false rfl) (Nat.ne_of_beq_eq_false rfl) (fun g9 h9 => ⟨_, rfl⟩)
            refine hp_V (ci := 1) (As := []) (rest := []) B0 hw hS (c_X1_ask hl G f90 en nw na nq nr mg ⟨_, _, _, _, _, _, _, _, _, _, h94, h93, h96, (fhd.kp (show hKp [en, nq, nr] f f90 from (by rw [e92]; exact hKp.up k_nq (Nat.ne_of_beq_eq_false rfl) (by simp)))), (ftl.kp (show hKp [en, nq, nr] f f90 from (by rw [e92]; exact hKp.up k_nq (Nat.ne_of_beq_eq_false rfl) (by simp)))), blp⟩ p98 ) mV_X1_ask qM_X1_63 rfl h94 rfl rfl hl9.1 (Nat.le_of_ble_eq_true rfl) ⟨⟨Nat.le_of_ble_eq_true rfl, Nat.le_of_ble_eq_true rfl⟩, Nat.le_of_ble_eq_true rfl, Nat.le_of_ble_eq_true rfl⟩ dX1_hearAnswer_70 (fun E ce q9 f99 H locs hPX hw hS hce hcv hcl => ?_) (fun v f99 H locs hP hw hS => ?_)
            · exact hPX.elim
            · obtain ⟨hv9, hr9⟩ := hP
              rcases hv9 with ev9 | ev9
              · subst ev9
                have hP := hr9
                obtain ⟨h100, p101, k102⟩ := hP
                obtain ⟨st103, tm104, sr105, li106, lp107, mi108, cn109, gq110, hd111, tl112, h113, h114, h115, h116, h117, h118⟩ := h100
                refine W.eq (g2 := F0 m 73 ls [.int 0]) rfl ?_
                refine lv_pop hx hb dX1_hearAnswer_73 rfl ?_
                exact hp_vret B0 hw hS hr ⟨Nat.le_of_ble_eq_true rfl, Nat.le_of_ble_eq_true rfl⟩ dX1_hearAnswer_74 (⟨rfl, ⟨_, _, _, _, _, _, _, _, _, _, h113, h114, h115, h116, h117, h118⟩, p101, ((show hKp [en, nq, nr] f f90 from (by rw [e92]; exact hKp.up k_nq (Nat.ne_of_beq_eq_false rfl) (by simp))).tr (show hKp [en, nq, nr] f90 f99 from (k102.mono (fun x9 hx9 => by simp only [List.mem_cons, List.not_mem_nil, or_false] at hx9; rcases hx9 with hx9 | hx9 | hx9 <;> (rw [hx9]; simp)))))⟩)
              · subst ev9
                have hP := hr9
                obtain ⟨h119, p120, k121⟩ := hP
                obtain ⟨st122, tm123, sr124, li125, lp126, mi127, cn128, gq129, hd130, tl131, h132, h133, h134, h135, h136, h137⟩ := h119
                refine W.eq (g2 := F0 m 73 ls [.int 1]) rfl ?_
                refine lv_pop hx hb dX1_hearAnswer_73 rfl ?_
                exact hp_vret B0 hw hS hr ⟨Nat.le_of_ble_eq_true rfl, Nat.le_of_ble_eq_true rfl⟩ dX1_hearAnswer_74 (⟨rfl, ⟨_, _, _, _, _, _, _, _, _, _, h132, h133, h134, h135, h136, h137⟩, p120, ((show hKp [en, nq, nr] f f90 from (by rw [e92]; exact hKp.up k_nq (Nat.ne_of_beq_eq_false rfl) (by simp))).tr (show hKp [en, nq, nr] f90 f99 from (k121.mono (fun x9 hx9 => by simp only [List.mem_cons, List.not_mem_nil, or_false] at hx9; rcases hx9 with hx9 | hx9 | hx9 <;> (rw [hx9]; simp)))))⟩)
        · refine lv_aload_n hx hb dX1_hearAnswer_46 rfl (lv_at hl9 1 rfl) ?_
          refine lv_aload_n hx hb dX1_hearAnswer_47 rfl (lv_at hl9 1 rfl) ?_
          refine hp_get B0 hw 1 rfl in_X1 k_en 5 (by decide) qF_X1_28 rfl dX1_hearAnswer_48 ?_
          refine lv_iconst (v := 1) hx hb dX1_hearAnswer_51 (by decide) ?_
          refine lv_icmp_ne (tgt := 59) hx hb dX1_hearAnswer_52 (by decide) (fun c138 => ?_) (fun c138 => ?_)
          · refine lv_iconst (v := 4) hx hb dX1_hearAnswer_59 (by decide) ?_
            refine hp_put (fs1 := [.ref nw, .ref na, .ref nq, .ref nr, .int mg, .int 4, .int tm, .int sr, .int li, .int lp, .int mi]) (ty := .int) B0 hw hS 1 rfl in_X1 tyX1 tyX1_ok nmX1 k_en 5 (by decide) qF_X1_28 rfl (by decide +kernel) rfl rfl (Nat.le_of_ble_eq_true rfl) rfl dX1_hearAnswer_60 (fun H locs f139 ef139 hw hS => ?_)
            have h140 : f139 en = some (.inr (1, [.ref nw, .ref na, .ref nq, .ref nr, .int mg, .int 4, .int tm, .int sr, .int li, .int lp, .int mi])) := by rw [ef139, va_up_self]
            have n142 : nq ≠ en := hne k_nq k_en (Nat.ne_of_beq_eq_false rfl)
            have h141 : f139 nq = some (.inl (cI G, 6, .inl gq)) := by rw [ef139, va_up_ne _ _ n142]; exact k_nq
            have n144 : nr ≠ en := hne k_nr k_en (Nat.ne_of_beq_eq_false rfl)
            have h143 : f139 nr = some (.inr (3, [hd, tl, .int cn])) := by rw [ef139, va_up_ne _ _ n144]; exact k_nr
            have p145 : PoolX G [] f139 := by rw [ef139]; exact px_upd hPx k_en (Nat.ne_of_beq_eq_false rfl) (Nat.ne_of_beq_eq_false rfl) (fun g9 h9 => nomatch h9)
            exact hp_vret B0 hw hS hr ⟨Nat.le_of_ble_eq_true rfl, Nat.le_of_ble_eq_true rfl⟩ dX1_hearAnswer_63 (⟨rfl, ⟨_, _, _, _, _, _, _, _, _, _, h140, h141, h143, (fhd.kp (show hKp [en, nq, nr] f f139 from (by rw [ef139]; exact hKp.up k_en (Nat.ne_of_beq_eq_false rfl) (by simp)))), (ftl.kp (show hKp [en, nq, nr] f f139 from (by rw [ef139]; exact hKp.up k_en (Nat.ne_of_beq_eq_false rfl) (by simp)))), blp⟩, p145, (show hKp [en, nq, nr] f f139 from (by rw [ef139]; exact hKp.up k_en (Nat.ne_of_beq_eq_false rfl) (by simp)))⟩)
          · refine lv_iconst (v := 2) hx hb dX1_hearAnswer_55 (by decide) ?_
            refine lv_goto (tgt := 60) hx hb dX1_hearAnswer_56 (by decide) ?_
            refine hp_put (fs1 := [.ref nw, .ref na, .ref nq, .ref nr, .int mg, .int 2, .int tm, .int sr, .int li, .int lp, .int mi]) (ty := .int) B0 hw hS 1 rfl in_X1 tyX1 tyX1_ok nmX1 k_en 5 (by decide) qF_X1_28 rfl (by decide +kernel) rfl rfl (Nat.le_of_ble_eq_true rfl) rfl dX1_hearAnswer_60 (fun H locs f146 ef146 hw hS => ?_)
            have h147 : f146 en = some (.inr (1, [.ref nw, .ref na, .ref nq, .ref nr, .int mg, .int 2, .int tm, .int sr, .int li, .int lp, .int mi])) := by rw [ef146, va_up_self]
            have n149 : nq ≠ en := hne k_nq k_en (Nat.ne_of_beq_eq_false rfl)
            have h148 : f146 nq = some (.inl (cI G, 6, .inl gq)) := by rw [ef146, va_up_ne _ _ n149]; exact k_nq
            have n151 : nr ≠ en := hne k_nr k_en (Nat.ne_of_beq_eq_false rfl)
            have h150 : f146 nr = some (.inr (3, [hd, tl, .int cn])) := by rw [ef146, va_up_ne _ _ n151]; exact k_nr
            have p152 : PoolX G [] f146 := by rw [ef146]; exact px_upd hPx k_en (Nat.ne_of_beq_eq_false rfl) (Nat.ne_of_beq_eq_false rfl) (fun g9 h9 => nomatch h9)
            exact hp_vret B0 hw hS hr ⟨Nat.le_of_ble_eq_true rfl, Nat.le_of_ble_eq_true rfl⟩ dX1_hearAnswer_63 (⟨rfl, ⟨_, _, _, _, _, _, _, _, _, _, h147, h148, h150, (fhd.kp (show hKp [en, nq, nr] f f146 from (by rw [ef146]; exact hKp.up k_en (Nat.ne_of_beq_eq_false rfl) (by simp)))), (ftl.kp (show hKp [en, nq, nr] f f146 from (by rw [ef146]; exact hKp.up k_en (Nat.ne_of_beq_eq_false rfl) (by simp)))), blp⟩, p152, (show hKp [en, nq, nr] f f146 from (by rw [ef146]; exact hKp.up k_en (Nat.ne_of_beq_eq_false rfl) (by simp)))⟩)
      · exact hp_vret B0 hw hS hr ⟨Nat.le_of_ble_eq_true rfl, Nat.le_of_ble_eq_true rfl⟩ dX1_hearAnswer_37 (⟨rfl, ⟨_, _, _, _, _, _, _, _, _, _, k_en, k_nq, k_nr, fhd, ftl, blp⟩, hPx, hKp.rf⟩)

set_option maxHeartbeats 4000000 in
set_option maxRecDepth 100000 in
theorem c_X1_hear {l : Launch} (hl : l.stackTraces = false) (G : hG) (f : hM) (en nw na nq nr : Nat) (mg : Int32) (hE : EF G f en nw na nq nr mg) (hPx : PoolX G [] f) (ga : Nat → Int32) (k_na : f na = some (.inl (cI G, 6, .inl ga))) (haq : na ≠ nq) (fr : Nat) (kf : List Value) (k_fr : f fr = some (.inr (2, kf))) : CT l yX1_hear (.code yX1_hear cX1_hear 2 none) 5 111 4 22 G [.ref en, .ref fr] f (fun v f1 => v = none ∧ EF G f1 en nw na nq nr mg ∧ PoolX G [] f1 ∧ hKp [en, nq, nr] f f1) (fun E f1 => False) := by
  refine hp_start hl (own := RX1) (by decide) rfl (Nat.le_of_ble_eq_true rfl) ?_
  intro p e s m args below meth c B0 hr hnm hout hw hS ls hl9
  have hx := B0.1
  have hb := B0.2.1
  have hl9 : lv_has ls 2 [(0, .ref en), (1, .ref fr)] := hl9
  obtain ⟨st, tm, sr, li, lp, mi, cn, gq, hd, tl, k_en, k_nq, k_nr, fhd, ftl, blp⟩ := hE
  refine lv_aload_n hx hb dX1_hear_0 rfl (lv_at hl9 1 rfl) ?_
  obtain ⟨x1, x2, x3, v4, y5, g6, e7, h8, h9⟩ := hPx _ _ k_fr nin0
  rw [e7] at k_fr
  refine hp_get B0 hw 2 rfl in_X2 k_fr 0 (by decide) qF_X1_70 rfl dX1_hear_1 ?_
  rcases (show x1.toInt = 0 ∨ x1.toInt = 4 ∨ (x1.toInt ≠ 0 ∧ x1.toInt ≠ 4) by omega) with h9 | h9 | ⟨h8, h9⟩
  · refine lv_lookup (off := 28) (tgt := 32) hx hb dX1_hear_4 (by decide) (by rw [h9]; rfl) (by decide) ?_
    refine lv_aload_n hx hb dX1_hear_32 rfl (lv_at hl9 0 rfl) ?_
    refine lv_aload_n hx hb dX1_hear_33 rfl (lv_at hl9 1 rfl) ?_
    refine hp_V (ci := 1) (As := [.ref fr]) (rest := []) B0 hw hS (c_X1_hearRequest hl G f en nw na nq nr mg ⟨_, _, _, _, _, _, _, _, _, _, k_en, k_nq, k_nr, fhd, ftl, blp⟩ hPx ga k_na haq fr _ k_fr) mV_X1_hearRequest qM_X1_75 rfl k_en rfl rfl hl9.1 (Nat.le_of_ble_eq_true rfl) ⟨⟨Nat.le_of_ble_eq_true rfl, Nat.le_of_ble_eq_true rfl⟩, Nat.le_of_ble_eq_true rfl, Nat.le_of_ble_eq_true rfl⟩ dX1_hear_34 (fun E ce q9 f11 H locs hPX hw hS hce hcv hcl => ?_) (fun v f11 H locs hP hw hS => ?_)
    · exact hPX.elim
    · obtain ⟨ev9, h12, p13, k14⟩ := hP
      obtain ⟨st15, tm16, sr17, li18, lp19, mi20, cn21, gq22, hd23, tl24, h25, h26, h27, h28, h29, h30⟩ := h12
      subst ev9
      refine W.eq (g2 := F0 m 37 ls []) rfl ?_
      refine lv_goto (tgt := 53) hx hb dX1_hear_37 (by decide) ?_
      exact hp_vret B0 hw hS hr ⟨Nat.le_of_ble_eq_true rfl, Nat.le_of_ble_eq_true rfl⟩ dX1_hear_53 (⟨rfl, ⟨_, _, _, _, _, _, _, _, _, _, h25, h26, h27, h28, h29, h30⟩, p13, (show hKp [en, nq, nr] f f11 from (k14.mono (fun x9 hx9 => by simp only [List.mem_cons, List.not_mem_nil, or_false] at hx9; rcases hx9 with hx9 | hx9 | hx9 <;> (rw [hx9]; simp))))⟩)
  · refine lv_lookup (off := 36) (tgt := 40) hx hb dX1_hear_4 (by decide) (by rw [h9]; rfl) (by decide) ?_
    refine lv_aload_n hx hb dX1_hear_40 rfl (lv_at hl9 0 rfl) ?_
    refine lv_iconst (v := 0) hx hb dX1_hear_41 (by decide) ?_
    refine hp_put (fs1 := [.ref nw, .ref na, .ref nq, .ref nr, .int mg, .int 0, .int tm, .int sr, .int li, .int lp, .int mi]) (ty := .int) B0 hw hS 1 rfl in_X1 tyX1 tyX1_ok nmX1 k_en 5 (by decide) qF_X1_28 rfl (by decide +kernel) rfl rfl (Nat.le_of_ble_eq_true rfl) rfl dX1_hear_42 (fun H locs f31 ef31 hw hS => ?_)
    have h32 : f31 en = some (.inr (1, [.ref nw, .ref na, .ref nq, .ref nr, .int mg, .int 0, .int tm, .int sr, .int li, .int lp, .int mi])) := by rw [ef31, va_up_self]
    refine lv_goto (tgt := 53) hx hb dX1_hear_45 (by decide) ?_
    have n34 : nq ≠ en := hne k_nq k_en (Nat.ne_of_beq_eq_false rfl)
    have h33 : f31 nq = some (.inl (cI G, 6, .inl gq)) := by rw [ef31, va_up_ne _ _ n34]; exact k_nq
    have n36 : nr ≠ en := hne k_nr k_en (Nat.ne_of_beq_eq_false rfl)
    have h35 : f31 nr = some (.inr (3, [hd, tl, .int cn])) := by rw [ef31, va_up_ne _ _ n36]; exact k_nr
    have p37 : PoolX G [] f31 := by rw [ef31]; exact px_upd hPx k_en (Nat.ne_of_beq_eq_false rfl) (Nat.ne_of_beq_eq_false rfl) (fun g9 h9 => nomatch h9)
    exact hp_vret B0 hw hS hr ⟨Nat.le_of_ble_eq_true rfl, Nat.le_of_ble_eq_true rfl⟩ dX1_hear_53 (⟨rfl, ⟨_, _, _, _, _, _, _, _, _, _, h32, h33, h35, (fhd.kp (show hKp [en, nq, nr] f f31 from (by rw [ef31]; exact hKp.up k_en (Nat.ne_of_beq_eq_false rfl) (by simp)))), (ftl.kp (show hKp [en, nq, nr] f f31 from (by rw [ef31]; exact hKp.up k_en (Nat.ne_of_beq_eq_false rfl) (by simp)))), blp⟩, p37, (show hKp [en, nq, nr] f f31 from (by rw [ef31]; exact hKp.up k_en (Nat.ne_of_beq_eq_false rfl) (by simp)))⟩)
  · refine lv_lookup (off := 44) (tgt := 48) hx hb dX1_hear_4 (by decide) (by simp [Op.lookupswitch.offset, h8, h9, Ne.symm h8, Ne.symm h9]) (by decide) ?_
    refine lv_aload_n hx hb dX1_hear_48 rfl (lv_at hl9 0 rfl) ?_
    refine lv_aload_n hx hb dX1_hear_49 rfl (lv_at hl9 1 rfl) ?_
    refine hp_V (ci := 1) (As := [.ref fr]) (rest := []) B0 hw hS (c_X1_hearAnswer hl G f en nw na nq nr mg ⟨_, _, _, _, _, _, _, _, _, _, k_en, k_nq, k_nr, fhd, ftl, blp⟩ hPx fr _ k_fr) mV_X1_hearAnswer qM_X1_79 rfl k_en rfl rfl hl9.1 (Nat.le_of_ble_eq_true rfl) ⟨⟨Nat.le_of_ble_eq_true rfl, Nat.le_of_ble_eq_true rfl⟩, Nat.le_of_ble_eq_true rfl, Nat.le_of_ble_eq_true rfl⟩ dX1_hear_50 (fun E ce q9 f38 H locs hPX hw hS hce hcv hcl => ?_) (fun v f38 H locs hP hw hS => ?_)
    · exact hPX.elim
    · obtain ⟨ev9, h39, p40, k41⟩ := hP
      obtain ⟨st42, tm43, sr44, li45, lp46, mi47, cn48, gq49, hd50, tl51, h52, h53, h54, h55, h56, h57⟩ := h39
      subst ev9
      refine W.eq (g2 := F0 m 53 ls []) rfl ?_
      exact hp_vret B0 hw hS hr ⟨Nat.le_of_ble_eq_true rfl, Nat.le_of_ble_eq_true rfl⟩ dX1_hear_53 (⟨rfl, ⟨_, _, _, _, _, _, _, _, _, _, h52, h53, h54, h55, h56, h57⟩, p40, (show hKp [en, nq, nr] f f38 from (k41.mono (fun x9 hx9 => by simp only [List.mem_cons, List.not_mem_nil, or_false] at hx9; rcases hx9 with hx9 | hx9 | hx9 <;> (rw [hx9]; simp))))⟩)

