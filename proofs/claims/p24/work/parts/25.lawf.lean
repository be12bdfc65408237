theorem mn_ge {x y : Int32} (h : y ≤ x) : y = mnI x y := by
  unfold mnI
  by_cases c : y < x
  · rw [if_pos c]
  · rw [if_neg c]; exact Int32.le_antisymm h (Int32.not_lt.mp c)
theorem mn_nge {x y : Int32} (h : ¬ y ≤ x) : x = mnI x y := by
  unfold mnI
  rw [if_neg (fun c => h (Int32.le_of_lt c))]
theorem mn_le {x y : Int32} (h : x ≤ y) : x = mnI x y := by
  unfold mnI
  rw [if_neg (Int32.not_lt.mpr h)]
theorem mn_nle {x y : Int32} (h : ¬ x ≤ y) : y = mnI x y := by
  unfold mnI
  rw [if_pos (Int32.not_le.mp h)]
theorem lgc1 {n : Nat} (h : n = 1) : lg_cmp (lN n) (lN 1) = 0 := by subst h; decide
theorem lgc0 {n : Nat} (h : n = 0) : ¬ lg_cmp (lN n) (lN 1) = 0 := by subst h; decide
theorem HB.z {hn : Nat} {gh : Nat → Int32} (h : HB hn gh) {i : Nat} (hi : i < 60) (g : gh i = 0) : hn / 2 ^ i % 2 = 0 := by
  have h1 := h.2 i hi
  rcases Nat.mod_two_eq_zero_or_one (hn / 2 ^ i) with e | e
  · exact e
  · exact absurd g (h1.mp e)
theorem HB.o {hn : Nat} {gh : Nat → Int32} (h : HB hn gh) {i : Nat} (hi : i < 60) (g : ¬ gh i = 0) : hn / 2 ^ i % 2 = 1 := (h.2 i hi).mpr g
theorem BOK.pkm {n a c x : Nat} {s pk : Nat → Nat} (h : BOK n a c x s pk) {y z : Nat} (hyz : y ≤ z) (hz : z < a) : pk y ≤ pk z := by
  obtain ⟨h1, h2, h3⟩ := h.2.2.2.2.1 z hz
  obtain ⟨g1, g2, g3⟩ := h.2.2.2.2.1 y (by omega)
  apply Nat.le_of_not_lt
  intro h4
  have := (h.mono (pk z + 1) (pk y) h4 (by omega)).1
  omega
theorem BOK.nle {n a c x : Nat} {s pk : Nat → Nat} (h : BOK n a c x s pk) : n ≤ a := by
  have : ∀ i, i ≤ n → i ≤ s i := by
    intro i
    induction i with
    | zero => intro _; exact Nat.zero_le _
    | succ i ih => intro hi; have h1 := ih (by omega); have h2 := (h.2.2.2.1 i (by omega)).1; omega
  have h3 := this n (Nat.le_refl _)
  rw [h.2.2.1] at h3
  exact h3
theorem HB.up {hn : Nat} {gh : Nat → Int32} (h : HB hn gh) {p : Nat} (hp : p < 60) : HB (hn ||| 2 ^ p) (upd gh p 1) := by
  refine ⟨Nat.or_lt_two_pow h.1 (Nat.pow_lt_pow_right (by decide) hp), fun i hi => ?_⟩
  have e : ∀ m, m / 2 ^ i % 2 = 1 ↔ m.testBit i = true := fun m => by rw [Nat.testBit_eq_decide_div_mod_eq]; exact (decide_eq_true_iff).symm
  rw [e, Nat.testBit_or, Nat.testBit_two_pow]
  unfold upd
  by_cases c : i = p
  · rw [if_pos c]
    simp [c]
  · rw [if_neg c, ← h.2 i hi, e]
    simp [show ¬ p = i from fun z => c z.symm]
theorem fGap_r {gh : Nat → Int32} {m x i : Nat} (h : fGap gh (m - x) x = fGap gh (m - x - i) (x + i)) (hi : i < m - x) (g : gh (x + i) = 0) : fGap gh (m - x) x = x + i := by
  rw [h, show m - x - i = (m - x - (i + 1)) + 1 by omega, fGap_z g]
set_option maxHeartbeats 4000000 in
set_option maxRecDepth 100000 in
theorem c_L_follow {l : Launch} (hl : l.stackTraces = false) (G : hG) (f : hM) (lb lh lr lg : Nat) (sa pk gv : Nat → Nat) (gh gl : Nat → Int32) (n a cg x : Nat) (hh : Nat → Int64) (hn : Nat) (tk : Nat → Nat) (hB9 : BOK n a cg x sa pk) (ha60 : a ≤ 60) (hHB : HB hn gh) (hh0 : hh 0 = lN hn) (k_lb : f lb = some (.inl (cI G, 64, .inl (nf sa)))) (k_lh : f lh = some (.inl (cJ G, 1, .inr (.inl hh)))) (k_lr : f lr = some (.inl (cI G, 60, .inl (nf gv)))) (k_lg : f lg = some (.inl (cI G, 10, .inl (g10r tk gl a n x cg)))) : CT l yL_follow (.code yL_follow cL_follow 8 none) 0 0 0 0 G [.ref lb, .ref lh, .ref lr, .ref lg] f (fun v f1 => v = none ∧ ∃ (c1 x1 : Nat) (gv1 : Nat → Nat), bRun a sa pk gh (bnd gl) 240 cg x gv = (c1, x1, gv1) ∧ BOK n a c1 x1 sa pk ∧ f1 lr = some (.inl (cI G, 60, .inl (nf gv1))) ∧ f1 lg = some (.inl (cI G, 10, .inl (g10r tk gl a n x1 c1))) ∧ hEq [lr, lg] f f1) (fun E f1 => False) := by
  refine hp_start hl (own := RL) (by decide) rfl (Nat.le_of_ble_eq_true rfl) ?_
  intro p e s m args below meth c B0 hr hnm hout hw hS ls hl9
  have hx := B0.1
  have hb := B0.2.1
  have hl9 : lv_has ls 8 [(0, .ref lb), (1, .ref lh), (2, .ref lr), (3, .ref lg)] := hl9
  have n_lb_lh : lb ≠ lh := hneL k_lb k_lh (Nat.ne_of_beq_eq_false rfl)
  have n_lb_lr : lb ≠ lr := hneL k_lb k_lr (Nat.ne_of_beq_eq_false rfl)
  have n_lb_lg : lb ≠ lg := hneL k_lb k_lg (Nat.ne_of_beq_eq_false rfl)
  have n_lh_lr : lh ≠ lr := hneL k_lh k_lr (Nat.ne_of_beq_eq_false rfl)
  have n_lh_lg : lh ≠ lg := hneL k_lh k_lg (Nat.ne_of_beq_eq_false rfl)
  have n_lr_lg : lr ≠ lg := hneL k_lr k_lg (Nat.ne_of_beq_eq_false rfl)
  have hHB1 := hHB.1
  refine lv_aload_n hx hb dL_follow_0 rfl (lv_at hl9 3 rfl) ?_
  refine lv_iconst (v := 3) hx hb dL_follow_1 (by decide) ?_
  refine hp_iald B0 hw k_lg (by unfold vp_in; decide) dL_follow_2 ?_
  refine hp_c (v := (gl 0)) (rfl) ?_
  refine lv_aload_n hx hb dL_follow_3 rfl (lv_at hl9 3 rfl) ?_
  refine lv_iconst (v := 4) hx hb dL_follow_4 (by decide) ?_
  refine hp_iald B0 hw k_lg (by unfold vp_in; decide) dL_follow_5 ?_
  refine hp_c (v := (gl 1)) (rfl) ?_
  refine lv_icmp_ge (tgt := 15) hx hb dL_follow_6 (by decide) (fun c1 => ?_) (fun c1 => ?_)
  · refine lv_aload_n hx hb dL_follow_15 rfl (lv_at hl9 3 rfl) ?_
    refine lv_iconst (v := 4) hx hb dL_follow_16 (by decide) ?_
    refine hp_iald B0 hw k_lg (by unfold vp_in; decide) dL_follow_17 ?_
    refine hp_c (v := (gl 1)) (rfl) ?_
    refine hp_c (v := (mnI (gl 0) (gl 1))) (mn_ge c1) ?_
    refine lv_istore (lv' := [(4, .int (mnI (gl 0) (gl 1))), (0, .ref lb), (1, .ref lh), (2, .ref lr), (3, .ref lg)]) hx hb dL_follow_18 hl9 (by decide) rfl (fun ls hl9 => ?_)
    refine lv_aload_n hx hb dL_follow_20 rfl (lv_at hl9 4 rfl) ?_
    refine lv_iconst (v := 5) hx hb dL_follow_21 (by decide) ?_
    refine hp_iald B0 hw k_lg (by unfold vp_in; decide) dL_follow_22 ?_
    refine hp_c (v := (gl 2)) (rfl) ?_
    refine lv_iload hx hb dL_follow_23 (lv_at hl9 0 rfl) ?_
    refine lv_icmp_ge (tgt := 34) hx hb dL_follow_25 (by decide) (fun c2 => ?_) (fun c2 => ?_)
    · refine lv_iload hx hb dL_follow_34 (lv_at hl9 0 rfl) ?_
      refine hp_c (v := (bnd gl)) (mn_le c2) ?_
      refine lv_istore (lv' := [(4, .int (bnd gl)), (0, .ref lb), (1, .ref lh), (2, .ref lr), (3, .ref lg)]) hx hb dL_follow_36 hl9 (by decide) rfl (fun ls hl9 => ?_)
      refine lv_iconst (v := 0) hx hb dL_follow_38 (by decide) ?_
      refine lv_istore (lv' := [(5, .int 0), (4, .int (bnd gl)), (0, .ref lb), (1, .ref lh), (2, .ref lr), (3, .ref lg)]) hx hb dL_follow_39 hl9 (by decide) rfl (fun ls hl9 => ?_)
      refine hp_for (nL := 8) (pc := 41) (fun jj f9 lv9 => ∃ (c9 x9 p9 : Nat) (gv9 : Nat → Nat), bRun a sa pk gh (bnd gl) (240 - jj) c9 x9 gv9 = bRun a sa pk gh (bnd gl) 240 cg x gv ∧ BOK n a c9 x9 sa pk ∧ (x9 < a → p9 ≤ pk x9) ∧ jj ≤ x9 ∧ f9 lr = some (.inl (cI G, 60, .inl (nf gv9))) ∧ f9 lg = some (.inl (cI G, 10, .inl (g10r tk gl a n x9 c9))) ∧ hEq [lr, lg] f f9 ∧ lv9 = [(5, .int (nI p9)), (4, .int (bnd gl)), (0, .ref lb), (1, .ref lh), (2, .ref lr), (3, .ref lg)]) 61 (fun jj f9 lv9 H locs ls hjj hI hw hS hl9 ih => ?_) (fun f9 lv9 H locs ls hI hw hS hl9 => ?_) 61 0 (Nat.zero_add _) f _ _ _ ls ⟨cg, x, 0, gv, rfl, hB9, (fun _ => Nat.zero_le _), Nat.zero_le _, k_lr, k_lg, hEq.rf, rfl⟩ hw hS (lv_sub hl9 [0, 1, 2, 3, 4, 5] rfl)
      · obtain ⟨c9, x9, p9, gv9, hR9, hB8, hp9, hj9, hr9, hg9, hk9, el9⟩ := hI
        rw [el9] at hl9
        have hxa9 := hB8.2.2.2.2.2.1
        refine lv_aload_n hx hb dL_follow_41 rfl (lv_at hl9 5 rfl) ?_
        refine lv_bipush (v := 8) hx hb dL_follow_42 (by decide) ?_
        refine hp_iald B0 hw hg9 (by unfold vp_in; decide) dL_follow_44 ?_
        refine hp_c (v := (nI x9)) (rfl) ?_
        refine lv_aload_n hx hb dL_follow_45 rfl (lv_at hl9 5 rfl) ?_
        refine lv_bipush (v := 6) hx hb dL_follow_46 (by decide) ?_
        refine hp_iald B0 hw hg9 (by unfold vp_in; decide) dL_follow_48 ?_
        refine hp_c (v := (nI a)) (rfl) ?_
        refine lv_icmp_ge (tgt := 229) hx hb dL_follow_49 (by decide) (fun c3 => ?_) (fun c3 => ?_)
        · have hst9 : bStep a sa pk gh (bnd gl) c9 x9 gv9 = none := (by unfold bStep; rw [if_neg (fun h9 => absurd h9 (Nat.not_lt.mpr (by have h8 := (nI_leI (by omega) (by omega)).mp c3; exact h8)))])
          exact hp_vret B0 hw hS hr ⟨Nat.le_of_ble_eq_true rfl, Nat.le_of_ble_eq_true rfl⟩ dL_follow_229 (⟨rfl, c9, x9, gv9, (by rw [← hR9, bRun_none hst9]), hB8, hr9, hg9, (show hEq [lr, lg] f f9 from (hEq.mono hk9 (fun _ h9 => h9)))⟩)
        · have hxl : x9 < a := Nat.lt_of_not_le (fun h9 => c3 (nI_le h9 (by omega)))
          obtain ⟨hq1, hq2, hq3⟩ := hB8.2.2.2.2.1 x9 hxl
          have hp8 := hp9 hxl
          have hn60 := hB8.1
          have hs1 := hB8.sle (i := pk x9 + 1) (by omega)
          have hs0 := hB8.sle (i := pk x9) (by omega)
          have hc60 := (hB8.c60 hxl).1
          refine hp_for (nL := 8) (pc := 52) (fun i f8 lv8 => f8 = f9 ∧ lv8 = [(5, .int (nI (p9 + i))), (4, .int (bnd gl)), (0, .ref lb), (1, .ref lh), (2, .ref lr), (3, .ref lg)]) (pk x9 - p9) (fun i f8 lv8 H locs ls hi hI hw hS hl9 ih2 => ?_) (fun f8 lv8 H locs ls hI hw hS hl9 => ?_) (pk x9 - p9) 0 (Nat.zero_add _) f9 _ _ _ ls ⟨rfl, rfl⟩ hw hS (lv_sub hl9 [0, 1, 2, 3, 4, 5] rfl)
          · obtain ⟨ef8, el8⟩ := hI
            rw [ef8] at hw
            rw [el8] at hl9
            have hs2 := (hB8.mono (p9 + i + 1) (pk x9) (by omega) (by omega)).1
            have hs3 := hB8.sle (i := p9 + i + 1) (by omega)
            refine lv_aload_n hx hb dL_follow_52 rfl (lv_at hl9 2 rfl) ?_
            refine lv_iload hx hb dL_follow_53 (lv_at hl9 0 rfl) ?_
            refine lv_iconst (v := 1) hx hb dL_follow_55 (by decide) ?_
            refine lv_iadd hx hb dL_follow_56 ?_
            refine hp_c (v := (nI (p9 + i + 1))) (nI_1 _) ?_
            have h4 : f9 lb = some (.inl (cI G, 64, .inl (nf sa))) := (hEq.k hk9) _ _ k_lb (ninc n_lb_lr (ninc n_lb_lg nin0))
            refine hp_iald B0 hw h4 (vp_in_nI (show p9 + i + 1 < 64 by omega) (by omega)) dL_follow_57 ?_
            refine hp_c (v := (nI (sa (p9 + i + 1)))) (nf_at (nI_clamp (by omega))) ?_
            refine lv_aload_n hx hb dL_follow_58 rfl (lv_at hl9 5 rfl) ?_
            refine lv_bipush (v := 8) hx hb dL_follow_59 (by decide) ?_
            refine hp_iald B0 hw hg9 (by unfold vp_in; decide) dL_follow_61 ?_
            refine hp_c (v := (nI x9)) (rfl) ?_
            refine lv_icmp_gt (tgt := 71) hx hb dL_follow_62 (by decide) (fun c9 => absurd c9 (nI_nlt (Nat.le_trans hs2 hq2) (by omega))) (fun _ => ?_)
            refine lv_iinc (v := (nI (p9 + (i + 1)))) (lv' := [(5, .int (nI (p9 + (i + 1)))), (4, .int (bnd gl)), (0, .ref lb), (1, .ref lh), (2, .ref lr), (3, .ref lg)]) hx hb dL_follow_65 hl9 (k := 0) rfl (nI_1 (p9 + i)) (by decide) rfl (fun ls hl9 => ?_)
            refine lv_goto (tgt := 52) hx hb dL_follow_68 (by decide) ?_
            exact ih2 _ _ H locs ls ⟨rfl, rfl⟩ hw hS (lv_sub hl9 [0, 1, 2, 3, 4, 5] rfl)
          · obtain ⟨ef8, el8⟩ := hI
            rw [ef8] at hw
            rw [el8] at hl9
            rw [show p9 + (pk x9 - p9) = pk x9 by omega] at hl9
            refine lv_aload_n hx hb dL_follow_52 rfl (lv_at hl9 2 rfl) ?_
            refine lv_iload hx hb dL_follow_53 (lv_at hl9 0 rfl) ?_
            refine lv_iconst (v := 1) hx hb dL_follow_55 (by decide) ?_
            refine lv_iadd hx hb dL_follow_56 ?_
            refine hp_c (v := (nI (pk x9 + 1))) (nI_1 _) ?_
            have h5 : f9 lb = some (.inl (cI G, 64, .inl (nf sa))) := (hEq.k hk9) _ _ k_lb (ninc n_lb_lr (ninc n_lb_lg nin0))
            refine hp_iald B0 hw h5 (vp_in_nI (show pk x9 + 1 < 64 by omega) (by omega)) dL_follow_57 ?_
            refine hp_c (v := (nI (sa (pk x9 + 1)))) (nf_at (nI_clamp (by omega))) ?_
            refine lv_aload_n hx hb dL_follow_58 rfl (lv_at hl9 5 rfl) ?_
            refine lv_bipush (v := 8) hx hb dL_follow_59 (by decide) ?_
            refine hp_iald B0 hw hg9 (by unfold vp_in; decide) dL_follow_61 ?_
            refine hp_c (v := (nI x9)) (rfl) ?_
            refine lv_icmp_gt (tgt := 71) hx hb dL_follow_62 (by decide) (fun _ => ?_) (fun c9 => absurd (nI_lt (by omega) (by omega)) c9)
            by_cases hg : gh x9 = 0
            · refine lv_aload_n hx hb dL_follow_71 rfl (lv_at hl9 3 rfl) ?_
              refine lv_iconst (v := 0) hx hb dL_follow_72 (by decide) ?_
              have h6 : f9 lh = some (.inl (cJ G, 1, .inr (.inl hh))) := (hEq.k hk9) _ _ k_lh (ninc n_lh_lr (ninc n_lh_lg nin0))
              refine hp_lald B0 hw h6 (by unfold vp_in; decide) dL_follow_73 ?_
              refine hp_cl (v := (lN hn)) (hh0) ?_
              refine lv_aload_n hx hb dL_follow_74 rfl (lv_at hl9 5 rfl) ?_
              refine lv_bipush (v := 8) hx hb dL_follow_75 (by decide) ?_
              refine hp_iald B0 hw hg9 (by unfold vp_in; decide) dL_follow_77 ?_
              refine hp_c (v := (nI x9)) (rfl) ?_
              refine lv_lshr (v := (lN (hn / 2 ^ x9))) hx hb dL_follow_78 (shr_n (s := x9) (by omega) (by omega) rfl) ?_
              refine lv_lconst (v := lN 1) hx hb dL_follow_79 rfl ?_
              refine lv_land hx hb dL_follow_80 ?_
              refine hp_cl (v := (lN ((hn / 2 ^ x9) % 2))) (g_mask (s := 1) (p := 2) rfl (by omega) (by exact Nat.lt_of_le_of_lt (Nat.div_le_self _ _) (by omega))) ?_
              refine lv_lconst (v := lN 1) hx hb dL_follow_81 rfl ?_
              refine W.lcmp hx hb dL_follow_82 ?_
              refine lv_if_ne (tgt := 90) hx hb dL_follow_83 (by decide) (fun _ => ?_) (fun c9 => absurd c9 (lgc0 (hHB.z (by omega) hg)))
              refine lv_iconst (v := 0) hx hb dL_follow_90 (by decide) ?_
              refine lv_istore (lv' := [(6, .int 0), (5, .int (nI (pk x9))), (4, .int (bnd gl)), (0, .ref lb), (1, .ref lh), (2, .ref lr), (3, .ref lg)]) hx hb dL_follow_91 hl9 (by decide) rfl (fun ls hl9 => ?_)
              refine lv_iload hx hb dL_follow_93 (lv_at hl9 0 rfl) ?_
              refine lv_if_ne (tgt := 108) hx hb dL_follow_95 (by decide) (fun c9 => absurd (by decide) c9) (fun _ => ?_)
              refine lv_aload_n hx hb dL_follow_98 rfl (lv_at hl9 6 rfl) ?_
              refine lv_bipush (v := 8) hx hb dL_follow_99 (by decide) ?_
              refine hp_iald B0 hw hg9 (by unfold vp_in; decide) dL_follow_101 ?_
              refine hp_c (v := (nI x9)) (rfl) ?_
              refine lv_iload hx hb dL_follow_102 (lv_at hl9 2 rfl) ?_
              refine lv_icmp_lt (tgt := 108) hx hb dL_follow_104 (by decide) (fun c7 => ?_) (fun c7 => ?_)
              · refine lv_iload hx hb dL_follow_108 (lv_at hl9 0 rfl) ?_
                refine lv_if_eq (tgt := 124) hx hb dL_follow_110 (by decide) (fun _ => ?_) (fun c9 => absurd (by decide) c9)
                refine lv_aload_n hx hb dL_follow_124 rfl (lv_at hl9 6 rfl) ?_
                refine lv_bipush (v := 8) hx hb dL_follow_125 (by decide) ?_
                refine lv_dup2_11 hx hb dL_follow_127 rfl rfl ?_
                refine hp_iald B0 hw hg9 (by unfold vp_in; decide) dL_follow_128 ?_
                refine hp_c (v := (nI x9)) (rfl) ?_
                refine lv_iconst (v := 1) hx hb dL_follow_129 (by decide) ?_
                refine lv_iadd hx hb dL_follow_130 ?_
                refine hp_c (v := (nI (x9 + 1))) (nI_1 x9) ?_
                refine hp_iast B0 hw hS hg9 (by unfold vp_in; decide) dL_follow_131 (fun H locs f8 ef8 hw hS => ?_)
                rw [show (upd (g10r tk gl a n x9 c9) (8 : Int32).toNatClampNeg (nI (x9 + 1)) : Nat → Int32) = (g10r tk gl a n (x9 + 1) c9) from g10_8] at ef8
                have h10 : f8 lg = some (.inl (cI G, 10, .inl (g10r tk gl a n (x9 + 1) c9))) := by rw [ef8, va_up_self]
                refine lv_goto (tgt := 41) hx hb dL_follow_132 (by decide) ?_
                have hst9 : bStep a sa pk gh (bnd gl) c9 x9 gv9 = some (c9, (x9 + 1), gv9) := (by unfold bStep; rw [if_pos hxl, if_neg (fun h9 => h9.1 hg), if_neg (fun h9 => h9.2 c7)])
                have hsb := hB8.step hst9
                have h11 : f8 lr = some (.inl (cI G, 60, .inl (nf gv9))) := by rw [ef8, va_up_ne _ _ n_lr_lg]; exact hr9
                exact ih _ _ H locs ls ⟨c9, (x9 + 1), pk x9, gv9, (by rw [← hR9, show 240 - jj = (240 - (jj + 1)) + 1 by omega, bRun_some hst9]), hsb.1, (fun h9 => hB8.pkm (Nat.le_of_lt hsb.2) h9), (by have := hsb.2; omega), h11, h10, ((show hEq [lr, lg] f f9 from (hEq.mono hk9 (fun _ h9 => h9))).tr (show hEq [lr, lg] f9 f8 from (by rw [ef8]; exact hEq.up (List.mem_cons_of_mem _ List.mem_cons_self)))), rfl⟩ hw hS (lv_sub hl9 [1, 2, 3, 4, 5, 6] rfl)
              · have hst9 : bStep a sa pk gh (bnd gl) c9 x9 gv9 = none := (by unfold bStep; rw [if_pos hxl, if_neg (fun h9 => h9.1 hg), if_pos ⟨hg, c7⟩])
                exact hp_vret B0 hw hS hr ⟨Nat.le_of_ble_eq_true rfl, Nat.le_of_ble_eq_true rfl⟩ dL_follow_107 (⟨rfl, c9, x9, gv9, (by rw [← hR9, bRun_none hst9]), hB8, hr9, hg9, (show hEq [lr, lg] f f9 from (hEq.mono hk9 (fun _ h9 => h9)))⟩)
            · refine lv_aload_n hx hb dL_follow_71 rfl (lv_at hl9 3 rfl) ?_
              refine lv_iconst (v := 0) hx hb dL_follow_72 (by decide) ?_
              have h12 : f9 lh = some (.inl (cJ G, 1, .inr (.inl hh))) := (hEq.k hk9) _ _ k_lh (ninc n_lh_lr (ninc n_lh_lg nin0))
              refine hp_lald B0 hw h12 (by unfold vp_in; decide) dL_follow_73 ?_
              refine hp_cl (v := (lN hn)) (hh0) ?_
              refine lv_aload_n hx hb dL_follow_74 rfl (lv_at hl9 5 rfl) ?_
              refine lv_bipush (v := 8) hx hb dL_follow_75 (by decide) ?_
              refine hp_iald B0 hw hg9 (by unfold vp_in; decide) dL_follow_77 ?_
              refine hp_c (v := (nI x9)) (rfl) ?_
              refine lv_lshr (v := (lN (hn / 2 ^ x9))) hx hb dL_follow_78 (shr_n (s := x9) (by omega) (by omega) rfl) ?_
              refine lv_lconst (v := lN 1) hx hb dL_follow_79 rfl ?_
              refine lv_land hx hb dL_follow_80 ?_
              refine hp_cl (v := (lN ((hn / 2 ^ x9) % 2))) (g_mask (s := 1) (p := 2) rfl (by omega) (by exact Nat.lt_of_le_of_lt (Nat.div_le_self _ _) (by omega))) ?_
              refine lv_lconst (v := lN 1) hx hb dL_follow_81 rfl ?_
              refine W.lcmp hx hb dL_follow_82 ?_
              refine lv_if_ne (tgt := 90) hx hb dL_follow_83 (by decide) (fun c9 => absurd (lgc1 (hHB.o (by omega) hg)) c9) (fun _ => ?_)
              refine lv_iconst (v := 1) hx hb dL_follow_86 (by decide) ?_
              refine lv_goto (tgt := 91) hx hb dL_follow_87 (by decide) ?_
              refine lv_istore (lv' := [(6, .int 1), (5, .int (nI (pk x9))), (4, .int (bnd gl)), (0, .ref lb), (1, .ref lh), (2, .ref lr), (3, .ref lg)]) hx hb dL_follow_91 hl9 (by decide) rfl (fun ls hl9 => ?_)
              refine lv_iload hx hb dL_follow_93 (lv_at hl9 0 rfl) ?_
              refine lv_if_ne (tgt := 108) hx hb dL_follow_95 (by decide) (fun _ => ?_) (fun c9 => absurd c9 (by decide))
              refine lv_iload hx hb dL_follow_108 (lv_at hl9 0 rfl) ?_
              refine lv_if_eq (tgt := 124) hx hb dL_follow_110 (by decide) (fun c9 => absurd c9 (by decide)) (fun _ => ?_)
              refine lv_aload_n hx hb dL_follow_113 rfl (lv_at hl9 6 rfl) ?_
              refine lv_bipush (v := 8) hx hb dL_follow_114 (by decide) ?_
              refine hp_iald B0 hw hg9 (by unfold vp_in; decide) dL_follow_116 ?_
              refine hp_c (v := (nI x9)) (rfl) ?_
              refine lv_aload_n hx hb dL_follow_117 rfl (lv_at hl9 3 rfl) ?_
              refine lv_iload hx hb dL_follow_118 (lv_at hl9 1 rfl) ?_
              refine hp_iald B0 hw h5 (vp_in_nI (show pk x9 < 64 by omega) (by omega)) dL_follow_120 ?_
              refine hp_c (v := (nI (sa (pk x9)))) (nf_at (nI_clamp (by omega))) ?_
              refine lv_icmp_le (tgt := 135) hx hb dL_follow_121 (by decide) (fun c13 => ?_) (fun c13 => ?_)
              · refine lv_aload_n hx hb dL_follow_135 rfl (lv_at hl9 6 rfl) ?_
                refine lv_bipush (v := 8) hx hb dL_follow_136 (by decide) ?_
                refine hp_iald B0 hw hg9 (by unfold vp_in; decide) dL_follow_138 ?_
                refine hp_c (v := (nI x9)) (rfl) ?_
                refine lv_istore (lv' := [(7, .int (nI x9)), (6, .int 1), (5, .int (nI (pk x9))), (4, .int (bnd gl)), (0, .ref lb), (1, .ref lh), (2, .ref lr), (3, .ref lg)]) hx hb dL_follow_139 hl9 (by decide) rfl (fun ls hl9 => ?_)
                have hsx : sa (pk x9) = x9 := Nat.le_antisymm hq2 (by have h9 := (nI_leI (by omega) (by omega)).mp c13; exact h9)
                refine hp_for (nL := 8) (pc := 141) (fun i f8 lv8 => f8 = f9 ∧ fGap gh (sa (pk x9 + 1) - x9) x9 = fGap gh (sa (pk x9 + 1) - x9 - i) (x9 + i) ∧ lv8 = [(7, .int (nI (x9 + i))), (5, .int (nI (pk x9))), (4, .int (bnd gl)), (0, .ref lb), (1, .ref lh), (2, .ref lr), (3, .ref lg)]) (sa (pk x9 + 1) - x9) (fun i f8 lv8 H locs ls hi hI hw hS hl9 ih2 => ?_) (fun f8 lv8 H locs ls hI hw hS hl9 => ?_) (sa (pk x9 + 1) - x9) 0 (Nat.zero_add _) f9 _ _ _ ls ⟨rfl, rfl, rfl⟩ hw hS (lv_sub hl9 [0, 2, 3, 4, 5, 6, 7] rfl)
                · obtain ⟨ef8, eg8, el8⟩ := hI
                  rw [ef8] at hw
                  rw [el8] at hl9
                  refine lv_iload hx hb dL_follow_141 (lv_at hl9 0 rfl) ?_
                  refine lv_aload_n hx hb dL_follow_143 rfl (lv_at hl9 3 rfl) ?_
                  refine lv_iload hx hb dL_follow_144 (lv_at hl9 1 rfl) ?_
                  refine lv_iconst (v := 1) hx hb dL_follow_146 (by decide) ?_
                  refine lv_iadd hx hb dL_follow_147 ?_
                  refine hp_c (v := (nI (pk x9 + 1))) (nI_1 _) ?_
                  refine hp_iald B0 hw h5 (vp_in_nI (show pk x9 + 1 < 64 by omega) (by omega)) dL_follow_148 ?_
                  refine hp_c (v := (nI (sa (pk x9 + 1)))) (nf_at (nI_clamp (by omega))) ?_
                  refine lv_icmp_ge (tgt := 171) hx hb dL_follow_149 (by decide) (fun c9 => absurd c9 (nI_ge (by omega) (by omega))) (fun _ => ?_)
                  by_cases hg2 : gh (x9 + i) = 0
                  · refine lv_aload_n hx hb dL_follow_152 rfl (lv_at hl9 4 rfl) ?_
                    refine lv_iconst (v := 0) hx hb dL_follow_153 (by decide) ?_
                    refine hp_lald B0 hw h12 (by unfold vp_in; decide) dL_follow_154 ?_
                    refine hp_cl (v := (lN hn)) (hh0) ?_
                    refine lv_iload hx hb dL_follow_155 (lv_at hl9 0 rfl) ?_
                    refine lv_lshr (v := (lN (hn / 2 ^ (x9 + i)))) hx hb dL_follow_157 (shr_n (s := x9 + i) (by omega) (by omega) rfl) ?_
                    refine lv_lconst (v := lN 1) hx hb dL_follow_158 rfl ?_
                    refine lv_land hx hb dL_follow_159 ?_
                    refine hp_cl (v := (lN ((hn / 2 ^ (x9 + i)) % 2))) (g_mask (s := 1) (p := 2) rfl (by omega) (by exact Nat.lt_of_le_of_lt (Nat.div_le_self _ _) (by omega))) ?_
                    refine lv_lconst (v := lN 1) hx hb dL_follow_160 rfl ?_
                    refine W.lcmp hx hb dL_follow_161 ?_
                    refine lv_if_ne (tgt := 171) hx hb dL_follow_162 (by decide) (fun _ => ?_) (fun c9 => absurd c9 (lgc0 (hHB.z (by omega) hg2)))
                    have eg9 : fGap gh (sa (pk x9 + 1) - x9) x9 = x9 + i := fGap_r eg8 (by omega) hg2
                    refine lv_iload hx hb dL_follow_171 (lv_at hl9 0 rfl) ?_
                    refine lv_aload_n hx hb dL_follow_173 rfl (lv_at hl9 3 rfl) ?_
                    refine lv_iload hx hb dL_follow_174 (lv_at hl9 1 rfl) ?_
                    refine lv_iconst (v := 1) hx hb dL_follow_176 (by decide) ?_
                    refine lv_iadd hx hb dL_follow_177 ?_
                    refine hp_c (v := (nI (pk x9 + 1))) (nI_1 _) ?_
                    refine hp_iald B0 hw h5 (vp_in_nI (show pk x9 + 1 < 64 by omega) (by omega)) dL_follow_178 ?_
                    refine hp_c (v := (nI (sa (pk x9 + 1)))) (nf_at (nI_clamp (by omega))) ?_
                    refine lv_icmp_ne (tgt := 207) hx hb dL_follow_179 (by decide) (fun _ => ?_) (fun c9 => absurd c9 (fun h9 => by have h8 := (nI_eq (show x9 + i < 2 ^ 31 by omega) (show sa (pk x9 + 1) < 2 ^ 31 by omega)).mp h9; omega))
                    refine lv_iload hx hb dL_follow_207 (lv_at hl9 0 rfl) ?_
                    refine lv_iload hx hb dL_follow_209 (lv_at hl9 2 rfl) ?_
                    refine lv_icmp_ge (tgt := 225) hx hb dL_follow_211 (by decide) (fun c14 => ?_) (fun c14 => ?_)
                    · have hst9 : bStep a sa pk gh (bnd gl) c9 x9 gv9 = none := (by unfold bStep; rw [if_pos hxl, if_pos ⟨hg, hsx⟩, eg9, if_neg (show ¬ x9 + i = sa (pk x9 + 1) by omega), if_neg (fun h9 => absurd h9 (Int32.not_lt.mpr c14))])
                      exact hp_vret B0 hw hS hr ⟨Nat.le_of_ble_eq_true rfl, Nat.le_of_ble_eq_true rfl⟩ dL_follow_225 (⟨rfl, c9, x9, gv9, (by rw [← hR9, bRun_none hst9]), hB8, hr9, hg9, (show hEq [lr, lg] f f9 from (hEq.mono hk9 (fun _ h9 => h9)))⟩)
                    · refine lv_aload_n hx hb dL_follow_214 rfl (lv_at hl9 6 rfl) ?_
                      refine lv_bipush (v := 8) hx hb dL_follow_215 (by decide) ?_
                      refine lv_iload hx hb dL_follow_217 (lv_at hl9 0 rfl) ?_
                      refine lv_iconst (v := 1) hx hb dL_follow_219 (by decide) ?_
                      refine lv_iadd hx hb dL_follow_220 ?_
                      refine hp_c (v := (nI (x9 + i + 1))) (nI_1 (x9 + i)) ?_
                      refine hp_iast B0 hw hS hg9 (by unfold vp_in; decide) dL_follow_221 (fun H locs f15 ef15 hw hS => ?_)
                      rw [show (upd (g10r tk gl a n x9 c9) (8 : Int32).toNatClampNeg (nI (x9 + i + 1)) : Nat → Int32) = (g10r tk gl a n (x9 + i + 1) c9) from g10_8] at ef15
                      have h16 : f15 lg = some (.inl (cI G, 10, .inl (g10r tk gl a n (x9 + i + 1) c9))) := by rw [ef15, va_up_self]
                      refine lv_goto (tgt := 226) hx hb dL_follow_222 (by decide) ?_
                      refine lv_goto (tgt := 41) hx hb dL_follow_226 (by decide) ?_
                      have hst9 : bStep a sa pk gh (bnd gl) c9 x9 gv9 = some (c9, (x9 + i + 1), gv9) := (by unfold bStep; rw [if_pos hxl, if_pos ⟨hg, hsx⟩, eg9, if_neg (show ¬ x9 + i = sa (pk x9 + 1) by omega), if_pos (Int32.not_le.mp c14)])
                      have hsb := hB8.step hst9
                      have h17 : f15 lr = some (.inl (cI G, 60, .inl (nf gv9))) := by rw [ef15, va_up_ne _ _ n_lr_lg]; exact hr9
                      exact ih _ _ H locs ls ⟨c9, (x9 + i + 1), pk x9, gv9, (by rw [← hR9, show 240 - jj = (240 - (jj + 1)) + 1 by omega, bRun_some hst9]), hsb.1, (fun h9 => hB8.pkm (Nat.le_of_lt hsb.2) h9), (by have := hsb.2; omega), h17, h16, ((show hEq [lr, lg] f f9 from (hEq.mono hk9 (fun _ h9 => h9))).tr (show hEq [lr, lg] f9 f15 from (by rw [ef15]; exact hEq.up (List.mem_cons_of_mem _ List.mem_cons_self)))), rfl⟩ hw hS (lv_sub hl9 [1, 2, 3, 4, 5, 6] rfl)
                  · refine lv_aload_n hx hb dL_follow_152 rfl (lv_at hl9 4 rfl) ?_
                    refine lv_iconst (v := 0) hx hb dL_follow_153 (by decide) ?_
                    refine hp_lald B0 hw h12 (by unfold vp_in; decide) dL_follow_154 ?_
                    refine hp_cl (v := (lN hn)) (hh0) ?_
                    refine lv_iload hx hb dL_follow_155 (lv_at hl9 0 rfl) ?_
                    refine lv_lshr (v := (lN (hn / 2 ^ (x9 + i)))) hx hb dL_follow_157 (shr_n (s := x9 + i) (by omega) (by omega) rfl) ?_
                    refine lv_lconst (v := lN 1) hx hb dL_follow_158 rfl ?_
                    refine lv_land hx hb dL_follow_159 ?_
                    refine hp_cl (v := (lN ((hn / 2 ^ (x9 + i)) % 2))) (g_mask (s := 1) (p := 2) rfl (by omega) (by exact Nat.lt_of_le_of_lt (Nat.div_le_self _ _) (by omega))) ?_
                    refine lv_lconst (v := lN 1) hx hb dL_follow_160 rfl ?_
                    refine W.lcmp hx hb dL_follow_161 ?_
                    refine lv_if_ne (tgt := 171) hx hb dL_follow_162 (by decide) (fun c9 => absurd (lgc1 (hHB.o (by omega) hg2)) c9) (fun _ => ?_)
                    refine lv_iinc (v := (nI (x9 + (i + 1)))) (lv' := [(7, .int (nI (x9 + (i + 1)))), (5, .int (nI (pk x9))), (4, .int (bnd gl)), (0, .ref lb), (1, .ref lh), (2, .ref lr), (3, .ref lg)]) hx hb dL_follow_165 hl9 (k := 0) rfl (nI_1 (x9 + i)) (by decide) rfl (fun ls hl9 => ?_)
                    refine lv_goto (tgt := 141) hx hb dL_follow_168 (by decide) ?_
                    exact ih2 _ _ H locs ls ⟨rfl, (by rw [eg8, show sa (pk x9 + 1) - x9 - i = (sa (pk x9 + 1) - x9 - (i + 1)) + 1 by omega, fGap_s hg2]; rfl), rfl⟩ hw hS (lv_sub hl9 [0, 1, 2, 3, 4, 5, 6] rfl)
                · obtain ⟨ef8, eg8, el8⟩ := hI
                  rw [ef8] at hw
                  rw [el8] at hl9
                  rw [show x9 + (sa (pk x9 + 1) - x9) = sa (pk x9 + 1) by omega] at hl9 eg8
                  rw [Nat.sub_self] at eg8
                  have eg9 : fGap gh (sa (pk x9 + 1) - x9) x9 = sa (pk x9 + 1) := eg8
                  refine lv_iload hx hb dL_follow_141 (lv_at hl9 0 rfl) ?_
                  refine lv_aload_n hx hb dL_follow_143 rfl (lv_at hl9 3 rfl) ?_
                  refine lv_iload hx hb dL_follow_144 (lv_at hl9 1 rfl) ?_
                  refine lv_iconst (v := 1) hx hb dL_follow_146 (by decide) ?_
                  refine lv_iadd hx hb dL_follow_147 ?_
                  refine hp_c (v := (nI (pk x9 + 1))) (nI_1 _) ?_
                  refine hp_iald B0 hw h5 (vp_in_nI (show pk x9 + 1 < 64 by omega) (by omega)) dL_follow_148 ?_
                  refine hp_c (v := (nI (sa (pk x9 + 1)))) (nf_at (nI_clamp (by omega))) ?_
                  refine lv_icmp_ge (tgt := 171) hx hb dL_follow_149 (by decide) (fun _ => ?_) (fun c9 => absurd (nI_le (Nat.le_refl _) (by omega)) c9)
                  refine lv_iload hx hb dL_follow_171 (lv_at hl9 0 rfl) ?_
                  refine lv_aload_n hx hb dL_follow_173 rfl (lv_at hl9 3 rfl) ?_
                  refine lv_iload hx hb dL_follow_174 (lv_at hl9 1 rfl) ?_
                  refine lv_iconst (v := 1) hx hb dL_follow_176 (by decide) ?_
                  refine lv_iadd hx hb dL_follow_177 ?_
                  refine hp_c (v := (nI (pk x9 + 1))) (nI_1 _) ?_
                  refine hp_iald B0 hw h5 (vp_in_nI (show pk x9 + 1 < 64 by omega) (by omega)) dL_follow_178 ?_
                  refine hp_c (v := (nI (sa (pk x9 + 1)))) (nf_at (nI_clamp (by omega))) ?_
                  refine lv_icmp_ne (tgt := 207) hx hb dL_follow_179 (by decide) (fun c9 => absurd rfl c9) (fun _ => ?_)
                  refine lv_aload_n hx hb dL_follow_182 rfl (lv_at hl9 5 rfl) ?_
                  refine lv_aload_n hx hb dL_follow_183 rfl (lv_at hl9 6 rfl) ?_
                  refine lv_bipush (v := 9) hx hb dL_follow_184 (by decide) ?_
                  refine hp_iald B0 hw hg9 (by unfold vp_in; decide) dL_follow_186 ?_
                  refine hp_c (v := (nI c9)) (rfl) ?_
                  refine lv_iload hx hb dL_follow_187 (lv_at hl9 1 rfl) ?_
                  refine hp_iast B0 hw hS hr9 (vp_in_nI (show c9 < 60 by omega) (by omega)) dL_follow_189 (fun H locs f18 ef18 hw hS => ?_)
                  rw [show (upd (nf gv9) ((nI c9) : Int32).toNatClampNeg (nI (pk x9)) : Nat → Int32) = (nf (va_up gv9 c9 (pk x9))) from (by rw [nI_clamp (by omega), nf_up])] at ef18
                  have h19 : f18 lr = some (.inl (cI G, 60, .inl (nf (va_up gv9 c9 (pk x9))))) := by rw [ef18, va_up_self]
                  refine lv_aload_n hx hb dL_follow_190 rfl (lv_at hl9 6 rfl) ?_
                  refine lv_bipush (v := 9) hx hb dL_follow_191 (by decide) ?_
                  refine lv_dup2_11 hx hb dL_follow_193 rfl rfl ?_
                  have h20 : f18 lg = some (.inl (cI G, 10, .inl (g10r tk gl a n x9 c9))) := by rw [ef18, va_up_ne _ _ (Ne.symm n_lr_lg)]; exact hg9
                  refine hp_iald B0 hw h20 (by unfold vp_in; decide) dL_follow_194 ?_
                  refine hp_c (v := (nI c9)) (rfl) ?_
                  refine lv_iconst (v := 1) hx hb dL_follow_195 (by decide) ?_
                  refine lv_iadd hx hb dL_follow_196 ?_
                  refine hp_c (v := (nI (c9 + 1))) (nI_1 c9) ?_
                  refine hp_iast B0 hw hS h20 (by unfold vp_in; decide) dL_follow_197 (fun H locs f21 ef21 hw hS => ?_)
                  rw [show (upd (g10r tk gl a n x9 c9) (9 : Int32).toNatClampNeg (nI (c9 + 1)) : Nat → Int32) = (g10r tk gl a n x9 (c9 + 1)) from g10_9] at ef21
                  have h22 : f21 lg = some (.inl (cI G, 10, .inl (g10r tk gl a n x9 (c9 + 1)))) := by rw [ef21, va_up_self]
                  refine lv_aload_n hx hb dL_follow_198 rfl (lv_at hl9 6 rfl) ?_
                  refine lv_bipush (v := 8) hx hb dL_follow_199 (by decide) ?_
                  refine lv_iload hx hb dL_follow_201 (lv_at hl9 0 rfl) ?_
                  refine hp_iast B0 hw hS h22 (by unfold vp_in; decide) dL_follow_203 (fun H locs f23 ef23 hw hS => ?_)
                  rw [show (upd (g10r tk gl a n x9 (c9 + 1)) (8 : Int32).toNatClampNeg (nI (sa (pk x9 + 1))) : Nat → Int32) = (g10r tk gl a n (sa (pk x9 + 1)) (c9 + 1)) from g10_8] at ef23
                  have e24 : f23 = va_up f18 lg (some (.inl (cI G, 10, .inl (g10r tk gl a n (sa (pk x9 + 1)) (c9 + 1))))) := by rw [ef23, ef21, bx_uu]
                  have h25 : f23 lg = some (.inl (cI G, 10, .inl (g10r tk gl a n (sa (pk x9 + 1)) (c9 + 1)))) := by rw [ef23, va_up_self]
                  refine lv_goto (tgt := 226) hx hb dL_follow_204 (by decide) ?_
                  refine lv_goto (tgt := 41) hx hb dL_follow_226 (by decide) ?_
                  have hst9 : bStep a sa pk gh (bnd gl) c9 x9 gv9 = some ((c9 + 1), (sa (pk x9 + 1)), (va_up gv9 c9 (pk x9))) := (by unfold bStep; rw [if_pos hxl, if_pos ⟨hg, hsx⟩, eg9, if_pos rfl])
                  have hsb := hB8.step hst9
                  have h26 : f23 lr = some (.inl (cI G, 60, .inl (nf (va_up gv9 c9 (pk x9))))) := by rw [e24, va_up_ne _ _ n_lr_lg]; exact h19
                  exact ih _ _ H locs ls ⟨(c9 + 1), (sa (pk x9 + 1)), pk x9, (va_up gv9 c9 (pk x9)), (by rw [← hR9, show 240 - jj = (240 - (jj + 1)) + 1 by omega, bRun_some hst9]), hsb.1, (fun h9 => hB8.pkm (Nat.le_of_lt hsb.2) h9), (by have := hsb.2; omega), h26, h25, ((show hEq [lr, lg] f f9 from (hEq.mono hk9 (fun _ h9 => h9))).tr ((show hEq [lr, lg] f9 f18 from (by rw [ef18]; exact hEq.up List.mem_cons_self)).tr (show hEq [lr, lg] f18 f23 from (by rw [e24]; exact hEq.up (List.mem_cons_of_mem _ List.mem_cons_self))))), rfl⟩ hw hS (lv_sub hl9 [1, 2, 3, 4, 5, 6] rfl)
              · refine lv_aload_n hx hb dL_follow_124 rfl (lv_at hl9 6 rfl) ?_
                refine lv_bipush (v := 8) hx hb dL_follow_125 (by decide) ?_
                refine lv_dup2_11 hx hb dL_follow_127 rfl rfl ?_
                refine hp_iald B0 hw hg9 (by unfold vp_in; decide) dL_follow_128 ?_
                refine hp_c (v := (nI x9)) (rfl) ?_
                refine lv_iconst (v := 1) hx hb dL_follow_129 (by decide) ?_
                refine lv_iadd hx hb dL_follow_130 ?_
                refine hp_c (v := (nI (x9 + 1))) (nI_1 x9) ?_
                refine hp_iast B0 hw hS hg9 (by unfold vp_in; decide) dL_follow_131 (fun H locs f27 ef27 hw hS => ?_)
                rw [show (upd (g10r tk gl a n x9 c9) (8 : Int32).toNatClampNeg (nI (x9 + 1)) : Nat → Int32) = (g10r tk gl a n (x9 + 1) c9) from g10_8] at ef27
                have h28 : f27 lg = some (.inl (cI G, 10, .inl (g10r tk gl a n (x9 + 1) c9))) := by rw [ef27, va_up_self]
                refine lv_goto (tgt := 41) hx hb dL_follow_132 (by decide) ?_
                have hst9 : bStep a sa pk gh (bnd gl) c9 x9 gv9 = some (c9, (x9 + 1), gv9) := (by unfold bStep; rw [if_pos hxl, if_neg (fun h9 => c13 (by rw [h9.2]; exact nI_le (Nat.le_refl _) (by omega))), if_neg (fun h9 => hg h9.1)])
                have hsb := hB8.step hst9
                have h29 : f27 lr = some (.inl (cI G, 60, .inl (nf gv9))) := by rw [ef27, va_up_ne _ _ n_lr_lg]; exact hr9
                exact ih _ _ H locs ls ⟨c9, (x9 + 1), pk x9, gv9, (by rw [← hR9, show 240 - jj = (240 - (jj + 1)) + 1 by omega, bRun_some hst9]), hsb.1, (fun h9 => hB8.pkm (Nat.le_of_lt hsb.2) h9), (by have := hsb.2; omega), h29, h28, ((show hEq [lr, lg] f f9 from (hEq.mono hk9 (fun _ h9 => h9))).tr (show hEq [lr, lg] f9 f27 from (by rw [ef27]; exact hEq.up (List.mem_cons_of_mem _ List.mem_cons_self)))), rfl⟩ hw hS (lv_sub hl9 [1, 2, 3, 4, 5, 6] rfl)
      · obtain ⟨c9, x9, p9, gv9, hR9, hB8, hp9, hj9, hr9, hg9, hk9, el9⟩ := hI
        exact absurd hj9 (by have := hB8.2.2.2.2.2.1; omega)
    · refine lv_aload_n hx hb dL_follow_28 rfl (lv_at hl9 4 rfl) ?_
      refine lv_iconst (v := 5) hx hb dL_follow_29 (by decide) ?_
      refine hp_iald B0 hw k_lg (by unfold vp_in; decide) dL_follow_30 ?_
      refine hp_c (v := (gl 2)) (rfl) ?_
      refine lv_goto (tgt := 36) hx hb dL_follow_31 (by decide) ?_
      refine hp_c (v := (bnd gl)) (mn_nle c2) ?_
      refine lv_istore (lv' := [(4, .int (bnd gl)), (0, .ref lb), (1, .ref lh), (2, .ref lr), (3, .ref lg)]) hx hb dL_follow_36 hl9 (by decide) rfl (fun ls hl9 => ?_)
      refine lv_iconst (v := 0) hx hb dL_follow_38 (by decide) ?_
      refine lv_istore (lv' := [(5, .int 0), (4, .int (bnd gl)), (0, .ref lb), (1, .ref lh), (2, .ref lr), (3, .ref lg)]) hx hb dL_follow_39 hl9 (by decide) rfl (fun ls hl9 => ?_)
      refine hp_for (nL := 8) (pc := 41) (fun jj f9 lv9 => ∃ (c9 x9 p9 : Nat) (gv9 : Nat → Nat), bRun a sa pk gh (bnd gl) (240 - jj) c9 x9 gv9 = bRun a sa pk gh (bnd gl) 240 cg x gv ∧ BOK n a c9 x9 sa pk ∧ (x9 < a → p9 ≤ pk x9) ∧ jj ≤ x9 ∧ f9 lr = some (.inl (cI G, 60, .inl (nf gv9))) ∧ f9 lg = some (.inl (cI G, 10, .inl (g10r tk gl a n x9 c9))) ∧ hEq [lr, lg] f f9 ∧ lv9 = [(5, .int (nI p9)), (4, .int (bnd gl)), (0, .ref lb), (1, .ref lh), (2, .ref lr), (3, .ref lg)]) 61 (fun jj f9 lv9 H locs ls hjj hI hw hS hl9 ih => ?_) (fun f9 lv9 H locs ls hI hw hS hl9 => ?_) 61 0 (Nat.zero_add _) f _ _ _ ls ⟨cg, x, 0, gv, rfl, hB9, (fun _ => Nat.zero_le _), Nat.zero_le _, k_lr, k_lg, hEq.rf, rfl⟩ hw hS (lv_sub hl9 [0, 1, 2, 3, 4, 5] rfl)
      · obtain ⟨c9, x9, p9, gv9, hR9, hB8, hp9, hj9, hr9, hg9, hk9, el9⟩ := hI
        rw [el9] at hl9
        have hxa9 := hB8.2.2.2.2.2.1
        refine lv_aload_n hx hb dL_follow_41 rfl (lv_at hl9 5 rfl) ?_
        refine lv_bipush (v := 8) hx hb dL_follow_42 (by decide) ?_
        refine hp_iald B0 hw hg9 (by unfold vp_in; decide) dL_follow_44 ?_
        refine hp_c (v := (nI x9)) (rfl) ?_
        refine lv_aload_n hx hb dL_follow_45 rfl (lv_at hl9 5 rfl) ?_
        refine lv_bipush (v := 6) hx hb dL_follow_46 (by decide) ?_
        refine hp_iald B0 hw hg9 (by unfold vp_in; decide) dL_follow_48 ?_
        refine hp_c (v := (nI a)) (rfl) ?_
        refine lv_icmp_ge (tgt := 229) hx hb dL_follow_49 (by decide) (fun c30 => ?_) (fun c30 => ?_)
        · have hst9 : bStep a sa pk gh (bnd gl) c9 x9 gv9 = none := (by unfold bStep; rw [if_neg (fun h9 => absurd h9 (Nat.not_lt.mpr (by have h8 := (nI_leI (by omega) (by omega)).mp c30; exact h8)))])
          exact hp_vret B0 hw hS hr ⟨Nat.le_of_ble_eq_true rfl, Nat.le_of_ble_eq_true rfl⟩ dL_follow_229 (⟨rfl, c9, x9, gv9, (by rw [← hR9, bRun_none hst9]), hB8, hr9, hg9, (show hEq [lr, lg] f f9 from (hEq.mono hk9 (fun _ h9 => h9)))⟩)
        · have hxl : x9 < a := Nat.lt_of_not_le (fun h9 => c30 (nI_le h9 (by omega)))
          obtain ⟨hq1, hq2, hq3⟩ := hB8.2.2.2.2.1 x9 hxl
          have hp8 := hp9 hxl
          have hn60 := hB8.1
          have hs1 := hB8.sle (i := pk x9 + 1) (by omega)
          have hs0 := hB8.sle (i := pk x9) (by omega)
          have hc60 := (hB8.c60 hxl).1
          refine hp_for (nL := 8) (pc := 52) (fun i f8 lv8 => f8 = f9 ∧ lv8 = [(5, .int (nI (p9 + i))), (4, .int (bnd gl)), (0, .ref lb), (1, .ref lh), (2, .ref lr), (3, .ref lg)]) (pk x9 - p9) (fun i f8 lv8 H locs ls hi hI hw hS hl9 ih2 => ?_) (fun f8 lv8 H locs ls hI hw hS hl9 => ?_) (pk x9 - p9) 0 (Nat.zero_add _) f9 _ _ _ ls ⟨rfl, rfl⟩ hw hS (lv_sub hl9 [0, 1, 2, 3, 4, 5] rfl)
          · obtain ⟨ef8, el8⟩ := hI
            rw [ef8] at hw
            rw [el8] at hl9
            have hs2 := (hB8.mono (p9 + i + 1) (pk x9) (by omega) (by omega)).1
            have hs3 := hB8.sle (i := p9 + i + 1) (by omega)
            refine lv_aload_n hx hb dL_follow_52 rfl (lv_at hl9 2 rfl) ?_
            refine lv_iload hx hb dL_follow_53 (lv_at hl9 0 rfl) ?_
            refine lv_iconst (v := 1) hx hb dL_follow_55 (by decide) ?_
            refine lv_iadd hx hb dL_follow_56 ?_
            refine hp_c (v := (nI (p9 + i + 1))) (nI_1 _) ?_
            have h31 : f9 lb = some (.inl (cI G, 64, .inl (nf sa))) := (hEq.k hk9) _ _ k_lb (ninc n_lb_lr (ninc n_lb_lg nin0))
            refine hp_iald B0 hw h31 (vp_in_nI (show p9 + i + 1 < 64 by omega) (by omega)) dL_follow_57 ?_
            refine hp_c (v := (nI (sa (p9 + i + 1)))) (nf_at (nI_clamp (by omega))) ?_
            refine lv_aload_n hx hb dL_follow_58 rfl (lv_at hl9 5 rfl) ?_
            refine lv_bipush (v := 8) hx hb dL_follow_59 (by decide) ?_
            refine hp_iald B0 hw hg9 (by unfold vp_in; decide) dL_follow_61 ?_
            refine hp_c (v := (nI x9)) (rfl) ?_
            refine lv_icmp_gt (tgt := 71) hx hb dL_follow_62 (by decide) (fun c9 => absurd c9 (nI_nlt (Nat.le_trans hs2 hq2) (by omega))) (fun _ => ?_)
            refine lv_iinc (v := (nI (p9 + (i + 1)))) (lv' := [(5, .int (nI (p9 + (i + 1)))), (4, .int (bnd gl)), (0, .ref lb), (1, .ref lh), (2, .ref lr), (3, .ref lg)]) hx hb dL_follow_65 hl9 (k := 0) rfl (nI_1 (p9 + i)) (by decide) rfl (fun ls hl9 => ?_)
            refine lv_goto (tgt := 52) hx hb dL_follow_68 (by decide) ?_
            exact ih2 _ _ H locs ls ⟨rfl, rfl⟩ hw hS (lv_sub hl9 [0, 1, 2, 3, 4, 5] rfl)
          · obtain ⟨ef8, el8⟩ := hI
            rw [ef8] at hw
            rw [el8] at hl9
            rw [show p9 + (pk x9 - p9) = pk x9 by omega] at hl9
            refine lv_aload_n hx hb dL_follow_52 rfl (lv_at hl9 2 rfl) ?_
            refine lv_iload hx hb dL_follow_53 (lv_at hl9 0 rfl) ?_
            refine lv_iconst (v := 1) hx hb dL_follow_55 (by decide) ?_
            refine lv_iadd hx hb dL_follow_56 ?_
            refine hp_c (v := (nI (pk x9 + 1))) (nI_1 _) ?_
            have h32 : f9 lb = some (.inl (cI G, 64, .inl (nf sa))) := (hEq.k hk9) _ _ k_lb (ninc n_lb_lr (ninc n_lb_lg nin0))
            refine hp_iald B0 hw h32 (vp_in_nI (show pk x9 + 1 < 64 by omega) (by omega)) dL_follow_57 ?_
            refine hp_c (v := (nI (sa (pk x9 + 1)))) (nf_at (nI_clamp (by omega))) ?_
            refine lv_aload_n hx hb dL_follow_58 rfl (lv_at hl9 5 rfl) ?_
            refine lv_bipush (v := 8) hx hb dL_follow_59 (by decide) ?_
            refine hp_iald B0 hw hg9 (by unfold vp_in; decide) dL_follow_61 ?_
            refine hp_c (v := (nI x9)) (rfl) ?_
            refine lv_icmp_gt (tgt := 71) hx hb dL_follow_62 (by decide) (fun _ => ?_) (fun c9 => absurd (nI_lt (by omega) (by omega)) c9)
            by_cases hg : gh x9 = 0
            · refine lv_aload_n hx hb dL_follow_71 rfl (lv_at hl9 3 rfl) ?_
              refine lv_iconst (v := 0) hx hb dL_follow_72 (by decide) ?_
              have h33 : f9 lh = some (.inl (cJ G, 1, .inr (.inl hh))) := (hEq.k hk9) _ _ k_lh (ninc n_lh_lr (ninc n_lh_lg nin0))
              refine hp_lald B0 hw h33 (by unfold vp_in; decide) dL_follow_73 ?_
              refine hp_cl (v := (lN hn)) (hh0) ?_
              refine lv_aload_n hx hb dL_follow_74 rfl (lv_at hl9 5 rfl) ?_
              refine lv_bipush (v := 8) hx hb dL_follow_75 (by decide) ?_
              refine hp_iald B0 hw hg9 (by unfold vp_in; decide) dL_follow_77 ?_
              refine hp_c (v := (nI x9)) (rfl) ?_
              refine lv_lshr (v := (lN (hn / 2 ^ x9))) hx hb dL_follow_78 (shr_n (s := x9) (by omega) (by omega) rfl) ?_
              refine lv_lconst (v := lN 1) hx hb dL_follow_79 rfl ?_
              refine lv_land hx hb dL_follow_80 ?_
              refine hp_cl (v := (lN ((hn / 2 ^ x9) % 2))) (g_mask (s := 1) (p := 2) rfl (by omega) (by exact Nat.lt_of_le_of_lt (Nat.div_le_self _ _) (by omega))) ?_
              refine lv_lconst (v := lN 1) hx hb dL_follow_81 rfl ?_
              refine W.lcmp hx hb dL_follow_82 ?_
              refine lv_if_ne (tgt := 90) hx hb dL_follow_83 (by decide) (fun _ => ?_) (fun c9 => absurd c9 (lgc0 (hHB.z (by omega) hg)))
              refine lv_iconst (v := 0) hx hb dL_follow_90 (by decide) ?_
              refine lv_istore (lv' := [(6, .int 0), (5, .int (nI (pk x9))), (4, .int (bnd gl)), (0, .ref lb), (1, .ref lh), (2, .ref lr), (3, .ref lg)]) hx hb dL_follow_91 hl9 (by decide) rfl (fun ls hl9 => ?_)
              refine lv_iload hx hb dL_follow_93 (lv_at hl9 0 rfl) ?_
              refine lv_if_ne (tgt := 108) hx hb dL_follow_95 (by decide) (fun c9 => absurd (by decide) c9) (fun _ => ?_)
              refine lv_aload_n hx hb dL_follow_98 rfl (lv_at hl9 6 rfl) ?_
              refine lv_bipush (v := 8) hx hb dL_follow_99 (by decide) ?_
              refine hp_iald B0 hw hg9 (by unfold vp_in; decide) dL_follow_101 ?_
              refine hp_c (v := (nI x9)) (rfl) ?_
              refine lv_iload hx hb dL_follow_102 (lv_at hl9 2 rfl) ?_
              refine lv_icmp_lt (tgt := 108) hx hb dL_follow_104 (by decide) (fun c34 => ?_) (fun c34 => ?_)
              · refine lv_iload hx hb dL_follow_108 (lv_at hl9 0 rfl) ?_
                refine lv_if_eq (tgt := 124) hx hb dL_follow_110 (by decide) (fun _ => ?_) (fun c9 => absurd (by decide) c9)
                refine lv_aload_n hx hb dL_follow_124 rfl (lv_at hl9 6 rfl) ?_
                refine lv_bipush (v := 8) hx hb dL_follow_125 (by decide) ?_
                refine lv_dup2_11 hx hb dL_follow_127 rfl rfl ?_
                refine hp_iald B0 hw hg9 (by unfold vp_in; decide) dL_follow_128 ?_
                refine hp_c (v := (nI x9)) (rfl) ?_
                refine lv_iconst (v := 1) hx hb dL_follow_129 (by decide) ?_
                refine lv_iadd hx hb dL_follow_130 ?_
                refine hp_c (v := (nI (x9 + 1))) (nI_1 x9) ?_
                refine hp_iast B0 hw hS hg9 (by unfold vp_in; decide) dL_follow_131 (fun H locs f35 ef35 hw hS => ?_)
                rw [show (upd (g10r tk gl a n x9 c9) (8 : Int32).toNatClampNeg (nI (x9 + 1)) : Nat → Int32) = (g10r tk gl a n (x9 + 1) c9) from g10_8] at ef35
                have h36 : f35 lg = some (.inl (cI G, 10, .inl (g10r tk gl a n (x9 + 1) c9))) := by rw [ef35, va_up_self]
                refine lv_goto (tgt := 41) hx hb dL_follow_132 (by decide) ?_
                have hst9 : bStep a sa pk gh (bnd gl) c9 x9 gv9 = some (c9, (x9 + 1), gv9) := (by unfold bStep; rw [if_pos hxl, if_neg (fun h9 => h9.1 hg), if_neg (fun h9 => h9.2 c34)])
                have hsb := hB8.step hst9
                have h37 : f35 lr = some (.inl (cI G, 60, .inl (nf gv9))) := by rw [ef35, va_up_ne _ _ n_lr_lg]; exact hr9
                exact ih _ _ H locs ls ⟨c9, (x9 + 1), pk x9, gv9, (by rw [← hR9, show 240 - jj = (240 - (jj + 1)) + 1 by omega, bRun_some hst9]), hsb.1, (fun h9 => hB8.pkm (Nat.le_of_lt hsb.2) h9), (by have := hsb.2; omega), h37, h36, ((show hEq [lr, lg] f f9 from (hEq.mono hk9 (fun _ h9 => h9))).tr (show hEq [lr, lg] f9 f35 from (by rw [ef35]; exact hEq.up (List.mem_cons_of_mem _ List.mem_cons_self)))), rfl⟩ hw hS (lv_sub hl9 [1, 2, 3, 4, 5, 6] rfl)
              · have hst9 : bStep a sa pk gh (bnd gl) c9 x9 gv9 = none := (by unfold bStep; rw [if_pos hxl, if_neg (fun h9 => h9.1 hg), if_pos ⟨hg, c34⟩])
                exact hp_vret B0 hw hS hr ⟨Nat.le_of_ble_eq_true rfl, Nat.le_of_ble_eq_true rfl⟩ dL_follow_107 (⟨rfl, c9, x9, gv9, (by rw [← hR9, bRun_none hst9]), hB8, hr9, hg9, (show hEq [lr, lg] f f9 from (hEq.mono hk9 (fun _ h9 => h9)))⟩)
            · refine lv_aload_n hx hb dL_follow_71 rfl (lv_at hl9 3 rfl) ?_
              refine lv_iconst (v := 0) hx hb dL_follow_72 (by decide) ?_
              have h38 : f9 lh = some (.inl (cJ G, 1, .inr (.inl hh))) := (hEq.k hk9) _ _ k_lh (ninc n_lh_lr (ninc n_lh_lg nin0))
              refine hp_lald B0 hw h38 (by unfold vp_in; decide) dL_follow_73 ?_
              refine hp_cl (v := (lN hn)) (hh0) ?_
              refine lv_aload_n hx hb dL_follow_74 rfl (lv_at hl9 5 rfl) ?_
              refine lv_bipush (v := 8) hx hb dL_follow_75 (by decide) ?_
              refine hp_iald B0 hw hg9 (by unfold vp_in; decide) dL_follow_77 ?_
              refine hp_c (v := (nI x9)) (rfl) ?_
              refine lv_lshr (v := (lN (hn / 2 ^ x9))) hx hb dL_follow_78 (shr_n (s := x9) (by omega) (by omega) rfl) ?_
              refine lv_lconst (v := lN 1) hx hb dL_follow_79 rfl ?_
              refine lv_land hx hb dL_follow_80 ?_
              refine hp_cl (v := (lN ((hn / 2 ^ x9) % 2))) (g_mask (s := 1) (p := 2) rfl (by omega) (by exact Nat.lt_of_le_of_lt (Nat.div_le_self _ _) (by omega))) ?_
              refine lv_lconst (v := lN 1) hx hb dL_follow_81 rfl ?_
              refine W.lcmp hx hb dL_follow_82 ?_
              refine lv_if_ne (tgt := 90) hx hb dL_follow_83 (by decide) (fun c9 => absurd (lgc1 (hHB.o (by omega) hg)) c9) (fun _ => ?_)
              refine lv_iconst (v := 1) hx hb dL_follow_86 (by decide) ?_
              refine lv_goto (tgt := 91) hx hb dL_follow_87 (by decide) ?_
              refine lv_istore (lv' := [(6, .int 1), (5, .int (nI (pk x9))), (4, .int (bnd gl)), (0, .ref lb), (1, .ref lh), (2, .ref lr), (3, .ref lg)]) hx hb dL_follow_91 hl9 (by decide) rfl (fun ls hl9 => ?_)
              refine lv_iload hx hb dL_follow_93 (lv_at hl9 0 rfl) ?_
              refine lv_if_ne (tgt := 108) hx hb dL_follow_95 (by decide) (fun _ => ?_) (fun c9 => absurd c9 (by decide))
              refine lv_iload hx hb dL_follow_108 (lv_at hl9 0 rfl) ?_
              refine lv_if_eq (tgt := 124) hx hb dL_follow_110 (by decide) (fun c9 => absurd c9 (by decide)) (fun _ => ?_)
              refine lv_aload_n hx hb dL_follow_113 rfl (lv_at hl9 6 rfl) ?_
              refine lv_bipush (v := 8) hx hb dL_follow_114 (by decide) ?_
              refine hp_iald B0 hw hg9 (by unfold vp_in; decide) dL_follow_116 ?_
              refine hp_c (v := (nI x9)) (rfl) ?_
              refine lv_aload_n hx hb dL_follow_117 rfl (lv_at hl9 3 rfl) ?_
              refine lv_iload hx hb dL_follow_118 (lv_at hl9 1 rfl) ?_
              refine hp_iald B0 hw h32 (vp_in_nI (show pk x9 < 64 by omega) (by omega)) dL_follow_120 ?_
              refine hp_c (v := (nI (sa (pk x9)))) (nf_at (nI_clamp (by omega))) ?_
              refine lv_icmp_le (tgt := 135) hx hb dL_follow_121 (by decide) (fun c39 => ?_) (fun c39 => ?_)
              · refine lv_aload_n hx hb dL_follow_135 rfl (lv_at hl9 6 rfl) ?_
                refine lv_bipush (v := 8) hx hb dL_follow_136 (by decide) ?_
                refine hp_iald B0 hw hg9 (by unfold vp_in; decide) dL_follow_138 ?_
                refine hp_c (v := (nI x9)) (rfl) ?_
                refine lv_istore (lv' := [(7, .int (nI x9)), (6, .int 1), (5, .int (nI (pk x9))), (4, .int (bnd gl)), (0, .ref lb), (1, .ref lh), (2, .ref lr), (3, .ref lg)]) hx hb dL_follow_139 hl9 (by decide) rfl (fun ls hl9 => ?_)
                have hsx : sa (pk x9) = x9 := Nat.le_antisymm hq2 (by have h9 := (nI_leI (by omega) (by omega)).mp c39; exact h9)
                refine hp_for (nL := 8) (pc := 141) (fun i f8 lv8 => f8 = f9 ∧ fGap gh (sa (pk x9 + 1) - x9) x9 = fGap gh (sa (pk x9 + 1) - x9 - i) (x9 + i) ∧ lv8 = [(7, .int (nI (x9 + i))), (5, .int (nI (pk x9))), (4, .int (bnd gl)), (0, .ref lb), (1, .ref lh), (2, .ref lr), (3, .ref lg)]) (sa (pk x9 + 1) - x9) (fun i f8 lv8 H locs ls hi hI hw hS hl9 ih2 => ?_) (fun f8 lv8 H locs ls hI hw hS hl9 => ?_) (sa (pk x9 + 1) - x9) 0 (Nat.zero_add _) f9 _ _ _ ls ⟨rfl, rfl, rfl⟩ hw hS (lv_sub hl9 [0, 2, 3, 4, 5, 6, 7] rfl)
                · obtain ⟨ef8, eg8, el8⟩ := hI
                  rw [ef8] at hw
                  rw [el8] at hl9
                  refine lv_iload hx hb dL_follow_141 (lv_at hl9 0 rfl) ?_
                  refine lv_aload_n hx hb dL_follow_143 rfl (lv_at hl9 3 rfl) ?_
                  refine lv_iload hx hb dL_follow_144 (lv_at hl9 1 rfl) ?_
                  refine lv_iconst (v := 1) hx hb dL_follow_146 (by decide) ?_
                  refine lv_iadd hx hb dL_follow_147 ?_
                  refine hp_c (v := (nI (pk x9 + 1))) (nI_1 _) ?_
                  refine hp_iald B0 hw h32 (vp_in_nI (show pk x9 + 1 < 64 by omega) (by omega)) dL_follow_148 ?_
                  refine hp_c (v := (nI (sa (pk x9 + 1)))) (nf_at (nI_clamp (by omega))) ?_
                  refine lv_icmp_ge (tgt := 171) hx hb dL_follow_149 (by decide) (fun c9 => absurd c9 (nI_ge (by omega) (by omega))) (fun _ => ?_)
                  by_cases hg2 : gh (x9 + i) = 0
                  · refine lv_aload_n hx hb dL_follow_152 rfl (lv_at hl9 4 rfl) ?_
                    refine lv_iconst (v := 0) hx hb dL_follow_153 (by decide) ?_
                    refine hp_lald B0 hw h38 (by unfold vp_in; decide) dL_follow_154 ?_
                    refine hp_cl (v := (lN hn)) (hh0) ?_
                    refine lv_iload hx hb dL_follow_155 (lv_at hl9 0 rfl) ?_
                    refine lv_lshr (v := (lN (hn / 2 ^ (x9 + i)))) hx hb dL_follow_157 (shr_n (s := x9 + i) (by omega) (by omega) rfl) ?_
                    refine lv_lconst (v := lN 1) hx hb dL_follow_158 rfl ?_
                    refine lv_land hx hb dL_follow_159 ?_
                    refine hp_cl (v := (lN ((hn / 2 ^ (x9 + i)) % 2))) (g_mask (s := 1) (p := 2) rfl (by omega) (by exact Nat.lt_of_le_of_lt (Nat.div_le_self _ _) (by omega))) ?_
                    refine lv_lconst (v := lN 1) hx hb dL_follow_160 rfl ?_
                    refine W.lcmp hx hb dL_follow_161 ?_
                    refine lv_if_ne (tgt := 171) hx hb dL_follow_162 (by decide) (fun _ => ?_) (fun c9 => absurd c9 (lgc0 (hHB.z (by omega) hg2)))
                    have eg9 : fGap gh (sa (pk x9 + 1) - x9) x9 = x9 + i := fGap_r eg8 (by omega) hg2
                    refine lv_iload hx hb dL_follow_171 (lv_at hl9 0 rfl) ?_
                    refine lv_aload_n hx hb dL_follow_173 rfl (lv_at hl9 3 rfl) ?_
                    refine lv_iload hx hb dL_follow_174 (lv_at hl9 1 rfl) ?_
                    refine lv_iconst (v := 1) hx hb dL_follow_176 (by decide) ?_
                    refine lv_iadd hx hb dL_follow_177 ?_
                    refine hp_c (v := (nI (pk x9 + 1))) (nI_1 _) ?_
                    refine hp_iald B0 hw h32 (vp_in_nI (show pk x9 + 1 < 64 by omega) (by omega)) dL_follow_178 ?_
                    refine hp_c (v := (nI (sa (pk x9 + 1)))) (nf_at (nI_clamp (by omega))) ?_
                    refine lv_icmp_ne (tgt := 207) hx hb dL_follow_179 (by decide) (fun _ => ?_) (fun c9 => absurd c9 (fun h9 => by have h8 := (nI_eq (show x9 + i < 2 ^ 31 by omega) (show sa (pk x9 + 1) < 2 ^ 31 by omega)).mp h9; omega))
                    refine lv_iload hx hb dL_follow_207 (lv_at hl9 0 rfl) ?_
                    refine lv_iload hx hb dL_follow_209 (lv_at hl9 2 rfl) ?_
                    refine lv_icmp_ge (tgt := 225) hx hb dL_follow_211 (by decide) (fun c40 => ?_) (fun c40 => ?_)
                    · have hst9 : bStep a sa pk gh (bnd gl) c9 x9 gv9 = none := (by unfold bStep; rw [if_pos hxl, if_pos ⟨hg, hsx⟩, eg9, if_neg (show ¬ x9 + i = sa (pk x9 + 1) by omega), if_neg (fun h9 => absurd h9 (Int32.not_lt.mpr c40))])
                      exact hp_vret B0 hw hS hr ⟨Nat.le_of_ble_eq_true rfl, Nat.le_of_ble_eq_true rfl⟩ dL_follow_225 (⟨rfl, c9, x9, gv9, (by rw [← hR9, bRun_none hst9]), hB8, hr9, hg9, (show hEq [lr, lg] f f9 from (hEq.mono hk9 (fun _ h9 => h9)))⟩)
                    · refine lv_aload_n hx hb dL_follow_214 rfl (lv_at hl9 6 rfl) ?_
                      refine lv_bipush (v := 8) hx hb dL_follow_215 (by decide) ?_
                      refine lv_iload hx hb dL_follow_217 (lv_at hl9 0 rfl) ?_
                      refine lv_iconst (v := 1) hx hb dL_follow_219 (by decide) ?_
                      refine lv_iadd hx hb dL_follow_220 ?_
                      refine hp_c (v := (nI (x9 + i + 1))) (nI_1 (x9 + i)) ?_
                      refine hp_iast B0 hw hS hg9 (by unfold vp_in; decide) dL_follow_221 (fun H locs f41 ef41 hw hS => ?_)
                      rw [show (upd (g10r tk gl a n x9 c9) (8 : Int32).toNatClampNeg (nI (x9 + i + 1)) : Nat → Int32) = (g10r tk gl a n (x9 + i + 1) c9) from g10_8] at ef41
                      have h42 : f41 lg = some (.inl (cI G, 10, .inl (g10r tk gl a n (x9 + i + 1) c9))) := by rw [ef41, va_up_self]
                      refine lv_goto (tgt := 226) hx hb dL_follow_222 (by decide) ?_
                      refine lv_goto (tgt := 41) hx hb dL_follow_226 (by decide) ?_
                      have hst9 : bStep a sa pk gh (bnd gl) c9 x9 gv9 = some (c9, (x9 + i + 1), gv9) := (by unfold bStep; rw [if_pos hxl, if_pos ⟨hg, hsx⟩, eg9, if_neg (show ¬ x9 + i = sa (pk x9 + 1) by omega), if_pos (Int32.not_le.mp c40)])
                      have hsb := hB8.step hst9
                      have h43 : f41 lr = some (.inl (cI G, 60, .inl (nf gv9))) := by rw [ef41, va_up_ne _ _ n_lr_lg]; exact hr9
                      exact ih _ _ H locs ls ⟨c9, (x9 + i + 1), pk x9, gv9, (by rw [← hR9, show 240 - jj = (240 - (jj + 1)) + 1 by omega, bRun_some hst9]), hsb.1, (fun h9 => hB8.pkm (Nat.le_of_lt hsb.2) h9), (by have := hsb.2; omega), h43, h42, ((show hEq [lr, lg] f f9 from (hEq.mono hk9 (fun _ h9 => h9))).tr (show hEq [lr, lg] f9 f41 from (by rw [ef41]; exact hEq.up (List.mem_cons_of_mem _ List.mem_cons_self)))), rfl⟩ hw hS (lv_sub hl9 [1, 2, 3, 4, 5, 6] rfl)
                  · refine lv_aload_n hx hb dL_follow_152 rfl (lv_at hl9 4 rfl) ?_
                    refine lv_iconst (v := 0) hx hb dL_follow_153 (by decide) ?_
                    refine hp_lald B0 hw h38 (by unfold vp_in; decide) dL_follow_154 ?_
                    refine hp_cl (v := (lN hn)) (hh0) ?_
                    refine lv_iload hx hb dL_follow_155 (lv_at hl9 0 rfl) ?_
                    refine lv_lshr (v := (lN (hn / 2 ^ (x9 + i)))) hx hb dL_follow_157 (shr_n (s := x9 + i) (by omega) (by omega) rfl) ?_
                    refine lv_lconst (v := lN 1) hx hb dL_follow_158 rfl ?_
                    refine lv_land hx hb dL_follow_159 ?_
                    refine hp_cl (v := (lN ((hn / 2 ^ (x9 + i)) % 2))) (g_mask (s := 1) (p := 2) rfl (by omega) (by exact Nat.lt_of_le_of_lt (Nat.div_le_self _ _) (by omega))) ?_
                    refine lv_lconst (v := lN 1) hx hb dL_follow_160 rfl ?_
                    refine W.lcmp hx hb dL_follow_161 ?_
                    refine lv_if_ne (tgt := 171) hx hb dL_follow_162 (by decide) (fun c9 => absurd (lgc1 (hHB.o (by omega) hg2)) c9) (fun _ => ?_)
                    refine lv_iinc (v := (nI (x9 + (i + 1)))) (lv' := [(7, .int (nI (x9 + (i + 1)))), (5, .int (nI (pk x9))), (4, .int (bnd gl)), (0, .ref lb), (1, .ref lh), (2, .ref lr), (3, .ref lg)]) hx hb dL_follow_165 hl9 (k := 0) rfl (nI_1 (x9 + i)) (by decide) rfl (fun ls hl9 => ?_)
                    refine lv_goto (tgt := 141) hx hb dL_follow_168 (by decide) ?_
                    exact ih2 _ _ H locs ls ⟨rfl, (by rw [eg8, show sa (pk x9 + 1) - x9 - i = (sa (pk x9 + 1) - x9 - (i + 1)) + 1 by omega, fGap_s hg2]; rfl), rfl⟩ hw hS (lv_sub hl9 [0, 1, 2, 3, 4, 5, 6] rfl)
                · obtain ⟨ef8, eg8, el8⟩ := hI
                  rw [ef8] at hw
                  rw [el8] at hl9
                  rw [show x9 + (sa (pk x9 + 1) - x9) = sa (pk x9 + 1) by omega] at hl9 eg8
                  rw [Nat.sub_self] at eg8
                  have eg9 : fGap gh (sa (pk x9 + 1) - x9) x9 = sa (pk x9 + 1) := eg8
                  refine lv_iload hx hb dL_follow_141 (lv_at hl9 0 rfl) ?_
                  refine lv_aload_n hx hb dL_follow_143 rfl (lv_at hl9 3 rfl) ?_
                  refine lv_iload hx hb dL_follow_144 (lv_at hl9 1 rfl) ?_
                  refine lv_iconst (v := 1) hx hb dL_follow_146 (by decide) ?_
                  refine lv_iadd hx hb dL_follow_147 ?_
                  refine hp_c (v := (nI (pk x9 + 1))) (nI_1 _) ?_
                  refine hp_iald B0 hw h32 (vp_in_nI (show pk x9 + 1 < 64 by omega) (by omega)) dL_follow_148 ?_
                  refine hp_c (v := (nI (sa (pk x9 + 1)))) (nf_at (nI_clamp (by omega))) ?_
                  refine lv_icmp_ge (tgt := 171) hx hb dL_follow_149 (by decide) (fun _ => ?_) (fun c9 => absurd (nI_le (Nat.le_refl _) (by omega)) c9)
                  refine lv_iload hx hb dL_follow_171 (lv_at hl9 0 rfl) ?_
                  refine lv_aload_n hx hb dL_follow_173 rfl (lv_at hl9 3 rfl) ?_
                  refine lv_iload hx hb dL_follow_174 (lv_at hl9 1 rfl) ?_
                  refine lv_iconst (v := 1) hx hb dL_follow_176 (by decide) ?_
                  refine lv_iadd hx hb dL_follow_177 ?_
                  refine hp_c (v := (nI (pk x9 + 1))) (nI_1 _) ?_
                  refine hp_iald B0 hw h32 (vp_in_nI (show pk x9 + 1 < 64 by omega) (by omega)) dL_follow_178 ?_
                  refine hp_c (v := (nI (sa (pk x9 + 1)))) (nf_at (nI_clamp (by omega))) ?_
                  refine lv_icmp_ne (tgt := 207) hx hb dL_follow_179 (by decide) (fun c9 => absurd rfl c9) (fun _ => ?_)
                  refine lv_aload_n hx hb dL_follow_182 rfl (lv_at hl9 5 rfl) ?_
                  refine lv_aload_n hx hb dL_follow_183 rfl (lv_at hl9 6 rfl) ?_
                  refine lv_bipush (v := 9) hx hb dL_follow_184 (by decide) ?_
                  refine hp_iald B0 hw hg9 (by unfold vp_in; decide) dL_follow_186 ?_
                  refine hp_c (v := (nI c9)) (rfl) ?_
                  refine lv_iload hx hb dL_follow_187 (lv_at hl9 1 rfl) ?_
                  refine hp_iast B0 hw hS hr9 (vp_in_nI (show c9 < 60 by omega) (by omega)) dL_follow_189 (fun H locs f44 ef44 hw hS => ?_)
                  rw [show (upd (nf gv9) ((nI c9) : Int32).toNatClampNeg (nI (pk x9)) : Nat → Int32) = (nf (va_up gv9 c9 (pk x9))) from (by rw [nI_clamp (by omega), nf_up])] at ef44
                  have h45 : f44 lr = some (.inl (cI G, 60, .inl (nf (va_up gv9 c9 (pk x9))))) := by rw [ef44, va_up_self]
                  refine lv_aload_n hx hb dL_follow_190 rfl (lv_at hl9 6 rfl) ?_
                  refine lv_bipush (v := 9) hx hb dL_follow_191 (by decide) ?_
                  refine lv_dup2_11 hx hb dL_follow_193 rfl rfl ?_
                  have h46 : f44 lg = some (.inl (cI G, 10, .inl (g10r tk gl a n x9 c9))) := by rw [ef44, va_up_ne _ _ (Ne.symm n_lr_lg)]; exact hg9
                  refine hp_iald B0 hw h46 (by unfold vp_in; decide) dL_follow_194 ?_
                  refine hp_c (v := (nI c9)) (rfl) ?_
                  refine lv_iconst (v := 1) hx hb dL_follow_195 (by decide) ?_
                  refine lv_iadd hx hb dL_follow_196 ?_
                  refine hp_c (v := (nI (c9 + 1))) (nI_1 c9) ?_
                  refine hp_iast B0 hw hS h46 (by unfold vp_in; decide) dL_follow_197 (fun H locs f47 ef47 hw hS => ?_)
                  rw [show (upd (g10r tk gl a n x9 c9) (9 : Int32).toNatClampNeg (nI (c9 + 1)) : Nat → Int32) = (g10r tk gl a n x9 (c9 + 1)) from g10_9] at ef47
                  have h48 : f47 lg = some (.inl (cI G, 10, .inl (g10r tk gl a n x9 (c9 + 1)))) := by rw [ef47, va_up_self]
                  refine lv_aload_n hx hb dL_follow_198 rfl (lv_at hl9 6 rfl) ?_
                  refine lv_bipush (v := 8) hx hb dL_follow_199 (by decide) ?_
                  refine lv_iload hx hb dL_follow_201 (lv_at hl9 0 rfl) ?_
                  refine hp_iast B0 hw hS h48 (by unfold vp_in; decide) dL_follow_203 (fun H locs f49 ef49 hw hS => ?_)
                  rw [show (upd (g10r tk gl a n x9 (c9 + 1)) (8 : Int32).toNatClampNeg (nI (sa (pk x9 + 1))) : Nat → Int32) = (g10r tk gl a n (sa (pk x9 + 1)) (c9 + 1)) from g10_8] at ef49
                  have e50 : f49 = va_up f44 lg (some (.inl (cI G, 10, .inl (g10r tk gl a n (sa (pk x9 + 1)) (c9 + 1))))) := by rw [ef49, ef47, bx_uu]
                  have h51 : f49 lg = some (.inl (cI G, 10, .inl (g10r tk gl a n (sa (pk x9 + 1)) (c9 + 1)))) := by rw [ef49, va_up_self]
                  refine lv_goto (tgt := 226) hx hb dL_follow_204 (by decide) ?_
                  refine lv_goto (tgt := 41) hx hb dL_follow_226 (by decide) ?_
                  have hst9 : bStep a sa pk gh (bnd gl) c9 x9 gv9 = some ((c9 + 1), (sa (pk x9 + 1)), (va_up gv9 c9 (pk x9))) := (by unfold bStep; rw [if_pos hxl, if_pos ⟨hg, hsx⟩, eg9, if_pos rfl])
                  have hsb := hB8.step hst9
                  have h52 : f49 lr = some (.inl (cI G, 60, .inl (nf (va_up gv9 c9 (pk x9))))) := by rw [e50, va_up_ne _ _ n_lr_lg]; exact h45
                  exact ih _ _ H locs ls ⟨(c9 + 1), (sa (pk x9 + 1)), pk x9, (va_up gv9 c9 (pk x9)), (by rw [← hR9, show 240 - jj = (240 - (jj + 1)) + 1 by omega, bRun_some hst9]), hsb.1, (fun h9 => hB8.pkm (Nat.le_of_lt hsb.2) h9), (by have := hsb.2; omega), h52, h51, ((show hEq [lr, lg] f f9 from (hEq.mono hk9 (fun _ h9 => h9))).tr ((show hEq [lr, lg] f9 f44 from (by rw [ef44]; exact hEq.up List.mem_cons_self)).tr (show hEq [lr, lg] f44 f49 from (by rw [e50]; exact hEq.up (List.mem_cons_of_mem _ List.mem_cons_self))))), rfl⟩ hw hS (lv_sub hl9 [1, 2, 3, 4, 5, 6] rfl)
              · refine lv_aload_n hx hb dL_follow_124 rfl (lv_at hl9 6 rfl) ?_
                refine lv_bipush (v := 8) hx hb dL_follow_125 (by decide) ?_
                refine lv_dup2_11 hx hb dL_follow_127 rfl rfl ?_
                refine hp_iald B0 hw hg9 (by unfold vp_in; decide) dL_follow_128 ?_
                refine hp_c (v := (nI x9)) (rfl) ?_
                refine lv_iconst (v := 1) hx hb dL_follow_129 (by decide) ?_
                refine lv_iadd hx hb dL_follow_130 ?_
                refine hp_c (v := (nI (x9 + 1))) (nI_1 x9) ?_
                refine hp_iast B0 hw hS hg9 (by unfold vp_in; decide) dL_follow_131 (fun H locs f53 ef53 hw hS => ?_)
                rw [show (upd (g10r tk gl a n x9 c9) (8 : Int32).toNatClampNeg (nI (x9 + 1)) : Nat → Int32) = (g10r tk gl a n (x9 + 1) c9) from g10_8] at ef53
                have h54 : f53 lg = some (.inl (cI G, 10, .inl (g10r tk gl a n (x9 + 1) c9))) := by rw [ef53, va_up_self]
                refine lv_goto (tgt := 41) hx hb dL_follow_132 (by decide) ?_
                have hst9 : bStep a sa pk gh (bnd gl) c9 x9 gv9 = some (c9, (x9 + 1), gv9) := (by unfold bStep; rw [if_pos hxl, if_neg (fun h9 => c39 (by rw [h9.2]; exact nI_le (Nat.le_refl _) (by omega))), if_neg (fun h9 => hg h9.1)])
                have hsb := hB8.step hst9
                have h55 : f53 lr = some (.inl (cI G, 60, .inl (nf gv9))) := by rw [ef53, va_up_ne _ _ n_lr_lg]; exact hr9
                exact ih _ _ H locs ls ⟨c9, (x9 + 1), pk x9, gv9, (by rw [← hR9, show 240 - jj = (240 - (jj + 1)) + 1 by omega, bRun_some hst9]), hsb.1, (fun h9 => hB8.pkm (Nat.le_of_lt hsb.2) h9), (by have := hsb.2; omega), h55, h54, ((show hEq [lr, lg] f f9 from (hEq.mono hk9 (fun _ h9 => h9))).tr (show hEq [lr, lg] f9 f53 from (by rw [ef53]; exact hEq.up (List.mem_cons_of_mem _ List.mem_cons_self)))), rfl⟩ hw hS (lv_sub hl9 [1, 2, 3, 4, 5, 6] rfl)
      · obtain ⟨c9, x9, p9, gv9, hR9, hB8, hp9, hj9, hr9, hg9, hk9, el9⟩ := hI
        exact absurd hj9 (by have := hB8.2.2.2.2.2.1; omega)
  · refine lv_aload_n hx hb dL_follow_9 rfl (lv_at hl9 3 rfl) ?_
    refine lv_iconst (v := 3) hx hb dL_follow_10 (by decide) ?_
    refine hp_iald B0 hw k_lg (by unfold vp_in; decide) dL_follow_11 ?_
    refine hp_c (v := (gl 0)) (rfl) ?_
    refine lv_goto (tgt := 18) hx hb dL_follow_12 (by decide) ?_
    refine hp_c (v := (mnI (gl 0) (gl 1))) (mn_nge c1) ?_
    refine lv_istore (lv' := [(4, .int (mnI (gl 0) (gl 1))), (0, .ref lb), (1, .ref lh), (2, .ref lr), (3, .ref lg)]) hx hb dL_follow_18 hl9 (by decide) rfl (fun ls hl9 => ?_)
    refine lv_aload_n hx hb dL_follow_20 rfl (lv_at hl9 4 rfl) ?_
    refine lv_iconst (v := 5) hx hb dL_follow_21 (by decide) ?_
    refine hp_iald B0 hw k_lg (by unfold vp_in; decide) dL_follow_22 ?_
    refine hp_c (v := (gl 2)) (rfl) ?_
    refine lv_iload hx hb dL_follow_23 (lv_at hl9 0 rfl) ?_
    refine lv_icmp_ge (tgt := 34) hx hb dL_follow_25 (by decide) (fun c56 => ?_) (fun c56 => ?_)
    · refine lv_iload hx hb dL_follow_34 (lv_at hl9 0 rfl) ?_
      refine hp_c (v := (bnd gl)) (mn_le c56) ?_
      refine lv_istore (lv' := [(4, .int (bnd gl)), (0, .ref lb), (1, .ref lh), (2, .ref lr), (3, .ref lg)]) hx hb dL_follow_36 hl9 (by decide) rfl (fun ls hl9 => ?_)
      refine lv_iconst (v := 0) hx hb dL_follow_38 (by decide) ?_
      refine lv_istore (lv' := [(5, .int 0), (4, .int (bnd gl)), (0, .ref lb), (1, .ref lh), (2, .ref lr), (3, .ref lg)]) hx hb dL_follow_39 hl9 (by decide) rfl (fun ls hl9 => ?_)
      refine hp_for (nL := 8) (pc := 41) (fun jj f9 lv9 => ∃ (c9 x9 p9 : Nat) (gv9 : Nat → Nat), bRun a sa pk gh (bnd gl) (240 - jj) c9 x9 gv9 = bRun a sa pk gh (bnd gl) 240 cg x gv ∧ BOK n a c9 x9 sa pk ∧ (x9 < a → p9 ≤ pk x9) ∧ jj ≤ x9 ∧ f9 lr = some (.inl (cI G, 60, .inl (nf gv9))) ∧ f9 lg = some (.inl (cI G, 10, .inl (g10r tk gl a n x9 c9))) ∧ hEq [lr, lg] f f9 ∧ lv9 = [(5, .int (nI p9)), (4, .int (bnd gl)), (0, .ref lb), (1, .ref lh), (2, .ref lr), (3, .ref lg)]) 61 (fun jj f9 lv9 H locs ls hjj hI hw hS hl9 ih => ?_) (fun f9 lv9 H locs ls hI hw hS hl9 => ?_) 61 0 (Nat.zero_add _) f _ _ _ ls ⟨cg, x, 0, gv, rfl, hB9, (fun _ => Nat.zero_le _), Nat.zero_le _, k_lr, k_lg, hEq.rf, rfl⟩ hw hS (lv_sub hl9 [0, 1, 2, 3, 4, 5] rfl)
      · obtain ⟨c9, x9, p9, gv9, hR9, hB8, hp9, hj9, hr9, hg9, hk9, el9⟩ := hI
        rw [el9] at hl9
        have hxa9 := hB8.2.2.2.2.2.1
        refine lv_aload_n hx hb dL_follow_41 rfl (lv_at hl9 5 rfl) ?_
        refine lv_bipush (v := 8) hx hb dL_follow_42 (by decide) ?_
        refine hp_iald B0 hw hg9 (by unfold vp_in; decide) dL_follow_44 ?_
        refine hp_c (v := (nI x9)) (rfl) ?_
        refine lv_aload_n hx hb dL_follow_45 rfl (lv_at hl9 5 rfl) ?_
        refine lv_bipush (v := 6) hx hb dL_follow_46 (by decide) ?_
        refine hp_iald B0 hw hg9 (by unfold vp_in; decide) dL_follow_48 ?_
        refine hp_c (v := (nI a)) (rfl) ?_
        refine lv_icmp_ge (tgt := 229) hx hb dL_follow_49 (by decide) (fun c57 => ?_) (fun c57 => ?_)
        · have hst9 : bStep a sa pk gh (bnd gl) c9 x9 gv9 = none := (by unfold bStep; rw [if_neg (fun h9 => absurd h9 (Nat.not_lt.mpr (by have h8 := (nI_leI (by omega) (by omega)).mp c57; exact h8)))])
          exact hp_vret B0 hw hS hr ⟨Nat.le_of_ble_eq_true rfl, Nat.le_of_ble_eq_true rfl⟩ dL_follow_229 (⟨rfl, c9, x9, gv9, (by rw [← hR9, bRun_none hst9]), hB8, hr9, hg9, (show hEq [lr, lg] f f9 from (hEq.mono hk9 (fun _ h9 => h9)))⟩)
        · have hxl : x9 < a := Nat.lt_of_not_le (fun h9 => c57 (nI_le h9 (by omega)))
          obtain ⟨hq1, hq2, hq3⟩ := hB8.2.2.2.2.1 x9 hxl
          have hp8 := hp9 hxl
          have hn60 := hB8.1
          have hs1 := hB8.sle (i := pk x9 + 1) (by omega)
          have hs0 := hB8.sle (i := pk x9) (by omega)
          have hc60 := (hB8.c60 hxl).1
          refine hp_for (nL := 8) (pc := 52) (fun i f8 lv8 => f8 = f9 ∧ lv8 = [(5, .int (nI (p9 + i))), (4, .int (bnd gl)), (0, .ref lb), (1, .ref lh), (2, .ref lr), (3, .ref lg)]) (pk x9 - p9) (fun i f8 lv8 H locs ls hi hI hw hS hl9 ih2 => ?_) (fun f8 lv8 H locs ls hI hw hS hl9 => ?_) (pk x9 - p9) 0 (Nat.zero_add _) f9 _ _ _ ls ⟨rfl, rfl⟩ hw hS (lv_sub hl9 [0, 1, 2, 3, 4, 5] rfl)
          · obtain ⟨ef8, el8⟩ := hI
            rw [ef8] at hw
            rw [el8] at hl9
            have hs2 := (hB8.mono (p9 + i + 1) (pk x9) (by omega) (by omega)).1
            have hs3 := hB8.sle (i := p9 + i + 1) (by omega)
            refine lv_aload_n hx hb dL_follow_52 rfl (lv_at hl9 2 rfl) ?_
            refine lv_iload hx hb dL_follow_53 (lv_at hl9 0 rfl) ?_
            refine lv_iconst (v := 1) hx hb dL_follow_55 (by decide) ?_
            refine lv_iadd hx hb dL_follow_56 ?_
            refine hp_c (v := (nI (p9 + i + 1))) (nI_1 _) ?_
            have h58 : f9 lb = some (.inl (cI G, 64, .inl (nf sa))) := (hEq.k hk9) _ _ k_lb (ninc n_lb_lr (ninc n_lb_lg nin0))
            refine hp_iald B0 hw h58 (vp_in_nI (show p9 + i + 1 < 64 by omega) (by omega)) dL_follow_57 ?_
            refine hp_c (v := (nI (sa (p9 + i + 1)))) (nf_at (nI_clamp (by omega))) ?_
            refine lv_aload_n hx hb dL_follow_58 rfl (lv_at hl9 5 rfl) ?_
            refine lv_bipush (v := 8) hx hb dL_follow_59 (by decide) ?_
            refine hp_iald B0 hw hg9 (by unfold vp_in; decide) dL_follow_61 ?_
            refine hp_c (v := (nI x9)) (rfl) ?_
            refine lv_icmp_gt (tgt := 71) hx hb dL_follow_62 (by decide) (fun c9 => absurd c9 (nI_nlt (Nat.le_trans hs2 hq2) (by omega))) (fun _ => ?_)
            refine lv_iinc (v := (nI (p9 + (i + 1)))) (lv' := [(5, .int (nI (p9 + (i + 1)))), (4, .int (bnd gl)), (0, .ref lb), (1, .ref lh), (2, .ref lr), (3, .ref lg)]) hx hb dL_follow_65 hl9 (k := 0) rfl (nI_1 (p9 + i)) (by decide) rfl (fun ls hl9 => ?_)
            refine lv_goto (tgt := 52) hx hb dL_follow_68 (by decide) ?_
            exact ih2 _ _ H locs ls ⟨rfl, rfl⟩ hw hS (lv_sub hl9 [0, 1, 2, 3, 4, 5] rfl)
          · obtain ⟨ef8, el8⟩ := hI
            rw [ef8] at hw
            rw [el8] at hl9
            rw [show p9 + (pk x9 - p9) = pk x9 by omega] at hl9
            refine lv_aload_n hx hb dL_follow_52 rfl (lv_at hl9 2 rfl) ?_
            refine lv_iload hx hb dL_follow_53 (lv_at hl9 0 rfl) ?_
            refine lv_iconst (v := 1) hx hb dL_follow_55 (by decide) ?_
            refine lv_iadd hx hb dL_follow_56 ?_
            refine hp_c (v := (nI (pk x9 + 1))) (nI_1 _) ?_
            have h59 : f9 lb = some (.inl (cI G, 64, .inl (nf sa))) := (hEq.k hk9) _ _ k_lb (ninc n_lb_lr (ninc n_lb_lg nin0))
            refine hp_iald B0 hw h59 (vp_in_nI (show pk x9 + 1 < 64 by omega) (by omega)) dL_follow_57 ?_
            refine hp_c (v := (nI (sa (pk x9 + 1)))) (nf_at (nI_clamp (by omega))) ?_
            refine lv_aload_n hx hb dL_follow_58 rfl (lv_at hl9 5 rfl) ?_
            refine lv_bipush (v := 8) hx hb dL_follow_59 (by decide) ?_
            refine hp_iald B0 hw hg9 (by unfold vp_in; decide) dL_follow_61 ?_
            refine hp_c (v := (nI x9)) (rfl) ?_
            refine lv_icmp_gt (tgt := 71) hx hb dL_follow_62 (by decide) (fun _ => ?_) (fun c9 => absurd (nI_lt (by omega) (by omega)) c9)
            by_cases hg : gh x9 = 0
            · refine lv_aload_n hx hb dL_follow_71 rfl (lv_at hl9 3 rfl) ?_
              refine lv_iconst (v := 0) hx hb dL_follow_72 (by decide) ?_
              have h60 : f9 lh = some (.inl (cJ G, 1, .inr (.inl hh))) := (hEq.k hk9) _ _ k_lh (ninc n_lh_lr (ninc n_lh_lg nin0))
              refine hp_lald B0 hw h60 (by unfold vp_in; decide) dL_follow_73 ?_
              refine hp_cl (v := (lN hn)) (hh0) ?_
              refine lv_aload_n hx hb dL_follow_74 rfl (lv_at hl9 5 rfl) ?_
              refine lv_bipush (v := 8) hx hb dL_follow_75 (by decide) ?_
              refine hp_iald B0 hw hg9 (by unfold vp_in; decide) dL_follow_77 ?_
              refine hp_c (v := (nI x9)) (rfl) ?_
              refine lv_lshr (v := (lN (hn / 2 ^ x9))) hx hb dL_follow_78 (shr_n (s := x9) (by omega) (by omega) rfl) ?_
              refine lv_lconst (v := lN 1) hx hb dL_follow_79 rfl ?_
              refine lv_land hx hb dL_follow_80 ?_
              refine hp_cl (v := (lN ((hn / 2 ^ x9) % 2))) (g_mask (s := 1) (p := 2) rfl (by omega) (by exact Nat.lt_of_le_of_lt (Nat.div_le_self _ _) (by omega))) ?_
              refine lv_lconst (v := lN 1) hx hb dL_follow_81 rfl ?_
              refine W.lcmp hx hb dL_follow_82 ?_
              refine lv_if_ne (tgt := 90) hx hb dL_follow_83 (by decide) (fun _ => ?_) (fun c9 => absurd c9 (lgc0 (hHB.z (by omega) hg)))
              refine lv_iconst (v := 0) hx hb dL_follow_90 (by decide) ?_
              refine lv_istore (lv' := [(6, .int 0), (5, .int (nI (pk x9))), (4, .int (bnd gl)), (0, .ref lb), (1, .ref lh), (2, .ref lr), (3, .ref lg)]) hx hb dL_follow_91 hl9 (by decide) rfl (fun ls hl9 => ?_)
              refine lv_iload hx hb dL_follow_93 (lv_at hl9 0 rfl) ?_
              refine lv_if_ne (tgt := 108) hx hb dL_follow_95 (by decide) (fun c9 => absurd (by decide) c9) (fun _ => ?_)
              refine lv_aload_n hx hb dL_follow_98 rfl (lv_at hl9 6 rfl) ?_
              refine lv_bipush (v := 8) hx hb dL_follow_99 (by decide) ?_
              refine hp_iald B0 hw hg9 (by unfold vp_in; decide) dL_follow_101 ?_
              refine hp_c (v := (nI x9)) (rfl) ?_
              refine lv_iload hx hb dL_follow_102 (lv_at hl9 2 rfl) ?_
              refine lv_icmp_lt (tgt := 108) hx hb dL_follow_104 (by decide) (fun c61 => ?_) (fun c61 => ?_)
              · refine lv_iload hx hb dL_follow_108 (lv_at hl9 0 rfl) ?_
                refine lv_if_eq (tgt := 124) hx hb dL_follow_110 (by decide) (fun _ => ?_) (fun c9 => absurd (by decide) c9)
                refine lv_aload_n hx hb dL_follow_124 rfl (lv_at hl9 6 rfl) ?_
                refine lv_bipush (v := 8) hx hb dL_follow_125 (by decide) ?_
                refine lv_dup2_11 hx hb dL_follow_127 rfl rfl ?_
                refine hp_iald B0 hw hg9 (by unfold vp_in; decide) dL_follow_128 ?_
                refine hp_c (v := (nI x9)) (rfl) ?_
                refine lv_iconst (v := 1) hx hb dL_follow_129 (by decide) ?_
                refine lv_iadd hx hb dL_follow_130 ?_
                refine hp_c (v := (nI (x9 + 1))) (nI_1 x9) ?_
                refine hp_iast B0 hw hS hg9 (by unfold vp_in; decide) dL_follow_131 (fun H locs f62 ef62 hw hS => ?_)
                rw [show (upd (g10r tk gl a n x9 c9) (8 : Int32).toNatClampNeg (nI (x9 + 1)) : Nat → Int32) = (g10r tk gl a n (x9 + 1) c9) from g10_8] at ef62
                have h63 : f62 lg = some (.inl (cI G, 10, .inl (g10r tk gl a n (x9 + 1) c9))) := by rw [ef62, va_up_self]
                refine lv_goto (tgt := 41) hx hb dL_follow_132 (by decide) ?_
                have hst9 : bStep a sa pk gh (bnd gl) c9 x9 gv9 = some (c9, (x9 + 1), gv9) := (by unfold bStep; rw [if_pos hxl, if_neg (fun h9 => h9.1 hg), if_neg (fun h9 => h9.2 c61)])
                have hsb := hB8.step hst9
                have h64 : f62 lr = some (.inl (cI G, 60, .inl (nf gv9))) := by rw [ef62, va_up_ne _ _ n_lr_lg]; exact hr9
                exact ih _ _ H locs ls ⟨c9, (x9 + 1), pk x9, gv9, (by rw [← hR9, show 240 - jj = (240 - (jj + 1)) + 1 by omega, bRun_some hst9]), hsb.1, (fun h9 => hB8.pkm (Nat.le_of_lt hsb.2) h9), (by have := hsb.2; omega), h64, h63, ((show hEq [lr, lg] f f9 from (hEq.mono hk9 (fun _ h9 => h9))).tr (show hEq [lr, lg] f9 f62 from (by rw [ef62]; exact hEq.up (List.mem_cons_of_mem _ List.mem_cons_self)))), rfl⟩ hw hS (lv_sub hl9 [1, 2, 3, 4, 5, 6] rfl)
              · have hst9 : bStep a sa pk gh (bnd gl) c9 x9 gv9 = none := (by unfold bStep; rw [if_pos hxl, if_neg (fun h9 => h9.1 hg), if_pos ⟨hg, c61⟩])
                exact hp_vret B0 hw hS hr ⟨Nat.le_of_ble_eq_true rfl, Nat.le_of_ble_eq_true rfl⟩ dL_follow_107 (⟨rfl, c9, x9, gv9, (by rw [← hR9, bRun_none hst9]), hB8, hr9, hg9, (show hEq [lr, lg] f f9 from (hEq.mono hk9 (fun _ h9 => h9)))⟩)
            · refine lv_aload_n hx hb dL_follow_71 rfl (lv_at hl9 3 rfl) ?_
              refine lv_iconst (v := 0) hx hb dL_follow_72 (by decide) ?_
              have h65 : f9 lh = some (.inl (cJ G, 1, .inr (.inl hh))) := (hEq.k hk9) _ _ k_lh (ninc n_lh_lr (ninc n_lh_lg nin0))
              refine hp_lald B0 hw h65 (by unfold vp_in; decide) dL_follow_73 ?_
              refine hp_cl (v := (lN hn)) (hh0) ?_
              refine lv_aload_n hx hb dL_follow_74 rfl (lv_at hl9 5 rfl) ?_
              refine lv_bipush (v := 8) hx hb dL_follow_75 (by decide) ?_
              refine hp_iald B0 hw hg9 (by unfold vp_in; decide) dL_follow_77 ?_
              refine hp_c (v := (nI x9)) (rfl) ?_
              refine lv_lshr (v := (lN (hn / 2 ^ x9))) hx hb dL_follow_78 (shr_n (s := x9) (by omega) (by omega) rfl) ?_
              refine lv_lconst (v := lN 1) hx hb dL_follow_79 rfl ?_
              refine lv_land hx hb dL_follow_80 ?_
              refine hp_cl (v := (lN ((hn / 2 ^ x9) % 2))) (g_mask (s := 1) (p := 2) rfl (by omega) (by exact Nat.lt_of_le_of_lt (Nat.div_le_self _ _) (by omega))) ?_
              refine lv_lconst (v := lN 1) hx hb dL_follow_81 rfl ?_
              refine W.lcmp hx hb dL_follow_82 ?_
              refine lv_if_ne (tgt := 90) hx hb dL_follow_83 (by decide) (fun c9 => absurd (lgc1 (hHB.o (by omega) hg)) c9) (fun _ => ?_)
              refine lv_iconst (v := 1) hx hb dL_follow_86 (by decide) ?_
              refine lv_goto (tgt := 91) hx hb dL_follow_87 (by decide) ?_
              refine lv_istore (lv' := [(6, .int 1), (5, .int (nI (pk x9))), (4, .int (bnd gl)), (0, .ref lb), (1, .ref lh), (2, .ref lr), (3, .ref lg)]) hx hb dL_follow_91 hl9 (by decide) rfl (fun ls hl9 => ?_)
              refine lv_iload hx hb dL_follow_93 (lv_at hl9 0 rfl) ?_
              refine lv_if_ne (tgt := 108) hx hb dL_follow_95 (by decide) (fun _ => ?_) (fun c9 => absurd c9 (by decide))
              refine lv_iload hx hb dL_follow_108 (lv_at hl9 0 rfl) ?_
              refine lv_if_eq (tgt := 124) hx hb dL_follow_110 (by decide) (fun c9 => absurd c9 (by decide)) (fun _ => ?_)
              refine lv_aload_n hx hb dL_follow_113 rfl (lv_at hl9 6 rfl) ?_
              refine lv_bipush (v := 8) hx hb dL_follow_114 (by decide) ?_
              refine hp_iald B0 hw hg9 (by unfold vp_in; decide) dL_follow_116 ?_
              refine hp_c (v := (nI x9)) (rfl) ?_
              refine lv_aload_n hx hb dL_follow_117 rfl (lv_at hl9 3 rfl) ?_
              refine lv_iload hx hb dL_follow_118 (lv_at hl9 1 rfl) ?_
              refine hp_iald B0 hw h59 (vp_in_nI (show pk x9 < 64 by omega) (by omega)) dL_follow_120 ?_
              refine hp_c (v := (nI (sa (pk x9)))) (nf_at (nI_clamp (by omega))) ?_
              refine lv_icmp_le (tgt := 135) hx hb dL_follow_121 (by decide) (fun c66 => ?_) (fun c66 => ?_)
              · refine lv_aload_n hx hb dL_follow_135 rfl (lv_at hl9 6 rfl) ?_
                refine lv_bipush (v := 8) hx hb dL_follow_136 (by decide) ?_
                refine hp_iald B0 hw hg9 (by unfold vp_in; decide) dL_follow_138 ?_
                refine hp_c (v := (nI x9)) (rfl) ?_
                refine lv_istore (lv' := [(7, .int (nI x9)), (6, .int 1), (5, .int (nI (pk x9))), (4, .int (bnd gl)), (0, .ref lb), (1, .ref lh), (2, .ref lr), (3, .ref lg)]) hx hb dL_follow_139 hl9 (by decide) rfl (fun ls hl9 => ?_)
                have hsx : sa (pk x9) = x9 := Nat.le_antisymm hq2 (by have h9 := (nI_leI (by omega) (by omega)).mp c66; exact h9)
                refine hp_for (nL := 8) (pc := 141) (fun i f8 lv8 => f8 = f9 ∧ fGap gh (sa (pk x9 + 1) - x9) x9 = fGap gh (sa (pk x9 + 1) - x9 - i) (x9 + i) ∧ lv8 = [(7, .int (nI (x9 + i))), (5, .int (nI (pk x9))), (4, .int (bnd gl)), (0, .ref lb), (1, .ref lh), (2, .ref lr), (3, .ref lg)]) (sa (pk x9 + 1) - x9) (fun i f8 lv8 H locs ls hi hI hw hS hl9 ih2 => ?_) (fun f8 lv8 H locs ls hI hw hS hl9 => ?_) (sa (pk x9 + 1) - x9) 0 (Nat.zero_add _) f9 _ _ _ ls ⟨rfl, rfl, rfl⟩ hw hS (lv_sub hl9 [0, 2, 3, 4, 5, 6, 7] rfl)
                · obtain ⟨ef8, eg8, el8⟩ := hI
                  rw [ef8] at hw
                  rw [el8] at hl9
                  refine lv_iload hx hb dL_follow_141 (lv_at hl9 0 rfl) ?_
                  refine lv_aload_n hx hb dL_follow_143 rfl (lv_at hl9 3 rfl) ?_
                  refine lv_iload hx hb dL_follow_144 (lv_at hl9 1 rfl) ?_
                  refine lv_iconst (v := 1) hx hb dL_follow_146 (by decide) ?_
                  refine lv_iadd hx hb dL_follow_147 ?_
                  refine hp_c (v := (nI (pk x9 + 1))) (nI_1 _) ?_
                  refine hp_iald B0 hw h59 (vp_in_nI (show pk x9 + 1 < 64 by omega) (by omega)) dL_follow_148 ?_
                  refine hp_c (v := (nI (sa (pk x9 + 1)))) (nf_at (nI_clamp (by omega))) ?_
                  refine lv_icmp_ge (tgt := 171) hx hb dL_follow_149 (by decide) (fun c9 => absurd c9 (nI_ge (by omega) (by omega))) (fun _ => ?_)
                  by_cases hg2 : gh (x9 + i) = 0
                  · refine lv_aload_n hx hb dL_follow_152 rfl (lv_at hl9 4 rfl) ?_
                    refine lv_iconst (v := 0) hx hb dL_follow_153 (by decide) ?_
                    refine hp_lald B0 hw h65 (by unfold vp_in; decide) dL_follow_154 ?_
                    refine hp_cl (v := (lN hn)) (hh0) ?_
                    refine lv_iload hx hb dL_follow_155 (lv_at hl9 0 rfl) ?_
                    refine lv_lshr (v := (lN (hn / 2 ^ (x9 + i)))) hx hb dL_follow_157 (shr_n (s := x9 + i) (by omega) (by omega) rfl) ?_
                    refine lv_lconst (v := lN 1) hx hb dL_follow_158 rfl ?_
                    refine lv_land hx hb dL_follow_159 ?_
                    refine hp_cl (v := (lN ((hn / 2 ^ (x9 + i)) % 2))) (g_mask (s := 1) (p := 2) rfl (by omega) (by exact Nat.lt_of_le_of_lt (Nat.div_le_self _ _) (by omega))) ?_
                    refine lv_lconst (v := lN 1) hx hb dL_follow_160 rfl ?_
                    refine W.lcmp hx hb dL_follow_161 ?_
                    refine lv_if_ne (tgt := 171) hx hb dL_follow_162 (by decide) (fun _ => ?_) (fun c9 => absurd c9 (lgc0 (hHB.z (by omega) hg2)))
                    have eg9 : fGap gh (sa (pk x9 + 1) - x9) x9 = x9 + i := fGap_r eg8 (by omega) hg2
                    refine lv_iload hx hb dL_follow_171 (lv_at hl9 0 rfl) ?_
                    refine lv_aload_n hx hb dL_follow_173 rfl (lv_at hl9 3 rfl) ?_
                    refine lv_iload hx hb dL_follow_174 (lv_at hl9 1 rfl) ?_
                    refine lv_iconst (v := 1) hx hb dL_follow_176 (by decide) ?_
                    refine lv_iadd hx hb dL_follow_177 ?_
                    refine hp_c (v := (nI (pk x9 + 1))) (nI_1 _) ?_
                    refine hp_iald B0 hw h59 (vp_in_nI (show pk x9 + 1 < 64 by omega) (by omega)) dL_follow_178 ?_
                    refine hp_c (v := (nI (sa (pk x9 + 1)))) (nf_at (nI_clamp (by omega))) ?_
                    refine lv_icmp_ne (tgt := 207) hx hb dL_follow_179 (by decide) (fun _ => ?_) (fun c9 => absurd c9 (fun h9 => by have h8 := (nI_eq (show x9 + i < 2 ^ 31 by omega) (show sa (pk x9 + 1) < 2 ^ 31 by omega)).mp h9; omega))
                    refine lv_iload hx hb dL_follow_207 (lv_at hl9 0 rfl) ?_
                    refine lv_iload hx hb dL_follow_209 (lv_at hl9 2 rfl) ?_
                    refine lv_icmp_ge (tgt := 225) hx hb dL_follow_211 (by decide) (fun c67 => ?_) (fun c67 => ?_)
                    · have hst9 : bStep a sa pk gh (bnd gl) c9 x9 gv9 = none := (by unfold bStep; rw [if_pos hxl, if_pos ⟨hg, hsx⟩, eg9, if_neg (show ¬ x9 + i = sa (pk x9 + 1) by omega), if_neg (fun h9 => absurd h9 (Int32.not_lt.mpr c67))])
                      exact hp_vret B0 hw hS hr ⟨Nat.le_of_ble_eq_true rfl, Nat.le_of_ble_eq_true rfl⟩ dL_follow_225 (⟨rfl, c9, x9, gv9, (by rw [← hR9, bRun_none hst9]), hB8, hr9, hg9, (show hEq [lr, lg] f f9 from (hEq.mono hk9 (fun _ h9 => h9)))⟩)
                    · refine lv_aload_n hx hb dL_follow_214 rfl (lv_at hl9 6 rfl) ?_
                      refine lv_bipush (v := 8) hx hb dL_follow_215 (by decide) ?_
                      refine lv_iload hx hb dL_follow_217 (lv_at hl9 0 rfl) ?_
                      refine lv_iconst (v := 1) hx hb dL_follow_219 (by decide) ?_
                      refine lv_iadd hx hb dL_follow_220 ?_
                      refine hp_c (v := (nI (x9 + i + 1))) (nI_1 (x9 + i)) ?_
                      refine hp_iast B0 hw hS hg9 (by unfold vp_in; decide) dL_follow_221 (fun H locs f68 ef68 hw hS => ?_)
                      rw [show (upd (g10r tk gl a n x9 c9) (8 : Int32).toNatClampNeg (nI (x9 + i + 1)) : Nat → Int32) = (g10r tk gl a n (x9 + i + 1) c9) from g10_8] at ef68
                      have h69 : f68 lg = some (.inl (cI G, 10, .inl (g10r tk gl a n (x9 + i + 1) c9))) := by rw [ef68, va_up_self]
                      refine lv_goto (tgt := 226) hx hb dL_follow_222 (by decide) ?_
                      refine lv_goto (tgt := 41) hx hb dL_follow_226 (by decide) ?_
                      have hst9 : bStep a sa pk gh (bnd gl) c9 x9 gv9 = some (c9, (x9 + i + 1), gv9) := (by unfold bStep; rw [if_pos hxl, if_pos ⟨hg, hsx⟩, eg9, if_neg (show ¬ x9 + i = sa (pk x9 + 1) by omega), if_pos (Int32.not_le.mp c67)])
                      have hsb := hB8.step hst9
                      have h70 : f68 lr = some (.inl (cI G, 60, .inl (nf gv9))) := by rw [ef68, va_up_ne _ _ n_lr_lg]; exact hr9
                      exact ih _ _ H locs ls ⟨c9, (x9 + i + 1), pk x9, gv9, (by rw [← hR9, show 240 - jj = (240 - (jj + 1)) + 1 by omega, bRun_some hst9]), hsb.1, (fun h9 => hB8.pkm (Nat.le_of_lt hsb.2) h9), (by have := hsb.2; omega), h70, h69, ((show hEq [lr, lg] f f9 from (hEq.mono hk9 (fun _ h9 => h9))).tr (show hEq [lr, lg] f9 f68 from (by rw [ef68]; exact hEq.up (List.mem_cons_of_mem _ List.mem_cons_self)))), rfl⟩ hw hS (lv_sub hl9 [1, 2, 3, 4, 5, 6] rfl)
                  · refine lv_aload_n hx hb dL_follow_152 rfl (lv_at hl9 4 rfl) ?_
                    refine lv_iconst (v := 0) hx hb dL_follow_153 (by decide) ?_
                    refine hp_lald B0 hw h65 (by unfold vp_in; decide) dL_follow_154 ?_
                    refine hp_cl (v := (lN hn)) (hh0) ?_
                    refine lv_iload hx hb dL_follow_155 (lv_at hl9 0 rfl) ?_
                    refine lv_lshr (v := (lN (hn / 2 ^ (x9 + i)))) hx hb dL_follow_157 (shr_n (s := x9 + i) (by omega) (by omega) rfl) ?_
                    refine lv_lconst (v := lN 1) hx hb dL_follow_158 rfl ?_
                    refine lv_land hx hb dL_follow_159 ?_
                    refine hp_cl (v := (lN ((hn / 2 ^ (x9 + i)) % 2))) (g_mask (s := 1) (p := 2) rfl (by omega) (by exact Nat.lt_of_le_of_lt (Nat.div_le_self _ _) (by omega))) ?_
                    refine lv_lconst (v := lN 1) hx hb dL_follow_160 rfl ?_
                    refine W.lcmp hx hb dL_follow_161 ?_
                    refine lv_if_ne (tgt := 171) hx hb dL_follow_162 (by decide) (fun c9 => absurd (lgc1 (hHB.o (by omega) hg2)) c9) (fun _ => ?_)
                    refine lv_iinc (v := (nI (x9 + (i + 1)))) (lv' := [(7, .int (nI (x9 + (i + 1)))), (5, .int (nI (pk x9))), (4, .int (bnd gl)), (0, .ref lb), (1, .ref lh), (2, .ref lr), (3, .ref lg)]) hx hb dL_follow_165 hl9 (k := 0) rfl (nI_1 (x9 + i)) (by decide) rfl (fun ls hl9 => ?_)
                    refine lv_goto (tgt := 141) hx hb dL_follow_168 (by decide) ?_
                    exact ih2 _ _ H locs ls ⟨rfl, (by rw [eg8, show sa (pk x9 + 1) - x9 - i = (sa (pk x9 + 1) - x9 - (i + 1)) + 1 by omega, fGap_s hg2]; rfl), rfl⟩ hw hS (lv_sub hl9 [0, 1, 2, 3, 4, 5, 6] rfl)
                · obtain ⟨ef8, eg8, el8⟩ := hI
                  rw [ef8] at hw
                  rw [el8] at hl9
                  rw [show x9 + (sa (pk x9 + 1) - x9) = sa (pk x9 + 1) by omega] at hl9 eg8
                  rw [Nat.sub_self] at eg8
                  have eg9 : fGap gh (sa (pk x9 + 1) - x9) x9 = sa (pk x9 + 1) := eg8
                  refine lv_iload hx hb dL_follow_141 (lv_at hl9 0 rfl) ?_
                  refine lv_aload_n hx hb dL_follow_143 rfl (lv_at hl9 3 rfl) ?_
                  refine lv_iload hx hb dL_follow_144 (lv_at hl9 1 rfl) ?_
                  refine lv_iconst (v := 1) hx hb dL_follow_146 (by decide) ?_
                  refine lv_iadd hx hb dL_follow_147 ?_
                  refine hp_c (v := (nI (pk x9 + 1))) (nI_1 _) ?_
                  refine hp_iald B0 hw h59 (vp_in_nI (show pk x9 + 1 < 64 by omega) (by omega)) dL_follow_148 ?_
                  refine hp_c (v := (nI (sa (pk x9 + 1)))) (nf_at (nI_clamp (by omega))) ?_
                  refine lv_icmp_ge (tgt := 171) hx hb dL_follow_149 (by decide) (fun _ => ?_) (fun c9 => absurd (nI_le (Nat.le_refl _) (by omega)) c9)
                  refine lv_iload hx hb dL_follow_171 (lv_at hl9 0 rfl) ?_
                  refine lv_aload_n hx hb dL_follow_173 rfl (lv_at hl9 3 rfl) ?_
                  refine lv_iload hx hb dL_follow_174 (lv_at hl9 1 rfl) ?_
                  refine lv_iconst (v := 1) hx hb dL_follow_176 (by decide) ?_
                  refine lv_iadd hx hb dL_follow_177 ?_
                  refine hp_c (v := (nI (pk x9 + 1))) (nI_1 _) ?_
                  refine hp_iald B0 hw h59 (vp_in_nI (show pk x9 + 1 < 64 by omega) (by omega)) dL_follow_178 ?_
                  refine hp_c (v := (nI (sa (pk x9 + 1)))) (nf_at (nI_clamp (by omega))) ?_
                  refine lv_icmp_ne (tgt := 207) hx hb dL_follow_179 (by decide) (fun c9 => absurd rfl c9) (fun _ => ?_)
                  refine lv_aload_n hx hb dL_follow_182 rfl (lv_at hl9 5 rfl) ?_
                  refine lv_aload_n hx hb dL_follow_183 rfl (lv_at hl9 6 rfl) ?_
                  refine lv_bipush (v := 9) hx hb dL_follow_184 (by decide) ?_
                  refine hp_iald B0 hw hg9 (by unfold vp_in; decide) dL_follow_186 ?_
                  refine hp_c (v := (nI c9)) (rfl) ?_
                  refine lv_iload hx hb dL_follow_187 (lv_at hl9 1 rfl) ?_
                  refine hp_iast B0 hw hS hr9 (vp_in_nI (show c9 < 60 by omega) (by omega)) dL_follow_189 (fun H locs f71 ef71 hw hS => ?_)
                  rw [show (upd (nf gv9) ((nI c9) : Int32).toNatClampNeg (nI (pk x9)) : Nat → Int32) = (nf (va_up gv9 c9 (pk x9))) from (by rw [nI_clamp (by omega), nf_up])] at ef71
                  have h72 : f71 lr = some (.inl (cI G, 60, .inl (nf (va_up gv9 c9 (pk x9))))) := by rw [ef71, va_up_self]
                  refine lv_aload_n hx hb dL_follow_190 rfl (lv_at hl9 6 rfl) ?_
                  refine lv_bipush (v := 9) hx hb dL_follow_191 (by decide) ?_
                  refine lv_dup2_11 hx hb dL_follow_193 rfl rfl ?_
                  have h73 : f71 lg = some (.inl (cI G, 10, .inl (g10r tk gl a n x9 c9))) := by rw [ef71, va_up_ne _ _ (Ne.symm n_lr_lg)]; exact hg9
                  refine hp_iald B0 hw h73 (by unfold vp_in; decide) dL_follow_194 ?_
                  refine hp_c (v := (nI c9)) (rfl) ?_
                  refine lv_iconst (v := 1) hx hb dL_follow_195 (by decide) ?_
                  refine lv_iadd hx hb dL_follow_196 ?_
                  refine hp_c (v := (nI (c9 + 1))) (nI_1 c9) ?_
                  refine hp_iast B0 hw hS h73 (by unfold vp_in; decide) dL_follow_197 (fun H locs f74 ef74 hw hS => ?_)
                  rw [show (upd (g10r tk gl a n x9 c9) (9 : Int32).toNatClampNeg (nI (c9 + 1)) : Nat → Int32) = (g10r tk gl a n x9 (c9 + 1)) from g10_9] at ef74
                  have h75 : f74 lg = some (.inl (cI G, 10, .inl (g10r tk gl a n x9 (c9 + 1)))) := by rw [ef74, va_up_self]
                  refine lv_aload_n hx hb dL_follow_198 rfl (lv_at hl9 6 rfl) ?_
                  refine lv_bipush (v := 8) hx hb dL_follow_199 (by decide) ?_
                  refine lv_iload hx hb dL_follow_201 (lv_at hl9 0 rfl) ?_
                  refine hp_iast B0 hw hS h75 (by unfold vp_in; decide) dL_follow_203 (fun H locs f76 ef76 hw hS => ?_)
                  rw [show (upd (g10r tk gl a n x9 (c9 + 1)) (8 : Int32).toNatClampNeg (nI (sa (pk x9 + 1))) : Nat → Int32) = (g10r tk gl a n (sa (pk x9 + 1)) (c9 + 1)) from g10_8] at ef76
                  have e77 : f76 = va_up f71 lg (some (.inl (cI G, 10, .inl (g10r tk gl a n (sa (pk x9 + 1)) (c9 + 1))))) := by rw [ef76, ef74, bx_uu]
                  have h78 : f76 lg = some (.inl (cI G, 10, .inl (g10r tk gl a n (sa (pk x9 + 1)) (c9 + 1)))) := by rw [ef76, va_up_self]
                  refine lv_goto (tgt := 226) hx hb dL_follow_204 (by decide) ?_
                  refine lv_goto (tgt := 41) hx hb dL_follow_226 (by decide) ?_
                  have hst9 : bStep a sa pk gh (bnd gl) c9 x9 gv9 = some ((c9 + 1), (sa (pk x9 + 1)), (va_up gv9 c9 (pk x9))) := (by unfold bStep; rw [if_pos hxl, if_pos ⟨hg, hsx⟩, eg9, if_pos rfl])
                  have hsb := hB8.step hst9
                  have h79 : f76 lr = some (.inl (cI G, 60, .inl (nf (va_up gv9 c9 (pk x9))))) := by rw [e77, va_up_ne _ _ n_lr_lg]; exact h72
                  exact ih _ _ H locs ls ⟨(c9 + 1), (sa (pk x9 + 1)), pk x9, (va_up gv9 c9 (pk x9)), (by rw [← hR9, show 240 - jj = (240 - (jj + 1)) + 1 by omega, bRun_some hst9]), hsb.1, (fun h9 => hB8.pkm (Nat.le_of_lt hsb.2) h9), (by have := hsb.2; omega), h79, h78, ((show hEq [lr, lg] f f9 from (hEq.mono hk9 (fun _ h9 => h9))).tr ((show hEq [lr, lg] f9 f71 from (by rw [ef71]; exact hEq.up List.mem_cons_self)).tr (show hEq [lr, lg] f71 f76 from (by rw [e77]; exact hEq.up (List.mem_cons_of_mem _ List.mem_cons_self))))), rfl⟩ hw hS (lv_sub hl9 [1, 2, 3, 4, 5, 6] rfl)
              · refine lv_aload_n hx hb dL_follow_124 rfl (lv_at hl9 6 rfl) ?_
                refine lv_bipush (v := 8) hx hb dL_follow_125 (by decide) ?_
                refine lv_dup2_11 hx hb dL_follow_127 rfl rfl ?_
                refine hp_iald B0 hw hg9 (by unfold vp_in; decide) dL_follow_128 ?_
                refine hp_c (v := (nI x9)) (rfl) ?_
                refine lv_iconst (v := 1) hx hb dL_follow_129 (by decide) ?_
                refine lv_iadd hx hb dL_follow_130 ?_
                refine hp_c (v := (nI (x9 + 1))) (nI_1 x9) ?_
                refine hp_iast B0 hw hS hg9 (by unfold vp_in; decide) dL_follow_131 (fun H locs f80 ef80 hw hS => ?_)
                rw [show (upd (g10r tk gl a n x9 c9) (8 : Int32).toNatClampNeg (nI (x9 + 1)) : Nat → Int32) = (g10r tk gl a n (x9 + 1) c9) from g10_8] at ef80
                have h81 : f80 lg = some (.inl (cI G, 10, .inl (g10r tk gl a n (x9 + 1) c9))) := by rw [ef80, va_up_self]
                refine lv_goto (tgt := 41) hx hb dL_follow_132 (by decide) ?_
                have hst9 : bStep a sa pk gh (bnd gl) c9 x9 gv9 = some (c9, (x9 + 1), gv9) := (by unfold bStep; rw [if_pos hxl, if_neg (fun h9 => c66 (by rw [h9.2]; exact nI_le (Nat.le_refl _) (by omega))), if_neg (fun h9 => hg h9.1)])
                have hsb := hB8.step hst9
                have h82 : f80 lr = some (.inl (cI G, 60, .inl (nf gv9))) := by rw [ef80, va_up_ne _ _ n_lr_lg]; exact hr9
                exact ih _ _ H locs ls ⟨c9, (x9 + 1), pk x9, gv9, (by rw [← hR9, show 240 - jj = (240 - (jj + 1)) + 1 by omega, bRun_some hst9]), hsb.1, (fun h9 => hB8.pkm (Nat.le_of_lt hsb.2) h9), (by have := hsb.2; omega), h82, h81, ((show hEq [lr, lg] f f9 from (hEq.mono hk9 (fun _ h9 => h9))).tr (show hEq [lr, lg] f9 f80 from (by rw [ef80]; exact hEq.up (List.mem_cons_of_mem _ List.mem_cons_self)))), rfl⟩ hw hS (lv_sub hl9 [1, 2, 3, 4, 5, 6] rfl)
      · obtain ⟨c9, x9, p9, gv9, hR9, hB8, hp9, hj9, hr9, hg9, hk9, el9⟩ := hI
        exact absurd hj9 (by have := hB8.2.2.2.2.2.1; omega)
    · refine lv_aload_n hx hb dL_follow_28 rfl (lv_at hl9 4 rfl) ?_
      refine lv_iconst (v := 5) hx hb dL_follow_29 (by decide) ?_
      refine hp_iald B0 hw k_lg (by unfold vp_in; decide) dL_follow_30 ?_
      refine hp_c (v := (gl 2)) (rfl) ?_
      refine lv_goto (tgt := 36) hx hb dL_follow_31 (by decide) ?_
      refine hp_c (v := (bnd gl)) (mn_nle c56) ?_
      refine lv_istore (lv' := [(4, .int (bnd gl)), (0, .ref lb), (1, .ref lh), (2, .ref lr), (3, .ref lg)]) hx hb dL_follow_36 hl9 (by decide) rfl (fun ls hl9 => ?_)
      refine lv_iconst (v := 0) hx hb dL_follow_38 (by decide) ?_
      refine lv_istore (lv' := [(5, .int 0), (4, .int (bnd gl)), (0, .ref lb), (1, .ref lh), (2, .ref lr), (3, .ref lg)]) hx hb dL_follow_39 hl9 (by decide) rfl (fun ls hl9 => ?_)
      refine hp_for (nL := 8) (pc := 41) (fun jj f9 lv9 => ∃ (c9 x9 p9 : Nat) (gv9 : Nat → Nat), bRun a sa pk gh (bnd gl) (240 - jj) c9 x9 gv9 = bRun a sa pk gh (bnd gl) 240 cg x gv ∧ BOK n a c9 x9 sa pk ∧ (x9 < a → p9 ≤ pk x9) ∧ jj ≤ x9 ∧ f9 lr = some (.inl (cI G, 60, .inl (nf gv9))) ∧ f9 lg = some (.inl (cI G, 10, .inl (g10r tk gl a n x9 c9))) ∧ hEq [lr, lg] f f9 ∧ lv9 = [(5, .int (nI p9)), (4, .int (bnd gl)), (0, .ref lb), (1, .ref lh), (2, .ref lr), (3, .ref lg)]) 61 (fun jj f9 lv9 H locs ls hjj hI hw hS hl9 ih => ?_) (fun f9 lv9 H locs ls hI hw hS hl9 => ?_) 61 0 (Nat.zero_add _) f _ _ _ ls ⟨cg, x, 0, gv, rfl, hB9, (fun _ => Nat.zero_le _), Nat.zero_le _, k_lr, k_lg, hEq.rf, rfl⟩ hw hS (lv_sub hl9 [0, 1, 2, 3, 4, 5] rfl)
      · obtain ⟨c9, x9, p9, gv9, hR9, hB8, hp9, hj9, hr9, hg9, hk9, el9⟩ := hI
        rw [el9] at hl9
        have hxa9 := hB8.2.2.2.2.2.1
        refine lv_aload_n hx hb dL_follow_41 rfl (lv_at hl9 5 rfl) ?_
        refine lv_bipush (v := 8) hx hb dL_follow_42 (by decide) ?_
        refine hp_iald B0 hw hg9 (by unfold vp_in; decide) dL_follow_44 ?_
        refine hp_c (v := (nI x9)) (rfl) ?_
        refine lv_aload_n hx hb dL_follow_45 rfl (lv_at hl9 5 rfl) ?_
        refine lv_bipush (v := 6) hx hb dL_follow_46 (by decide) ?_
        refine hp_iald B0 hw hg9 (by unfold vp_in; decide) dL_follow_48 ?_
        refine hp_c (v := (nI a)) (rfl) ?_
        refine lv_icmp_ge (tgt := 229) hx hb dL_follow_49 (by decide) (fun c83 => ?_) (fun c83 => ?_)
        · have hst9 : bStep a sa pk gh (bnd gl) c9 x9 gv9 = none := (by unfold bStep; rw [if_neg (fun h9 => absurd h9 (Nat.not_lt.mpr (by have h8 := (nI_leI (by omega) (by omega)).mp c83; exact h8)))])
          exact hp_vret B0 hw hS hr ⟨Nat.le_of_ble_eq_true rfl, Nat.le_of_ble_eq_true rfl⟩ dL_follow_229 (⟨rfl, c9, x9, gv9, (by rw [← hR9, bRun_none hst9]), hB8, hr9, hg9, (show hEq [lr, lg] f f9 from (hEq.mono hk9 (fun _ h9 => h9)))⟩)
        · have hxl : x9 < a := Nat.lt_of_not_le (fun h9 => c83 (nI_le h9 (by omega)))
          obtain ⟨hq1, hq2, hq3⟩ := hB8.2.2.2.2.1 x9 hxl
          have hp8 := hp9 hxl
          have hn60 := hB8.1
          have hs1 := hB8.sle (i := pk x9 + 1) (by omega)
          have hs0 := hB8.sle (i := pk x9) (by omega)
          have hc60 := (hB8.c60 hxl).1
          refine hp_for (nL := 8) (pc := 52) (fun i f8 lv8 => f8 = f9 ∧ lv8 = [(5, .int (nI (p9 + i))), (4, .int (bnd gl)), (0, .ref lb), (1, .ref lh), (2, .ref lr), (3, .ref lg)]) (pk x9 - p9) (fun i f8 lv8 H locs ls hi hI hw hS hl9 ih2 => ?_) (fun f8 lv8 H locs ls hI hw hS hl9 => ?_) (pk x9 - p9) 0 (Nat.zero_add _) f9 _ _ _ ls ⟨rfl, rfl⟩ hw hS (lv_sub hl9 [0, 1, 2, 3, 4, 5] rfl)
          · obtain ⟨ef8, el8⟩ := hI
            rw [ef8] at hw
            rw [el8] at hl9
            have hs2 := (hB8.mono (p9 + i + 1) (pk x9) (by omega) (by omega)).1
            have hs3 := hB8.sle (i := p9 + i + 1) (by omega)
            refine lv_aload_n hx hb dL_follow_52 rfl (lv_at hl9 2 rfl) ?_
            refine lv_iload hx hb dL_follow_53 (lv_at hl9 0 rfl) ?_
            refine lv_iconst (v := 1) hx hb dL_follow_55 (by decide) ?_
            refine lv_iadd hx hb dL_follow_56 ?_
            refine hp_c (v := (nI (p9 + i + 1))) (nI_1 _) ?_
            have h84 : f9 lb = some (.inl (cI G, 64, .inl (nf sa))) := (hEq.k hk9) _ _ k_lb (ninc n_lb_lr (ninc n_lb_lg nin0))
            refine hp_iald B0 hw h84 (vp_in_nI (show p9 + i + 1 < 64 by omega) (by omega)) dL_follow_57 ?_
            refine hp_c (v := (nI (sa (p9 + i + 1)))) (nf_at (nI_clamp (by omega))) ?_
            refine lv_aload_n hx hb dL_follow_58 rfl (lv_at hl9 5 rfl) ?_
            refine lv_bipush (v := 8) hx hb dL_follow_59 (by decide) ?_
            refine hp_iald B0 hw hg9 (by unfold vp_in; decide) dL_follow_61 ?_
            refine hp_c (v := (nI x9)) (rfl) ?_
            refine lv_icmp_gt (tgt := 71) hx hb dL_follow_62 (by decide) (fun c9 => absurd c9 (nI_nlt (Nat.le_trans hs2 hq2) (by omega))) (fun _ => ?_)
            refine lv_iinc (v := (nI (p9 + (i + 1)))) (lv' := [(5, .int (nI (p9 + (i + 1)))), (4, .int (bnd gl)), (0, .ref lb), (1, .ref lh), (2, .ref lr), (3, .ref lg)]) hx hb dL_follow_65 hl9 (k := 0) rfl (nI_1 (p9 + i)) (by decide) rfl (fun ls hl9 => ?_)
            refine lv_goto (tgt := 52) hx hb dL_follow_68 (by decide) ?_
            exact ih2 _ _ H locs ls ⟨rfl, rfl⟩ hw hS (lv_sub hl9 [0, 1, 2, 3, 4, 5] rfl)
          · obtain ⟨ef8, el8⟩ := hI
            rw [ef8] at hw
            rw [el8] at hl9
            rw [show p9 + (pk x9 - p9) = pk x9 by omega] at hl9
            refine lv_aload_n hx hb dL_follow_52 rfl (lv_at hl9 2 rfl) ?_
            refine lv_iload hx hb dL_follow_53 (lv_at hl9 0 rfl) ?_
            refine lv_iconst (v := 1) hx hb dL_follow_55 (by decide) ?_
            refine lv_iadd hx hb dL_follow_56 ?_
            refine hp_c (v := (nI (pk x9 + 1))) (nI_1 _) ?_
            have h85 : f9 lb = some (.inl (cI G, 64, .inl (nf sa))) := (hEq.k hk9) _ _ k_lb (ninc n_lb_lr (ninc n_lb_lg nin0))
            refine hp_iald B0 hw h85 (vp_in_nI (show pk x9 + 1 < 64 by omega) (by omega)) dL_follow_57 ?_
            refine hp_c (v := (nI (sa (pk x9 + 1)))) (nf_at (nI_clamp (by omega))) ?_
            refine lv_aload_n hx hb dL_follow_58 rfl (lv_at hl9 5 rfl) ?_
            refine lv_bipush (v := 8) hx hb dL_follow_59 (by decide) ?_
            refine hp_iald B0 hw hg9 (by unfold vp_in; decide) dL_follow_61 ?_
            refine hp_c (v := (nI x9)) (rfl) ?_
            refine lv_icmp_gt (tgt := 71) hx hb dL_follow_62 (by decide) (fun _ => ?_) (fun c9 => absurd (nI_lt (by omega) (by omega)) c9)
            by_cases hg : gh x9 = 0
            · refine lv_aload_n hx hb dL_follow_71 rfl (lv_at hl9 3 rfl) ?_
              refine lv_iconst (v := 0) hx hb dL_follow_72 (by decide) ?_
              have h86 : f9 lh = some (.inl (cJ G, 1, .inr (.inl hh))) := (hEq.k hk9) _ _ k_lh (ninc n_lh_lr (ninc n_lh_lg nin0))
              refine hp_lald B0 hw h86 (by unfold vp_in; decide) dL_follow_73 ?_
              refine hp_cl (v := (lN hn)) (hh0) ?_
              refine lv_aload_n hx hb dL_follow_74 rfl (lv_at hl9 5 rfl) ?_
              refine lv_bipush (v := 8) hx hb dL_follow_75 (by decide) ?_
              refine hp_iald B0 hw hg9 (by unfold vp_in; decide) dL_follow_77 ?_
              refine hp_c (v := (nI x9)) (rfl) ?_
              refine lv_lshr (v := (lN (hn / 2 ^ x9))) hx hb dL_follow_78 (shr_n (s := x9) (by omega) (by omega) rfl) ?_
              refine lv_lconst (v := lN 1) hx hb dL_follow_79 rfl ?_
              refine lv_land hx hb dL_follow_80 ?_
              refine hp_cl (v := (lN ((hn / 2 ^ x9) % 2))) (g_mask (s := 1) (p := 2) rfl (by omega) (by exact Nat.lt_of_le_of_lt (Nat.div_le_self _ _) (by omega))) ?_
              refine lv_lconst (v := lN 1) hx hb dL_follow_81 rfl ?_
              refine W.lcmp hx hb dL_follow_82 ?_
              refine lv_if_ne (tgt := 90) hx hb dL_follow_83 (by decide) (fun _ => ?_) (fun c9 => absurd c9 (lgc0 (hHB.z (by omega) hg)))
              refine lv_iconst (v := 0) hx hb dL_follow_90 (by decide) ?_
              refine lv_istore (lv' := [(6, .int 0), (5, .int (nI (pk x9))), (4, .int (bnd gl)), (0, .ref lb), (1, .ref lh), (2, .ref lr), (3, .ref lg)]) hx hb dL_follow_91 hl9 (by decide) rfl (fun ls hl9 => ?_)
              refine lv_iload hx hb dL_follow_93 (lv_at hl9 0 rfl) ?_
              refine lv_if_ne (tgt := 108) hx hb dL_follow_95 (by decide) (fun c9 => absurd (by decide) c9) (fun _ => ?_)
              refine lv_aload_n hx hb dL_follow_98 rfl (lv_at hl9 6 rfl) ?_
              refine lv_bipush (v := 8) hx hb dL_follow_99 (by decide) ?_
              refine hp_iald B0 hw hg9 (by unfold vp_in; decide) dL_follow_101 ?_
              refine hp_c (v := (nI x9)) (rfl) ?_
              refine lv_iload hx hb dL_follow_102 (lv_at hl9 2 rfl) ?_
              refine lv_icmp_lt (tgt := 108) hx hb dL_follow_104 (by decide) (fun c87 => ?_) (fun c87 => ?_)
              · refine lv_iload hx hb dL_follow_108 (lv_at hl9 0 rfl) ?_
                refine lv_if_eq (tgt := 124) hx hb dL_follow_110 (by decide) (fun _ => ?_) (fun c9 => absurd (by decide) c9)
                refine lv_aload_n hx hb dL_follow_124 rfl (lv_at hl9 6 rfl) ?_
                refine lv_bipush (v := 8) hx hb dL_follow_125 (by decide) ?_
                refine lv_dup2_11 hx hb dL_follow_127 rfl rfl ?_
                refine hp_iald B0 hw hg9 (by unfold vp_in; decide) dL_follow_128 ?_
                refine hp_c (v := (nI x9)) (rfl) ?_
                refine lv_iconst (v := 1) hx hb dL_follow_129 (by decide) ?_
                refine lv_iadd hx hb dL_follow_130 ?_
                refine hp_c (v := (nI (x9 + 1))) (nI_1 x9) ?_
                refine hp_iast B0 hw hS hg9 (by unfold vp_in; decide) dL_follow_131 (fun H locs f88 ef88 hw hS => ?_)
                rw [show (upd (g10r tk gl a n x9 c9) (8 : Int32).toNatClampNeg (nI (x9 + 1)) : Nat → Int32) = (g10r tk gl a n (x9 + 1) c9) from g10_8] at ef88
                have h89 : f88 lg = some (.inl (cI G, 10, .inl (g10r tk gl a n (x9 + 1) c9))) := by rw [ef88, va_up_self]
                refine lv_goto (tgt := 41) hx hb dL_follow_132 (by decide) ?_
                have hst9 : bStep a sa pk gh (bnd gl) c9 x9 gv9 = some (c9, (x9 + 1), gv9) := (by unfold bStep; rw [if_pos hxl, if_neg (fun h9 => h9.1 hg), if_neg (fun h9 => h9.2 c87)])
                have hsb := hB8.step hst9
                have h90 : f88 lr = some (.inl (cI G, 60, .inl (nf gv9))) := by rw [ef88, va_up_ne _ _ n_lr_lg]; exact hr9
                exact ih _ _ H locs ls ⟨c9, (x9 + 1), pk x9, gv9, (by rw [← hR9, show 240 - jj = (240 - (jj + 1)) + 1 by omega, bRun_some hst9]), hsb.1, (fun h9 => hB8.pkm (Nat.le_of_lt hsb.2) h9), (by have := hsb.2; omega), h90, h89, ((show hEq [lr, lg] f f9 from (hEq.mono hk9 (fun _ h9 => h9))).tr (show hEq [lr, lg] f9 f88 from (by rw [ef88]; exact hEq.up (List.mem_cons_of_mem _ List.mem_cons_self)))), rfl⟩ hw hS (lv_sub hl9 [1, 2, 3, 4, 5, 6] rfl)
              · have hst9 : bStep a sa pk gh (bnd gl) c9 x9 gv9 = none := (by unfold bStep; rw [if_pos hxl, if_neg (fun h9 => h9.1 hg), if_pos ⟨hg, c87⟩])
                exact hp_vret B0 hw hS hr ⟨Nat.le_of_ble_eq_true rfl, Nat.le_of_ble_eq_true rfl⟩ dL_follow_107 (⟨rfl, c9, x9, gv9, (by rw [← hR9, bRun_none hst9]), hB8, hr9, hg9, (show hEq [lr, lg] f f9 from (hEq.mono hk9 (fun _ h9 => h9)))⟩)
            · refine lv_aload_n hx hb dL_follow_71 rfl (lv_at hl9 3 rfl) ?_
              refine lv_iconst (v := 0) hx hb dL_follow_72 (by decide) ?_
              have h91 : f9 lh = some (.inl (cJ G, 1, .inr (.inl hh))) := (hEq.k hk9) _ _ k_lh (ninc n_lh_lr (ninc n_lh_lg nin0))
              refine hp_lald B0 hw h91 (by unfold vp_in; decide) dL_follow_73 ?_
              refine hp_cl (v := (lN hn)) (hh0) ?_
              refine lv_aload_n hx hb dL_follow_74 rfl (lv_at hl9 5 rfl) ?_
              refine lv_bipush (v := 8) hx hb dL_follow_75 (by decide) ?_
              refine hp_iald B0 hw hg9 (by unfold vp_in; decide) dL_follow_77 ?_
              refine hp_c (v := (nI x9)) (rfl) ?_
              refine lv_lshr (v := (lN (hn / 2 ^ x9))) hx hb dL_follow_78 (shr_n (s := x9) (by omega) (by omega) rfl) ?_
              refine lv_lconst (v := lN 1) hx hb dL_follow_79 rfl ?_
              refine lv_land hx hb dL_follow_80 ?_
              refine hp_cl (v := (lN ((hn / 2 ^ x9) % 2))) (g_mask (s := 1) (p := 2) rfl (by omega) (by exact Nat.lt_of_le_of_lt (Nat.div_le_self _ _) (by omega))) ?_
              refine lv_lconst (v := lN 1) hx hb dL_follow_81 rfl ?_
              refine W.lcmp hx hb dL_follow_82 ?_
              refine lv_if_ne (tgt := 90) hx hb dL_follow_83 (by decide) (fun c9 => absurd (lgc1 (hHB.o (by omega) hg)) c9) (fun _ => ?_)
              refine lv_iconst (v := 1) hx hb dL_follow_86 (by decide) ?_
              refine lv_goto (tgt := 91) hx hb dL_follow_87 (by decide) ?_
              refine lv_istore (lv' := [(6, .int 1), (5, .int (nI (pk x9))), (4, .int (bnd gl)), (0, .ref lb), (1, .ref lh), (2, .ref lr), (3, .ref lg)]) hx hb dL_follow_91 hl9 (by decide) rfl (fun ls hl9 => ?_)
              refine lv_iload hx hb dL_follow_93 (lv_at hl9 0 rfl) ?_
              refine lv_if_ne (tgt := 108) hx hb dL_follow_95 (by decide) (fun _ => ?_) (fun c9 => absurd c9 (by decide))
              refine lv_iload hx hb dL_follow_108 (lv_at hl9 0 rfl) ?_
              refine lv_if_eq (tgt := 124) hx hb dL_follow_110 (by decide) (fun c9 => absurd c9 (by decide)) (fun _ => ?_)
              refine lv_aload_n hx hb dL_follow_113 rfl (lv_at hl9 6 rfl) ?_
              refine lv_bipush (v := 8) hx hb dL_follow_114 (by decide) ?_
              refine hp_iald B0 hw hg9 (by unfold vp_in; decide) dL_follow_116 ?_
              refine hp_c (v := (nI x9)) (rfl) ?_
              refine lv_aload_n hx hb dL_follow_117 rfl (lv_at hl9 3 rfl) ?_
              refine lv_iload hx hb dL_follow_118 (lv_at hl9 1 rfl) ?_
              refine hp_iald B0 hw h85 (vp_in_nI (show pk x9 < 64 by omega) (by omega)) dL_follow_120 ?_
              refine hp_c (v := (nI (sa (pk x9)))) (nf_at (nI_clamp (by omega))) ?_
              refine lv_icmp_le (tgt := 135) hx hb dL_follow_121 (by decide) (fun c92 => ?_) (fun c92 => ?_)
              · refine lv_aload_n hx hb dL_follow_135 rfl (lv_at hl9 6 rfl) ?_
                refine lv_bipush (v := 8) hx hb dL_follow_136 (by decide) ?_
                refine hp_iald B0 hw hg9 (by unfold vp_in; decide) dL_follow_138 ?_
                refine hp_c (v := (nI x9)) (rfl) ?_
                refine lv_istore (lv' := [(7, .int (nI x9)), (6, .int 1), (5, .int (nI (pk x9))), (4, .int (bnd gl)), (0, .ref lb), (1, .ref lh), (2, .ref lr), (3, .ref lg)]) hx hb dL_follow_139 hl9 (by decide) rfl (fun ls hl9 => ?_)
                have hsx : sa (pk x9) = x9 := Nat.le_antisymm hq2 (by have h9 := (nI_leI (by omega) (by omega)).mp c92; exact h9)
                refine hp_for (nL := 8) (pc := 141) (fun i f8 lv8 => f8 = f9 ∧ fGap gh (sa (pk x9 + 1) - x9) x9 = fGap gh (sa (pk x9 + 1) - x9 - i) (x9 + i) ∧ lv8 = [(7, .int (nI (x9 + i))), (5, .int (nI (pk x9))), (4, .int (bnd gl)), (0, .ref lb), (1, .ref lh), (2, .ref lr), (3, .ref lg)]) (sa (pk x9 + 1) - x9) (fun i f8 lv8 H locs ls hi hI hw hS hl9 ih2 => ?_) (fun f8 lv8 H locs ls hI hw hS hl9 => ?_) (sa (pk x9 + 1) - x9) 0 (Nat.zero_add _) f9 _ _ _ ls ⟨rfl, rfl, rfl⟩ hw hS (lv_sub hl9 [0, 2, 3, 4, 5, 6, 7] rfl)
                · obtain ⟨ef8, eg8, el8⟩ := hI
                  rw [ef8] at hw
                  rw [el8] at hl9
                  refine lv_iload hx hb dL_follow_141 (lv_at hl9 0 rfl) ?_
                  refine lv_aload_n hx hb dL_follow_143 rfl (lv_at hl9 3 rfl) ?_
                  refine lv_iload hx hb dL_follow_144 (lv_at hl9 1 rfl) ?_
                  refine lv_iconst (v := 1) hx hb dL_follow_146 (by decide) ?_
                  refine lv_iadd hx hb dL_follow_147 ?_
                  refine hp_c (v := (nI (pk x9 + 1))) (nI_1 _) ?_
                  refine hp_iald B0 hw h85 (vp_in_nI (show pk x9 + 1 < 64 by omega) (by omega)) dL_follow_148 ?_
                  refine hp_c (v := (nI (sa (pk x9 + 1)))) (nf_at (nI_clamp (by omega))) ?_
                  refine lv_icmp_ge (tgt := 171) hx hb dL_follow_149 (by decide) (fun c9 => absurd c9 (nI_ge (by omega) (by omega))) (fun _ => ?_)
                  by_cases hg2 : gh (x9 + i) = 0
                  · refine lv_aload_n hx hb dL_follow_152 rfl (lv_at hl9 4 rfl) ?_
                    refine lv_iconst (v := 0) hx hb dL_follow_153 (by decide) ?_
                    refine hp_lald B0 hw h91 (by unfold vp_in; decide) dL_follow_154 ?_
                    refine hp_cl (v := (lN hn)) (hh0) ?_
                    refine lv_iload hx hb dL_follow_155 (lv_at hl9 0 rfl) ?_
                    refine lv_lshr (v := (lN (hn / 2 ^ (x9 + i)))) hx hb dL_follow_157 (shr_n (s := x9 + i) (by omega) (by omega) rfl) ?_
                    refine lv_lconst (v := lN 1) hx hb dL_follow_158 rfl ?_
                    refine lv_land hx hb dL_follow_159 ?_
                    refine hp_cl (v := (lN ((hn / 2 ^ (x9 + i)) % 2))) (g_mask (s := 1) (p := 2) rfl (by omega) (by exact Nat.lt_of_le_of_lt (Nat.div_le_self _ _) (by omega))) ?_
                    refine lv_lconst (v := lN 1) hx hb dL_follow_160 rfl ?_
                    refine W.lcmp hx hb dL_follow_161 ?_
                    refine lv_if_ne (tgt := 171) hx hb dL_follow_162 (by decide) (fun _ => ?_) (fun c9 => absurd c9 (lgc0 (hHB.z (by omega) hg2)))
                    have eg9 : fGap gh (sa (pk x9 + 1) - x9) x9 = x9 + i := fGap_r eg8 (by omega) hg2
                    refine lv_iload hx hb dL_follow_171 (lv_at hl9 0 rfl) ?_
                    refine lv_aload_n hx hb dL_follow_173 rfl (lv_at hl9 3 rfl) ?_
                    refine lv_iload hx hb dL_follow_174 (lv_at hl9 1 rfl) ?_
                    refine lv_iconst (v := 1) hx hb dL_follow_176 (by decide) ?_
                    refine lv_iadd hx hb dL_follow_177 ?_
                    refine hp_c (v := (nI (pk x9 + 1))) (nI_1 _) ?_
                    refine hp_iald B0 hw h85 (vp_in_nI (show pk x9 + 1 < 64 by omega) (by omega)) dL_follow_178 ?_
                    refine hp_c (v := (nI (sa (pk x9 + 1)))) (nf_at (nI_clamp (by omega))) ?_
                    refine lv_icmp_ne (tgt := 207) hx hb dL_follow_179 (by decide) (fun _ => ?_) (fun c9 => absurd c9 (fun h9 => by have h8 := (nI_eq (show x9 + i < 2 ^ 31 by omega) (show sa (pk x9 + 1) < 2 ^ 31 by omega)).mp h9; omega))
                    refine lv_iload hx hb dL_follow_207 (lv_at hl9 0 rfl) ?_
                    refine lv_iload hx hb dL_follow_209 (lv_at hl9 2 rfl) ?_
                    refine lv_icmp_ge (tgt := 225) hx hb dL_follow_211 (by decide) (fun c93 => ?_) (fun c93 => ?_)
                    · have hst9 : bStep a sa pk gh (bnd gl) c9 x9 gv9 = none := (by unfold bStep; rw [if_pos hxl, if_pos ⟨hg, hsx⟩, eg9, if_neg (show ¬ x9 + i = sa (pk x9 + 1) by omega), if_neg (fun h9 => absurd h9 (Int32.not_lt.mpr c93))])
                      exact hp_vret B0 hw hS hr ⟨Nat.le_of_ble_eq_true rfl, Nat.le_of_ble_eq_true rfl⟩ dL_follow_225 (⟨rfl, c9, x9, gv9, (by rw [← hR9, bRun_none hst9]), hB8, hr9, hg9, (show hEq [lr, lg] f f9 from (hEq.mono hk9 (fun _ h9 => h9)))⟩)
                    · refine lv_aload_n hx hb dL_follow_214 rfl (lv_at hl9 6 rfl) ?_
                      refine lv_bipush (v := 8) hx hb dL_follow_215 (by decide) ?_
                      refine lv_iload hx hb dL_follow_217 (lv_at hl9 0 rfl) ?_
                      refine lv_iconst (v := 1) hx hb dL_follow_219 (by decide) ?_
                      refine lv_iadd hx hb dL_follow_220 ?_
                      refine hp_c (v := (nI (x9 + i + 1))) (nI_1 (x9 + i)) ?_
                      refine hp_iast B0 hw hS hg9 (by unfold vp_in; decide) dL_follow_221 (fun H locs f94 ef94 hw hS => ?_)
                      rw [show (upd (g10r tk gl a n x9 c9) (8 : Int32).toNatClampNeg (nI (x9 + i + 1)) : Nat → Int32) = (g10r tk gl a n (x9 + i + 1) c9) from g10_8] at ef94
                      have h95 : f94 lg = some (.inl (cI G, 10, .inl (g10r tk gl a n (x9 + i + 1) c9))) := by rw [ef94, va_up_self]
                      refine lv_goto (tgt := 226) hx hb dL_follow_222 (by decide) ?_
                      refine lv_goto (tgt := 41) hx hb dL_follow_226 (by decide) ?_
                      have hst9 : bStep a sa pk gh (bnd gl) c9 x9 gv9 = some (c9, (x9 + i + 1), gv9) := (by unfold bStep; rw [if_pos hxl, if_pos ⟨hg, hsx⟩, eg9, if_neg (show ¬ x9 + i = sa (pk x9 + 1) by omega), if_pos (Int32.not_le.mp c93)])
                      have hsb := hB8.step hst9
                      have h96 : f94 lr = some (.inl (cI G, 60, .inl (nf gv9))) := by rw [ef94, va_up_ne _ _ n_lr_lg]; exact hr9
                      exact ih _ _ H locs ls ⟨c9, (x9 + i + 1), pk x9, gv9, (by rw [← hR9, show 240 - jj = (240 - (jj + 1)) + 1 by omega, bRun_some hst9]), hsb.1, (fun h9 => hB8.pkm (Nat.le_of_lt hsb.2) h9), (by have := hsb.2; omega), h96, h95, ((show hEq [lr, lg] f f9 from (hEq.mono hk9 (fun _ h9 => h9))).tr (show hEq [lr, lg] f9 f94 from (by rw [ef94]; exact hEq.up (List.mem_cons_of_mem _ List.mem_cons_self)))), rfl⟩ hw hS (lv_sub hl9 [1, 2, 3, 4, 5, 6] rfl)
                  · refine lv_aload_n hx hb dL_follow_152 rfl (lv_at hl9 4 rfl) ?_
                    refine lv_iconst (v := 0) hx hb dL_follow_153 (by decide) ?_
                    refine hp_lald B0 hw h91 (by unfold vp_in; decide) dL_follow_154 ?_
                    refine hp_cl (v := (lN hn)) (hh0) ?_
                    refine lv_iload hx hb dL_follow_155 (lv_at hl9 0 rfl) ?_
                    refine lv_lshr (v := (lN (hn / 2 ^ (x9 + i)))) hx hb dL_follow_157 (shr_n (s := x9 + i) (by omega) (by omega) rfl) ?_
                    refine lv_lconst (v := lN 1) hx hb dL_follow_158 rfl ?_
                    refine lv_land hx hb dL_follow_159 ?_
                    refine hp_cl (v := (lN ((hn / 2 ^ (x9 + i)) % 2))) (g_mask (s := 1) (p := 2) rfl (by omega) (by exact Nat.lt_of_le_of_lt (Nat.div_le_self _ _) (by omega))) ?_
                    refine lv_lconst (v := lN 1) hx hb dL_follow_160 rfl ?_
                    refine W.lcmp hx hb dL_follow_161 ?_
                    refine lv_if_ne (tgt := 171) hx hb dL_follow_162 (by decide) (fun c9 => absurd (lgc1 (hHB.o (by omega) hg2)) c9) (fun _ => ?_)
                    refine lv_iinc (v := (nI (x9 + (i + 1)))) (lv' := [(7, .int (nI (x9 + (i + 1)))), (5, .int (nI (pk x9))), (4, .int (bnd gl)), (0, .ref lb), (1, .ref lh), (2, .ref lr), (3, .ref lg)]) hx hb dL_follow_165 hl9 (k := 0) rfl (nI_1 (x9 + i)) (by decide) rfl (fun ls hl9 => ?_)
                    refine lv_goto (tgt := 141) hx hb dL_follow_168 (by decide) ?_
                    exact ih2 _ _ H locs ls ⟨rfl, (by rw [eg8, show sa (pk x9 + 1) - x9 - i = (sa (pk x9 + 1) - x9 - (i + 1)) + 1 by omega, fGap_s hg2]; rfl), rfl⟩ hw hS (lv_sub hl9 [0, 1, 2, 3, 4, 5, 6] rfl)
                · obtain ⟨ef8, eg8, el8⟩ := hI
                  rw [ef8] at hw
                  rw [el8] at hl9
                  rw [show x9 + (sa (pk x9 + 1) - x9) = sa (pk x9 + 1) by omega] at hl9 eg8
                  rw [Nat.sub_self] at eg8
                  have eg9 : fGap gh (sa (pk x9 + 1) - x9) x9 = sa (pk x9 + 1) := eg8
                  refine lv_iload hx hb dL_follow_141 (lv_at hl9 0 rfl) ?_
                  refine lv_aload_n hx hb dL_follow_143 rfl (lv_at hl9 3 rfl) ?_
                  refine lv_iload hx hb dL_follow_144 (lv_at hl9 1 rfl) ?_
                  refine lv_iconst (v := 1) hx hb dL_follow_146 (by decide) ?_
                  refine lv_iadd hx hb dL_follow_147 ?_
                  refine hp_c (v := (nI (pk x9 + 1))) (nI_1 _) ?_
                  refine hp_iald B0 hw h85 (vp_in_nI (show pk x9 + 1 < 64 by omega) (by omega)) dL_follow_148 ?_
                  refine hp_c (v := (nI (sa (pk x9 + 1)))) (nf_at (nI_clamp (by omega))) ?_
                  refine lv_icmp_ge (tgt := 171) hx hb dL_follow_149 (by decide) (fun _ => ?_) (fun c9 => absurd (nI_le (Nat.le_refl _) (by omega)) c9)
                  refine lv_iload hx hb dL_follow_171 (lv_at hl9 0 rfl) ?_
                  refine lv_aload_n hx hb dL_follow_173 rfl (lv_at hl9 3 rfl) ?_
                  refine lv_iload hx hb dL_follow_174 (lv_at hl9 1 rfl) ?_
                  refine lv_iconst (v := 1) hx hb dL_follow_176 (by decide) ?_
                  refine lv_iadd hx hb dL_follow_177 ?_
                  refine hp_c (v := (nI (pk x9 + 1))) (nI_1 _) ?_
                  refine hp_iald B0 hw h85 (vp_in_nI (show pk x9 + 1 < 64 by omega) (by omega)) dL_follow_178 ?_
                  refine hp_c (v := (nI (sa (pk x9 + 1)))) (nf_at (nI_clamp (by omega))) ?_
                  refine lv_icmp_ne (tgt := 207) hx hb dL_follow_179 (by decide) (fun c9 => absurd rfl c9) (fun _ => ?_)
                  refine lv_aload_n hx hb dL_follow_182 rfl (lv_at hl9 5 rfl) ?_
                  refine lv_aload_n hx hb dL_follow_183 rfl (lv_at hl9 6 rfl) ?_
                  refine lv_bipush (v := 9) hx hb dL_follow_184 (by decide) ?_
                  refine hp_iald B0 hw hg9 (by unfold vp_in; decide) dL_follow_186 ?_
                  refine hp_c (v := (nI c9)) (rfl) ?_
                  refine lv_iload hx hb dL_follow_187 (lv_at hl9 1 rfl) ?_
                  refine hp_iast B0 hw hS hr9 (vp_in_nI (show c9 < 60 by omega) (by omega)) dL_follow_189 (fun H locs f97 ef97 hw hS => ?_)
                  rw [show (upd (nf gv9) ((nI c9) : Int32).toNatClampNeg (nI (pk x9)) : Nat → Int32) = (nf (va_up gv9 c9 (pk x9))) from (by rw [nI_clamp (by omega), nf_up])] at ef97
                  have h98 : f97 lr = some (.inl (cI G, 60, .inl (nf (va_up gv9 c9 (pk x9))))) := by rw [ef97, va_up_self]
                  refine lv_aload_n hx hb dL_follow_190 rfl (lv_at hl9 6 rfl) ?_
                  refine lv_bipush (v := 9) hx hb dL_follow_191 (by decide) ?_
                  refine lv_dup2_11 hx hb dL_follow_193 rfl rfl ?_
                  have h99 : f97 lg = some (.inl (cI G, 10, .inl (g10r tk gl a n x9 c9))) := by rw [ef97, va_up_ne _ _ (Ne.symm n_lr_lg)]; exact hg9
                  refine hp_iald B0 hw h99 (by unfold vp_in; decide) dL_follow_194 ?_
                  refine hp_c (v := (nI c9)) (rfl) ?_
                  refine lv_iconst (v := 1) hx hb dL_follow_195 (by decide) ?_
                  refine lv_iadd hx hb dL_follow_196 ?_
                  refine hp_c (v := (nI (c9 + 1))) (nI_1 c9) ?_
                  refine hp_iast B0 hw hS h99 (by unfold vp_in; decide) dL_follow_197 (fun H locs f100 ef100 hw hS => ?_)
                  rw [show (upd (g10r tk gl a n x9 c9) (9 : Int32).toNatClampNeg (nI (c9 + 1)) : Nat → Int32) = (g10r tk gl a n x9 (c9 + 1)) from g10_9] at ef100
                  have h101 : f100 lg = some (.inl (cI G, 10, .inl (g10r tk gl a n x9 (c9 + 1)))) := by rw [ef100, va_up_self]
                  refine lv_aload_n hx hb dL_follow_198 rfl (lv_at hl9 6 rfl) ?_
                  refine lv_bipush (v := 8) hx hb dL_follow_199 (by decide) ?_
                  refine lv_iload hx hb dL_follow_201 (lv_at hl9 0 rfl) ?_
                  refine hp_iast B0 hw hS h101 (by unfold vp_in; decide) dL_follow_203 (fun H locs f102 ef102 hw hS => ?_)
                  rw [show (upd (g10r tk gl a n x9 (c9 + 1)) (8 : Int32).toNatClampNeg (nI (sa (pk x9 + 1))) : Nat → Int32) = (g10r tk gl a n (sa (pk x9 + 1)) (c9 + 1)) from g10_8] at ef102
                  have e103 : f102 = va_up f97 lg (some (.inl (cI G, 10, .inl (g10r tk gl a n (sa (pk x9 + 1)) (c9 + 1))))) := by rw [ef102, ef100, bx_uu]
                  have h104 : f102 lg = some (.inl (cI G, 10, .inl (g10r tk gl a n (sa (pk x9 + 1)) (c9 + 1)))) := by rw [ef102, va_up_self]
                  refine lv_goto (tgt := 226) hx hb dL_follow_204 (by decide) ?_
                  refine lv_goto (tgt := 41) hx hb dL_follow_226 (by decide) ?_
                  have hst9 : bStep a sa pk gh (bnd gl) c9 x9 gv9 = some ((c9 + 1), (sa (pk x9 + 1)), (va_up gv9 c9 (pk x9))) := (by unfold bStep; rw [if_pos hxl, if_pos ⟨hg, hsx⟩, eg9, if_pos rfl])
                  have hsb := hB8.step hst9
                  have h105 : f102 lr = some (.inl (cI G, 60, .inl (nf (va_up gv9 c9 (pk x9))))) := by rw [e103, va_up_ne _ _ n_lr_lg]; exact h98
                  exact ih _ _ H locs ls ⟨(c9 + 1), (sa (pk x9 + 1)), pk x9, (va_up gv9 c9 (pk x9)), (by rw [← hR9, show 240 - jj = (240 - (jj + 1)) + 1 by omega, bRun_some hst9]), hsb.1, (fun h9 => hB8.pkm (Nat.le_of_lt hsb.2) h9), (by have := hsb.2; omega), h105, h104, ((show hEq [lr, lg] f f9 from (hEq.mono hk9 (fun _ h9 => h9))).tr ((show hEq [lr, lg] f9 f97 from (by rw [ef97]; exact hEq.up List.mem_cons_self)).tr (show hEq [lr, lg] f97 f102 from (by rw [e103]; exact hEq.up (List.mem_cons_of_mem _ List.mem_cons_self))))), rfl⟩ hw hS (lv_sub hl9 [1, 2, 3, 4, 5, 6] rfl)
              · refine lv_aload_n hx hb dL_follow_124 rfl (lv_at hl9 6 rfl) ?_
                refine lv_bipush (v := 8) hx hb dL_follow_125 (by decide) ?_
                refine lv_dup2_11 hx hb dL_follow_127 rfl rfl ?_
                refine hp_iald B0 hw hg9 (by unfold vp_in; decide) dL_follow_128 ?_
                refine hp_c (v := (nI x9)) (rfl) ?_
                refine lv_iconst (v := 1) hx hb dL_follow_129 (by decide) ?_
                refine lv_iadd hx hb dL_follow_130 ?_
                refine hp_c (v := (nI (x9 + 1))) (nI_1 x9) ?_
                refine hp_iast B0 hw hS hg9 (by unfold vp_in; decide) dL_follow_131 (fun H locs f106 ef106 hw hS => ?_)
                rw [show (upd (g10r tk gl a n x9 c9) (8 : Int32).toNatClampNeg (nI (x9 + 1)) : Nat → Int32) = (g10r tk gl a n (x9 + 1) c9) from g10_8] at ef106
                have h107 : f106 lg = some (.inl (cI G, 10, .inl (g10r tk gl a n (x9 + 1) c9))) := by rw [ef106, va_up_self]
                refine lv_goto (tgt := 41) hx hb dL_follow_132 (by decide) ?_
                have hst9 : bStep a sa pk gh (bnd gl) c9 x9 gv9 = some (c9, (x9 + 1), gv9) := (by unfold bStep; rw [if_pos hxl, if_neg (fun h9 => c92 (by rw [h9.2]; exact nI_le (Nat.le_refl _) (by omega))), if_neg (fun h9 => hg h9.1)])
                have hsb := hB8.step hst9
                have h108 : f106 lr = some (.inl (cI G, 60, .inl (nf gv9))) := by rw [ef106, va_up_ne _ _ n_lr_lg]; exact hr9
                exact ih _ _ H locs ls ⟨c9, (x9 + 1), pk x9, gv9, (by rw [← hR9, show 240 - jj = (240 - (jj + 1)) + 1 by omega, bRun_some hst9]), hsb.1, (fun h9 => hB8.pkm (Nat.le_of_lt hsb.2) h9), (by have := hsb.2; omega), h108, h107, ((show hEq [lr, lg] f f9 from (hEq.mono hk9 (fun _ h9 => h9))).tr (show hEq [lr, lg] f9 f106 from (by rw [ef106]; exact hEq.up (List.mem_cons_of_mem _ List.mem_cons_self)))), rfl⟩ hw hS (lv_sub hl9 [1, 2, 3, 4, 5, 6] rfl)
      · obtain ⟨c9, x9, p9, gv9, hR9, hB8, hp9, hj9, hr9, hg9, hk9, el9⟩ := hI
        exact absurd hj9 (by have := hB8.2.2.2.2.2.1; omega)

