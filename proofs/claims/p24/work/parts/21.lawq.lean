theorem eS_eq (st li sr tm lp mi ix : Int32) (gq : Nat → Int32) (L : List Fr) : eSt (st, li, sr, tm, lp, mi, ix, gq, L) = e8r st li sr tm lp mi ix (nI L.length) := rfl
theorem eS_app {st li sr tm lp mi ix : Int32} {gq : Nat → Int32} {L : List Fr} (r : Fr) : e8r st li sr tm lp mi ix (nI (L.length + 1)) = eSt (st, li, sr, tm, lp, mi, ix, gq, L ++ [r]) := by
  show _ = e8r st li sr tm lp mi ix (nI (L ++ [r]).length)
  rw [List.length_append]
  rfl
set_option maxHeartbeats 4000000 in
set_option maxRecDepth 100000 in
theorem c_L_beg_0 {l : Launch} (hl : l.stackTraces = false) (G : hG) (f : hM) (lf lq le : Nat) (st li sr tm lp mi ix : Int32) (gq : Nat → Int32) (L : List Fr) (F g2 : Nat → Int32) (b : Nat) (hSo : SOK b (st, li, sr, tm, lp, mi, ix, gq, L)) (hbo : b ≤ 1000000) (xs : Nat → Int64) (hX : XS xs L) (hn : L.length < 64) (k_lf : f lf = some (.inl (cJ G, 64, .inr (.inl xs)))) (k_lq : f lq = some (.inl (cI G, 12, .inl (j6r gq g2)))) (k_le : f le = some (.inl (cI G, 16, .inl (jE (e8r st li sr tm lp mi ix (nI L.length)) F)))) : CT l yL_beg (.code yL_beg cL_beg 8 (some .int)) 1 26 0 0 G [.ref lf, .ref lq, .ref le, .int 0] f (fun v f1 => v = some (.int (begV (st, li, sr, tm, lp, mi, ix, gq, L))) ∧ (∃ xs1 : Nat → Int64, f1 lf = some (.inl (cJ G, 64, .inr (.inl xs1))) ∧ XS xs1 (begS (st, li, sr, tm, lp, mi, ix, gq, L)).2.2.2.2.2.2.2.2) ∧ f1 le = some (.inl (cI G, 16, .inl (jE (eSt (begS (st, li, sr, tm, lp, mi, ix, gq, L))) F))) ∧ hEq [lf, le] f f1) (fun E f1 => False) := by
  refine hp_start hl (own := RL) (by decide) rfl (Nat.le_of_ble_eq_true rfl) ?_
  intro p e s m args below meth c B0 hr hnm hout hw hS ls hl9
  have hx := B0.1
  have hb := B0.2.1
  have hl9 : lv_has ls 8 [(0, .ref lf), (1, .ref lq), (2, .ref le), (3, .int 0)] := hl9
  obtain ⟨⟨s9, hs9, hs4⟩, ⟨mm, hm, hmb⟩, ⟨q, hq, hq10⟩, hlp, ⟨xx, hxx, hx4⟩, hgq, hfr⟩ := id hSo
  have hs9 : st = nI s9 := hs9
  have hm : li + 1 = nI mm := hm
  have hq : sr = nI q := hq
  have hlp : lp = 0 ∨ lp = 1 := hlp
  have hxx : ix = nI xx := hxx
  have hgq : ∀ j, j < 6 → VOK (gq j) := hgq
  have hfr : ∀ r ∈ L, FOK b r := hfr
  refine lv_bipush (v := 8) hx hb dL_beg_0 (by decide) ?_
  refine lv_iload_n hx hb dL_beg_2 rfl (lv_at hl9 3 rfl) ?_
  refine lv_imul hx hb dL_beg_3 ?_
  refine hp_c (v := 0) (by decide) ?_
  refine lv_istore (lv' := [(4, .int 0), (0, .ref lf), (1, .ref lq), (2, .ref le), (3, .int 0)]) hx hb dL_beg_4 hl9 (by decide) rfl (fun ls hl9 => ?_)
  refine lv_aload_n hx hb dL_beg_6 rfl (lv_at hl9 3 rfl) ?_
  refine lv_iload hx hb dL_beg_7 (lv_at hl9 0 rfl) ?_
  refine lv_iconst (v := 2) hx hb dL_beg_9 (by decide) ?_
  refine lv_iadd hx hb dL_beg_10 ?_
  refine hp_c (v := 2) (by decide) ?_
  refine hp_iald B0 hw k_le (by unfold vp_in; decide) dL_beg_11 ?_
  refine hp_c (v := sr) (rfl) ?_
  refine lv_bipush (v := 10) hx hb dL_beg_12 (by decide) ?_
  refine lv_icmp_ne (tgt := 24) hx hb dL_beg_14 (by decide) (fun c1 => ?_) (fun c1 => ?_)
  · refine lv_aload_n hx hb dL_beg_24 rfl (lv_at hl9 3 rfl) ?_
    refine lv_iload hx hb dL_beg_25 (lv_at hl9 0 rfl) ?_
    refine lv_iconst (v := 1) hx hb dL_beg_27 (by decide) ?_
    refine lv_iadd hx hb dL_beg_28 ?_
    refine hp_c (v := 1) (by decide) ?_
    refine lv_dup2_11 hx hb dL_beg_29 rfl rfl ?_
    refine hp_iald B0 hw k_le (by unfold vp_in; decide) dL_beg_30 ?_
    refine hp_c (v := li) (rfl) ?_
    refine lv_iconst (v := 1) hx hb dL_beg_31 (by decide) ?_
    refine lv_iadd hx hb dL_beg_32 ?_
    refine hp_iast B0 hw hS k_le (by unfold vp_in; decide) dL_beg_33 (fun H locs f2 ef2 hw hS => ?_)
    rw [show (upd (jE (e8r st li sr tm lp mi ix (nI L.length)) F) (1 : Int32).toNatClampNeg (li + 1) : Nat → Int32) = (jE (e8r st (li + 1) sr tm lp mi ix (nI L.length)) F) from (by rw [show (1 : Int32).toNatClampNeg = 1 from rfl, jE_u0 (by omega), e8_u1])] at ef2
    have h3 : f2 le = some (.inl (cI G, 16, .inl (jE (e8r st (li + 1) sr tm lp mi ix (nI L.length)) F))) := by rw [ef2, va_up_self]
    refine lv_aload_n hx hb dL_beg_34 rfl (lv_at hl9 3 rfl) ?_
    refine lv_iload hx hb dL_beg_35 (lv_at hl9 0 rfl) ?_
    refine lv_iconst (v := 2) hx hb dL_beg_37 (by decide) ?_
    refine lv_iadd hx hb dL_beg_38 ?_
    refine hp_c (v := 2) (by decide) ?_
    refine lv_dup2_11 hx hb dL_beg_39 rfl rfl ?_
    refine hp_iald B0 hw h3 (by unfold vp_in; decide) dL_beg_40 ?_
    refine hp_c (v := sr) (rfl) ?_
    refine lv_iconst (v := 1) hx hb dL_beg_41 (by decide) ?_
    refine lv_iadd hx hb dL_beg_42 ?_
    refine hp_iast B0 hw hS h3 (by unfold vp_in; decide) dL_beg_43 (fun H locs f4 ef4 hw hS => ?_)
    rw [show (upd (jE (e8r st (li + 1) sr tm lp mi ix (nI L.length)) F) (2 : Int32).toNatClampNeg (sr + 1) : Nat → Int32) = (jE (e8r st (li + 1) (sr + 1) tm lp mi ix (nI L.length)) F) from (by rw [show (2 : Int32).toNatClampNeg = 2 from rfl, jE_u0 (by omega), e8_u2])] at ef4
    have e5 : f4 = va_up f le (some (.inl (cI G, 16, .inl (jE (e8r st (li + 1) (sr + 1) tm lp mi ix (nI L.length)) F)))) := by rw [ef4, ef2, bx_uu]
    have h6 : f4 le = some (.inl (cI G, 16, .inl (jE (e8r st (li + 1) (sr + 1) tm lp mi ix (nI L.length)) F))) := by rw [ef4, va_up_self]
    refine lv_aload_n hx hb dL_beg_44 rfl (lv_at hl9 3 rfl) ?_
    refine lv_iload hx hb dL_beg_45 (lv_at hl9 0 rfl) ?_
    refine lv_iconst (v := 3) hx hb dL_beg_47 (by decide) ?_
    refine lv_iadd hx hb dL_beg_48 ?_
    refine hp_c (v := 3) (by decide) ?_
    refine lv_iconst (v := 3) hx hb dL_beg_49 (by decide) ?_
    refine hp_iast B0 hw hS h6 (by unfold vp_in; decide) dL_beg_50 (fun H locs f7 ef7 hw hS => ?_)
    rw [show (upd (jE (e8r st (li + 1) (sr + 1) tm lp mi ix (nI L.length)) F) (3 : Int32).toNatClampNeg 3 : Nat → Int32) = (jE (e8r st (li + 1) (sr + 1) 3 lp mi ix (nI L.length)) F) from (by rw [show (3 : Int32).toNatClampNeg = 3 from rfl, jE_u0 (by omega), e8_u3])] at ef7
    have e8 : f7 = va_up f le (some (.inl (cI G, 16, .inl (jE (e8r st (li + 1) (sr + 1) 3 lp mi ix (nI L.length)) F)))) := by rw [ef7, e5, bx_uu]
    have h10 : f7 le = some (.inl (cI G, 16, .inl (jE (e8r st (li + 1) (sr + 1) 3 lp mi ix (nI L.length)) F))) := by rw [ef7, va_up_self]
    refine lv_lconst (v := lN 0) hx hb dL_beg_51 rfl ?_
    refine lv_lstore (lv' := [(5, .long (lN 0)), (4, .int 0), (0, .ref lf), (1, .ref lq), (2, .ref le), (3, .int 0)]) hx hb dL_beg_52 hl9 (by decide) rfl (fun ls hl9 => ?_)
    refine lv_iconst (v := 5) hx hb dL_beg_54 (by decide) ?_
    refine lv_istore (lv' := [(7, .int 5), (5, .long (lN 0)), (4, .int 0), (0, .ref lf), (1, .ref lq), (2, .ref le), (3, .int 0)]) hx hb dL_beg_55 hl9 (by decide) rfl (fun ls hl9 => ?_)
    refine lv_iload hx hb dL_beg_57 (lv_at hl9 0 rfl) ?_
    refine lv_if_lt (tgt := 89) hx hb dL_beg_59 (by decide) (fun c9 => absurd c9 (by decide)) (fun _ => ?_)
    refine lv_ldc2 (v := 16) hx hb B0.2.2.2.1 (B0.2.2.2.2.1 _ qK_L_71) dL_beg_62 ?_
    refine hp_cl (v := lN 16) rfl ?_
    refine lv_lload hx hb dL_beg_65 (lv_at hl9 1 rfl) ?_
    refine lv_lmul hx hb dL_beg_67 ?_
    refine hp_cl (v := (lN (16 * 0))) (lN_mul _ _) ?_
    refine lv_aload_n hx hb dL_beg_68 rfl (lv_at hl9 4 rfl) ?_
    refine lv_bipush (v := 6) hx hb dL_beg_69 (by decide) ?_
    refine lv_iload_n hx hb dL_beg_71 rfl (lv_at hl9 6 rfl) ?_
    refine lv_imul hx hb dL_beg_72 ?_
    refine hp_c (v := 0) (by decide) ?_
    refine lv_iload hx hb dL_beg_73 (lv_at hl9 0 rfl) ?_
    refine lv_iadd hx hb dL_beg_75 ?_
    refine hp_c (v := 5) (by decide) ?_
    have n12 : lq ≠ le := hneL k_lq k_le (Nat.ne_of_beq_eq_false rfl)
    have h11 : f7 lq = some (.inl (cI G, 12, .inl (j6r gq g2))) := by rw [e8, va_up_ne _ _ n12]; exact k_lq
    refine hp_iald B0 hw h11 (by unfold vp_in; decide) dL_beg_76 ?_
    refine hp_c (v := (gq 5)) (rfl) ?_
    refine lv_i2l (v := (((gq 5) : Int32).toInt64)) hx hb dL_beg_77 (rfl) ?_
    refine lv_ladd hx hb dL_beg_78 ?_
    refine lv_lconst (v := lN 1) hx hb dL_beg_79 rfl ?_
    refine lv_ladd hx hb dL_beg_80 ?_
    refine hp_cl (v := (lN (16 * 0 + nib (gq 5)))) (vadd (hgq 5 (by omega)) _) ?_
    refine lv_lstore (lv' := [(5, .long (lN (16 * 0 + nib (gq 5)))), (7, .int 5), (4, .int 0), (0, .ref lf), (1, .ref lq), (2, .ref le), (3, .int 0)]) hx hb dL_beg_81 hl9 (by decide) rfl (fun ls hl9 => ?_)
    refine lv_iinc (v := 4) (lv' := [(7, .int 4), (5, .long (lN (16 * 0 + nib (gq 5)))), (4, .int 0), (0, .ref lf), (1, .ref lq), (2, .ref le), (3, .int 0)]) hx hb dL_beg_83 hl9 (k := 1) rfl (by decide) (by decide) rfl (fun ls hl9 => ?_)
    refine lv_goto (tgt := 57) hx hb dL_beg_86 (by decide) ?_
    refine lv_iload hx hb dL_beg_57 (lv_at hl9 0 rfl) ?_
    refine lv_if_lt (tgt := 89) hx hb dL_beg_59 (by decide) (fun c9 => absurd c9 (by decide)) (fun _ => ?_)
    refine lv_ldc2 (v := 16) hx hb B0.2.2.2.1 (B0.2.2.2.2.1 _ qK_L_71) dL_beg_62 ?_
    refine hp_cl (v := lN 16) rfl ?_
    refine lv_lload hx hb dL_beg_65 (lv_at hl9 1 rfl) ?_
    refine lv_lmul hx hb dL_beg_67 ?_
    refine hp_cl (v := (lN (16 * (16 * 0 + nib (gq 5))))) (lN_mul _ _) ?_
    refine lv_aload_n hx hb dL_beg_68 rfl (lv_at hl9 4 rfl) ?_
    refine lv_bipush (v := 6) hx hb dL_beg_69 (by decide) ?_
    refine lv_iload_n hx hb dL_beg_71 rfl (lv_at hl9 6 rfl) ?_
    refine lv_imul hx hb dL_beg_72 ?_
    refine hp_c (v := 0) (by decide) ?_
    refine lv_iload hx hb dL_beg_73 (lv_at hl9 0 rfl) ?_
    refine lv_iadd hx hb dL_beg_75 ?_
    refine hp_c (v := 4) (by decide) ?_
    refine hp_iald B0 hw h11 (by unfold vp_in; decide) dL_beg_76 ?_
    refine hp_c (v := (gq 4)) (rfl) ?_
    refine lv_i2l (v := (((gq 4) : Int32).toInt64)) hx hb dL_beg_77 (rfl) ?_
    refine lv_ladd hx hb dL_beg_78 ?_
    refine lv_lconst (v := lN 1) hx hb dL_beg_79 rfl ?_
    refine lv_ladd hx hb dL_beg_80 ?_
    refine hp_cl (v := (lN (16 * (16 * 0 + nib (gq 5)) + nib (gq 4)))) (vadd (hgq 4 (by omega)) _) ?_
    refine lv_lstore (lv' := [(5, .long (lN (16 * (16 * 0 + nib (gq 5)) + nib (gq 4)))), (7, .int 4), (4, .int 0), (0, .ref lf), (1, .ref lq), (2, .ref le), (3, .int 0)]) hx hb dL_beg_81 hl9 (by decide) rfl (fun ls hl9 => ?_)
    refine lv_iinc (v := 3) (lv' := [(7, .int 3), (5, .long (lN (16 * (16 * 0 + nib (gq 5)) + nib (gq 4)))), (4, .int 0), (0, .ref lf), (1, .ref lq), (2, .ref le), (3, .int 0)]) hx hb dL_beg_83 hl9 (k := 1) rfl (by decide) (by decide) rfl (fun ls hl9 => ?_)
    refine lv_goto (tgt := 57) hx hb dL_beg_86 (by decide) ?_
    refine lv_iload hx hb dL_beg_57 (lv_at hl9 0 rfl) ?_
    refine lv_if_lt (tgt := 89) hx hb dL_beg_59 (by decide) (fun c9 => absurd c9 (by decide)) (fun _ => ?_)
    refine lv_ldc2 (v := 16) hx hb B0.2.2.2.1 (B0.2.2.2.2.1 _ qK_L_71) dL_beg_62 ?_
    refine hp_cl (v := lN 16) rfl ?_
    refine lv_lload hx hb dL_beg_65 (lv_at hl9 1 rfl) ?_
    refine lv_lmul hx hb dL_beg_67 ?_
    refine hp_cl (v := (lN (16 * (16 * (16 * 0 + nib (gq 5)) + nib (gq 4))))) (lN_mul _ _) ?_
    refine lv_aload_n hx hb dL_beg_68 rfl (lv_at hl9 4 rfl) ?_
    refine lv_bipush (v := 6) hx hb dL_beg_69 (by decide) ?_
    refine lv_iload_n hx hb dL_beg_71 rfl (lv_at hl9 6 rfl) ?_
    refine lv_imul hx hb dL_beg_72 ?_
    refine hp_c (v := 0) (by decide) ?_
    refine lv_iload hx hb dL_beg_73 (lv_at hl9 0 rfl) ?_
    refine lv_iadd hx hb dL_beg_75 ?_
    refine hp_c (v := 3) (by decide) ?_
    refine hp_iald B0 hw h11 (by unfold vp_in; decide) dL_beg_76 ?_
    refine hp_c (v := (gq 3)) (rfl) ?_
    refine lv_i2l (v := (((gq 3) : Int32).toInt64)) hx hb dL_beg_77 (rfl) ?_
    refine lv_ladd hx hb dL_beg_78 ?_
    refine lv_lconst (v := lN 1) hx hb dL_beg_79 rfl ?_
    refine lv_ladd hx hb dL_beg_80 ?_
    refine hp_cl (v := (lN (16 * (16 * (16 * 0 + nib (gq 5)) + nib (gq 4)) + nib (gq 3)))) (vadd (hgq 3 (by omega)) _) ?_
    refine lv_lstore (lv' := [(5, .long (lN (16 * (16 * (16 * 0 + nib (gq 5)) + nib (gq 4)) + nib (gq 3)))), (7, .int 3), (4, .int 0), (0, .ref lf), (1, .ref lq), (2, .ref le), (3, .int 0)]) hx hb dL_beg_81 hl9 (by decide) rfl (fun ls hl9 => ?_)
    refine lv_iinc (v := 2) (lv' := [(7, .int 2), (5, .long (lN (16 * (16 * (16 * 0 + nib (gq 5)) + nib (gq 4)) + nib (gq 3)))), (4, .int 0), (0, .ref lf), (1, .ref lq), (2, .ref le), (3, .int 0)]) hx hb dL_beg_83 hl9 (k := 1) rfl (by decide) (by decide) rfl (fun ls hl9 => ?_)
    refine lv_goto (tgt := 57) hx hb dL_beg_86 (by decide) ?_
    refine lv_iload hx hb dL_beg_57 (lv_at hl9 0 rfl) ?_
    refine lv_if_lt (tgt := 89) hx hb dL_beg_59 (by decide) (fun c9 => absurd c9 (by decide)) (fun _ => ?_)
    refine lv_ldc2 (v := 16) hx hb B0.2.2.2.1 (B0.2.2.2.2.1 _ qK_L_71) dL_beg_62 ?_
    refine hp_cl (v := lN 16) rfl ?_
    refine lv_lload hx hb dL_beg_65 (lv_at hl9 1 rfl) ?_
    refine lv_lmul hx hb dL_beg_67 ?_
    refine hp_cl (v := (lN (16 * (16 * (16 * (16 * 0 + nib (gq 5)) + nib (gq 4)) + nib (gq 3))))) (lN_mul _ _) ?_
    refine lv_aload_n hx hb dL_beg_68 rfl (lv_at hl9 4 rfl) ?_
    refine lv_bipush (v := 6) hx hb dL_beg_69 (by decide) ?_
    refine lv_iload_n hx hb dL_beg_71 rfl (lv_at hl9 6 rfl) ?_
    refine lv_imul hx hb dL_beg_72 ?_
    refine hp_c (v := 0) (by decide) ?_
    refine lv_iload hx hb dL_beg_73 (lv_at hl9 0 rfl) ?_
    refine lv_iadd hx hb dL_beg_75 ?_
    refine hp_c (v := 2) (by decide) ?_
    refine hp_iald B0 hw h11 (by unfold vp_in; decide) dL_beg_76 ?_
    refine hp_c (v := (gq 2)) (rfl) ?_
    refine lv_i2l (v := (((gq 2) : Int32).toInt64)) hx hb dL_beg_77 (rfl) ?_
    refine lv_ladd hx hb dL_beg_78 ?_
    refine lv_lconst (v := lN 1) hx hb dL_beg_79 rfl ?_
    refine lv_ladd hx hb dL_beg_80 ?_
    refine hp_cl (v := (lN (16 * (16 * (16 * (16 * 0 + nib (gq 5)) + nib (gq 4)) + nib (gq 3)) + nib (gq 2)))) (vadd (hgq 2 (by omega)) _) ?_
    refine lv_lstore (lv' := [(5, .long (lN (16 * (16 * (16 * (16 * 0 + nib (gq 5)) + nib (gq 4)) + nib (gq 3)) + nib (gq 2)))), (7, .int 2), (4, .int 0), (0, .ref lf), (1, .ref lq), (2, .ref le), (3, .int 0)]) hx hb dL_beg_81 hl9 (by decide) rfl (fun ls hl9 => ?_)
    refine lv_iinc (v := 1) (lv' := [(7, .int 1), (5, .long (lN (16 * (16 * (16 * (16 * 0 + nib (gq 5)) + nib (gq 4)) + nib (gq 3)) + nib (gq 2)))), (4, .int 0), (0, .ref lf), (1, .ref lq), (2, .ref le), (3, .int 0)]) hx hb dL_beg_83 hl9 (k := 1) rfl (by decide) (by decide) rfl (fun ls hl9 => ?_)
    refine lv_goto (tgt := 57) hx hb dL_beg_86 (by decide) ?_
    refine lv_iload hx hb dL_beg_57 (lv_at hl9 0 rfl) ?_
    refine lv_if_lt (tgt := 89) hx hb dL_beg_59 (by decide) (fun c9 => absurd c9 (by decide)) (fun _ => ?_)
    refine lv_ldc2 (v := 16) hx hb B0.2.2.2.1 (B0.2.2.2.2.1 _ qK_L_71) dL_beg_62 ?_
    refine hp_cl (v := lN 16) rfl ?_
    refine lv_lload hx hb dL_beg_65 (lv_at hl9 1 rfl) ?_
    refine lv_lmul hx hb dL_beg_67 ?_
    refine hp_cl (v := (lN (16 * (16 * (16 * (16 * (16 * 0 + nib (gq 5)) + nib (gq 4)) + nib (gq 3)) + nib (gq 2))))) (lN_mul _ _) ?_
    refine lv_aload_n hx hb dL_beg_68 rfl (lv_at hl9 4 rfl) ?_
    refine lv_bipush (v := 6) hx hb dL_beg_69 (by decide) ?_
    refine lv_iload_n hx hb dL_beg_71 rfl (lv_at hl9 6 rfl) ?_
    refine lv_imul hx hb dL_beg_72 ?_
    refine hp_c (v := 0) (by decide) ?_
    refine lv_iload hx hb dL_beg_73 (lv_at hl9 0 rfl) ?_
    refine lv_iadd hx hb dL_beg_75 ?_
    refine hp_c (v := 1) (by decide) ?_
    refine hp_iald B0 hw h11 (by unfold vp_in; decide) dL_beg_76 ?_
    refine hp_c (v := (gq 1)) (rfl) ?_
    refine lv_i2l (v := (((gq 1) : Int32).toInt64)) hx hb dL_beg_77 (rfl) ?_
    refine lv_ladd hx hb dL_beg_78 ?_
    refine lv_lconst (v := lN 1) hx hb dL_beg_79 rfl ?_
    refine lv_ladd hx hb dL_beg_80 ?_
    refine hp_cl (v := (lN (16 * (16 * (16 * (16 * (16 * 0 + nib (gq 5)) + nib (gq 4)) + nib (gq 3)) + nib (gq 2)) + nib (gq 1)))) (vadd (hgq 1 (by omega)) _) ?_
    refine lv_lstore (lv' := [(5, .long (lN (16 * (16 * (16 * (16 * (16 * 0 + nib (gq 5)) + nib (gq 4)) + nib (gq 3)) + nib (gq 2)) + nib (gq 1)))), (7, .int 1), (4, .int 0), (0, .ref lf), (1, .ref lq), (2, .ref le), (3, .int 0)]) hx hb dL_beg_81 hl9 (by decide) rfl (fun ls hl9 => ?_)
    refine lv_iinc (v := 0) (lv' := [(7, .int 0), (5, .long (lN (16 * (16 * (16 * (16 * (16 * 0 + nib (gq 5)) + nib (gq 4)) + nib (gq 3)) + nib (gq 2)) + nib (gq 1)))), (4, .int 0), (0, .ref lf), (1, .ref lq), (2, .ref le), (3, .int 0)]) hx hb dL_beg_83 hl9 (k := 1) rfl (by decide) (by decide) rfl (fun ls hl9 => ?_)
    refine lv_goto (tgt := 57) hx hb dL_beg_86 (by decide) ?_
    refine lv_iload hx hb dL_beg_57 (lv_at hl9 0 rfl) ?_
    refine lv_if_lt (tgt := 89) hx hb dL_beg_59 (by decide) (fun c9 => absurd c9 (by decide)) (fun _ => ?_)
    refine lv_ldc2 (v := 16) hx hb B0.2.2.2.1 (B0.2.2.2.2.1 _ qK_L_71) dL_beg_62 ?_
    refine hp_cl (v := lN 16) rfl ?_
    refine lv_lload hx hb dL_beg_65 (lv_at hl9 1 rfl) ?_
    refine lv_lmul hx hb dL_beg_67 ?_
    refine hp_cl (v := (lN (16 * (16 * (16 * (16 * (16 * (16 * 0 + nib (gq 5)) + nib (gq 4)) + nib (gq 3)) + nib (gq 2)) + nib (gq 1))))) (lN_mul _ _) ?_
    refine lv_aload_n hx hb dL_beg_68 rfl (lv_at hl9 4 rfl) ?_
    refine lv_bipush (v := 6) hx hb dL_beg_69 (by decide) ?_
    refine lv_iload_n hx hb dL_beg_71 rfl (lv_at hl9 6 rfl) ?_
    refine lv_imul hx hb dL_beg_72 ?_
    refine hp_c (v := 0) (by decide) ?_
    refine lv_iload hx hb dL_beg_73 (lv_at hl9 0 rfl) ?_
    refine lv_iadd hx hb dL_beg_75 ?_
    refine hp_c (v := 0) (by decide) ?_
    refine hp_iald B0 hw h11 (by unfold vp_in; decide) dL_beg_76 ?_
    refine hp_c (v := (gq 0)) (rfl) ?_
    refine lv_i2l (v := (((gq 0) : Int32).toInt64)) hx hb dL_beg_77 (rfl) ?_
    refine lv_ladd hx hb dL_beg_78 ?_
    refine lv_lconst (v := lN 1) hx hb dL_beg_79 rfl ?_
    refine lv_ladd hx hb dL_beg_80 ?_
    refine hp_cl (v := (lN (16 * (16 * (16 * (16 * (16 * (16 * 0 + nib (gq 5)) + nib (gq 4)) + nib (gq 3)) + nib (gq 2)) + nib (gq 1)) + nib (gq 0)))) (vadd (hgq 0 (by omega)) _) ?_
    refine lv_lstore (lv' := [(5, .long (lN (16 * (16 * (16 * (16 * (16 * (16 * 0 + nib (gq 5)) + nib (gq 4)) + nib (gq 3)) + nib (gq 2)) + nib (gq 1)) + nib (gq 0)))), (7, .int 0), (4, .int 0), (0, .ref lf), (1, .ref lq), (2, .ref le), (3, .int 0)]) hx hb dL_beg_81 hl9 (by decide) rfl (fun ls hl9 => ?_)
    refine lv_iinc (v := (-1)) (lv' := [(7, .int (-1)), (5, .long (lN (16 * (16 * (16 * (16 * (16 * (16 * 0 + nib (gq 5)) + nib (gq 4)) + nib (gq 3)) + nib (gq 2)) + nib (gq 1)) + nib (gq 0)))), (4, .int 0), (0, .ref lf), (1, .ref lq), (2, .ref le), (3, .int 0)]) hx hb dL_beg_83 hl9 (k := 1) rfl (by decide) (by decide) rfl (fun ls hl9 => ?_)
    refine lv_goto (tgt := 57) hx hb dL_beg_86 (by decide) ?_
    refine lv_iload hx hb dL_beg_57 (lv_at hl9 0 rfl) ?_
    refine lv_if_lt (tgt := 89) hx hb dL_beg_59 (by decide) (fun _ => ?_) (fun c9 => absurd (by decide) c9)
    have eop : 16 * (16 * (16 * (16 * (16 * (16 * 0 + nib (gq 5)) + nib (gq 4)) + nib (gq 3)) + nib (gq 2)) + nib (gq 1)) + nib (gq 0) = opN gq := by unfold opN; omega
    refine lv_aload_n hx hb dL_beg_89 rfl (lv_at hl9 3 rfl) ?_
    refine lv_aload_n hx hb dL_beg_90 rfl (lv_at hl9 5 rfl) ?_
    refine lv_iload_n hx hb dL_beg_91 rfl (lv_at hl9 6 rfl) ?_
    refine lv_iconst (v := 0) hx hb dL_beg_92 (by decide) ?_
    refine lv_aload_n hx hb dL_beg_93 rfl (lv_at hl9 5 rfl) ?_
    refine lv_iload hx hb dL_beg_94 (lv_at hl9 2 rfl) ?_
    refine lv_iconst (v := 1) hx hb dL_beg_96 (by decide) ?_
    refine lv_iadd hx hb dL_beg_97 ?_
    refine hp_c (v := 1) (by decide) ?_
    refine hp_iald B0 hw h10 (by unfold vp_in; decide) dL_beg_98 ?_
    refine hp_c (v := (nI mm)) (hm) ?_
    refine lv_lload hx hb dL_beg_99 (lv_at hl9 1 rfl) ?_
    have h13 : f7 lf = some (.inl (cJ G, 64, .inr (.inl xs))) := by rw [e8, va_up_ne _ _ (hneL k_lf k_le (Nat.ne_of_beq_eq_false rfl))]; exact k_lf
    refine hp_S (As := [.ref lf, .ref le, .int 0, .int 0, .int (nI mm), .long (lN (16 * (16 * (16 * (16 * (16 * (16 * 0 + nib (gq 5)) + nib (gq 4)) + nib (gq 3)) + nib (gq 2)) + nib (gq 1)) + nib (gq 0)))]) (rest := []) B0 hw hS (c_L_post_0 hl G f7 lf le xs (jE (e8r st (li + 1) (sr + 1) 3 lp mi ix (nI L.length)) F) h13 h10 0 mm (16 * (16 * (16 * (16 * (16 * (16 * 0 + nib (gq 5)) + nib (gq 4)) + nib (gq 3)) + nib (gq 2)) + nib (gq 1)) + nib (gq 0)) xx L.length (by omega) (by omega) (show (jE (e8r st (li + 1) (sr + 1) 3 lp mi ix (nI L.length)) F) 6 = nI xx from hxx) (by omega) (show (jE (e8r st (li + 1) (sr + 1) 3 lp mi ix (nI L.length)) F) 7 = nI L.length from rfl) (by omega)) mS_L_post qM_L_73 rfl rfl hl9.1 (Nat.le_of_ble_eq_true rfl) ⟨⟨Nat.le_of_ble_eq_true rfl, Nat.le_of_ble_eq_true rfl⟩, Nat.le_of_ble_eq_true rfl, Nat.le_of_ble_eq_true rfl⟩ dL_beg_101 (fun E ce q9 f14 H locs hPX hw hS hce hcv hcl => ?_) (fun v f14 H locs hP hw hS => ?_)
    · exact hPX.elim
    · obtain ⟨ev9, h15, h16, k17⟩ := hP
      subst ev9
      rw [show (upd (jE (e8r st (li + 1) (sr + 1) 3 lp mi ix (nI L.length)) F) 7 (nI (L.length + 1)) : Nat → Int32) = (jE (e8r st (li + 1) (sr + 1) 3 lp mi ix (nI (L.length + 1))) F) from (by rw [jE_u0 (by omega), e8_u7])] at h16
      refine W.eq (g2 := F0 m 104 ls []) rfl ?_
      refine lv_iconst (v := 1) hx hb dL_beg_104 (by decide) ?_
      have hpk : 0 + 8 * (16 * (16 * (16 * (16 * (16 * (16 * 0 + nib (gq 5)) + nib (gq 4)) + nib (gq 3)) + nib (gq 2)) + nib (gq 1)) + nib (gq 0)) + xx * 4294967296 + mm * 68719476736 = pkN (0, li + 1, ix, gq) := by rw [eop, hm, hxx]; exact pkN_eq (by omega) (by omega) (by omega)
      rw [hpk] at h15
      exact hp_iret (v := 1) B0 hw hS hr ⟨Nat.le_of_ble_eq_true rfl, Nat.le_of_ble_eq_true rfl⟩ dL_beg_105 (⟨congrArg (fun z9 => some (Value.int z9)) (show (1 : Int32) = begV (st, li, sr, tm, lp, mi, ix, gq, L) from (if_pos (show sr < 10 from by rw [hq]; exact lt10 hq10 (by rw [← hq]; exact c1))).symm), ⟨_, h15, (by rw [show begS (st, li, sr, tm, lp, mi, ix, gq, L) = (st, li + 1, sr + 1, 3, lp, mi, ix, gq, L ++ [(0, li + 1, ix, gq)]) from if_pos (show sr < 10 from by rw [hq]; exact lt10 hq10 (by rw [← hq]; exact c1))]; exact hX.app _ rfl)⟩, (by rw [show begS (st, li, sr, tm, lp, mi, ix, gq, L) = (st, li + 1, sr + 1, 3, lp, mi, ix, gq, L ++ [(0, li + 1, ix, gq)]) from if_pos (show sr < 10 from by rw [hq]; exact lt10 hq10 (by rw [← hq]; exact c1)), ← eS_app]; exact h16), ((show hEq [lf, le] f f7 from (by rw [e8]; exact hEq.up (List.mem_cons_of_mem _ List.mem_cons_self))).tr (show hEq [lf, le] f7 f14 from (hEq.mono k17 (fun _ h9 => h9))))⟩)
  · refine lv_aload_n hx hb dL_beg_17 rfl (lv_at hl9 3 rfl) ?_
    refine lv_iload hx hb dL_beg_18 (lv_at hl9 0 rfl) ?_
    refine lv_iconst (v := 0) hx hb dL_beg_20 (by decide) ?_
    refine hp_iast B0 hw hS k_le (by unfold vp_in; decide) dL_beg_21 (fun H locs f18 ef18 hw hS => ?_)
    rw [show (upd (jE (e8r st li sr tm lp mi ix (nI L.length)) F) (0 : Int32).toNatClampNeg 0 : Nat → Int32) = (jE (e8r 0 li sr tm lp mi ix (nI L.length)) F) from (by rw [show (0 : Int32).toNatClampNeg = 0 from rfl, jE_u0 (by omega), e8_u0])] at ef18
    have h19 : f18 le = some (.inl (cI G, 16, .inl (jE (e8r 0 li sr tm lp mi ix (nI L.length)) F))) := by rw [ef18, va_up_self]
    refine lv_iconst (v := 0) hx hb dL_beg_22 (by decide) ?_
    have h20 : f18 lf = some (.inl (cJ G, 64, .inr (.inl xs))) := by rw [ef18, va_up_ne _ _ (hneL k_lf k_le (Nat.ne_of_beq_eq_false rfl))]; exact k_lf
    exact hp_iret (v := 0) B0 hw hS hr ⟨Nat.le_of_ble_eq_true rfl, Nat.le_of_ble_eq_true rfl⟩ dL_beg_23 (⟨congrArg (fun z9 => some (Value.int z9)) (show (0 : Int32) = begV (st, li, sr, tm, lp, mi, ix, gq, L) from (if_neg (show ¬ sr < 10 from by rw [c1]; decide)).symm), ⟨xs, h20, (by rw [show begS (st, li, sr, tm, lp, mi, ix, gq, L) = _ from if_neg (show ¬ sr < 10 from by rw [c1]; decide)]; exact hX)⟩, (by rw [show begS (st, li, sr, tm, lp, mi, ix, gq, L) = _ from if_neg (show ¬ sr < 10 from by rw [c1]; decide)]; exact h19), (show hEq [lf, le] f f18 from (by rw [ef18]; exact hEq.up (List.mem_cons_of_mem _ List.mem_cons_self)))⟩)

set_option maxHeartbeats 4000000 in
set_option maxRecDepth 100000 in
theorem c_L_beg_1 {l : Launch} (hl : l.stackTraces = false) (G : hG) (f : hM) (lf lq le : Nat) (st li sr tm lp mi ix : Int32) (gq : Nat → Int32) (L : List Fr) (F g2 : Nat → Int32) (b : Nat) (hSo : SOK b (st, li, sr, tm, lp, mi, ix, gq, L)) (hbo : b ≤ 1000000) (xs : Nat → Int64) (hX : XS xs L) (hn : L.length < 64) (k_lf : f lf = some (.inl (cJ G, 64, .inr (.inl xs)))) (k_lq : f lq = some (.inl (cI G, 12, .inl (j6r g2 gq)))) (k_le : f le = some (.inl (cI G, 16, .inl (jE F (e8r st li sr tm lp mi ix (nI L.length)))))) : CT l yL_beg (.code yL_beg cL_beg 8 (some .int)) 1 26 0 0 G [.ref lf, .ref lq, .ref le, .int 1] f (fun v f1 => v = some (.int (begV (st, li, sr, tm, lp, mi, ix, gq, L))) ∧ (∃ xs1 : Nat → Int64, f1 lf = some (.inl (cJ G, 64, .inr (.inl xs1))) ∧ XS xs1 (begS (st, li, sr, tm, lp, mi, ix, gq, L)).2.2.2.2.2.2.2.2) ∧ f1 le = some (.inl (cI G, 16, .inl (jE F (eSt (begS (st, li, sr, tm, lp, mi, ix, gq, L)))))) ∧ hEq [lf, le] f f1) (fun E f1 => False) := by
  refine hp_start hl (own := RL) (by decide) rfl (Nat.le_of_ble_eq_true rfl) ?_
  intro p e s m args below meth c B0 hr hnm hout hw hS ls hl9
  have hx := B0.1
  have hb := B0.2.1
  have hl9 : lv_has ls 8 [(0, .ref lf), (1, .ref lq), (2, .ref le), (3, .int 1)] := hl9
  obtain ⟨⟨s9, hs9, hs4⟩, ⟨mm, hm, hmb⟩, ⟨q, hq, hq10⟩, hlp, ⟨xx, hxx, hx4⟩, hgq, hfr⟩ := id hSo
  have hs9 : st = nI s9 := hs9
  have hm : li + 1 = nI mm := hm
  have hq : sr = nI q := hq
  have hlp : lp = 0 ∨ lp = 1 := hlp
  have hxx : ix = nI xx := hxx
  have hgq : ∀ j, j < 6 → VOK (gq j) := hgq
  have hfr : ∀ r ∈ L, FOK b r := hfr
  refine lv_bipush (v := 8) hx hb dL_beg_0 (by decide) ?_
  refine lv_iload_n hx hb dL_beg_2 rfl (lv_at hl9 3 rfl) ?_
  refine lv_imul hx hb dL_beg_3 ?_
  refine hp_c (v := 8) (by decide) ?_
  refine lv_istore (lv' := [(4, .int 8), (0, .ref lf), (1, .ref lq), (2, .ref le), (3, .int 1)]) hx hb dL_beg_4 hl9 (by decide) rfl (fun ls hl9 => ?_)
  refine lv_aload_n hx hb dL_beg_6 rfl (lv_at hl9 3 rfl) ?_
  refine lv_iload hx hb dL_beg_7 (lv_at hl9 0 rfl) ?_
  refine lv_iconst (v := 2) hx hb dL_beg_9 (by decide) ?_
  refine lv_iadd hx hb dL_beg_10 ?_
  refine hp_c (v := 10) (by decide) ?_
  refine hp_iald B0 hw k_le (by unfold vp_in; decide) dL_beg_11 ?_
  refine hp_c (v := sr) (rfl) ?_
  refine lv_bipush (v := 10) hx hb dL_beg_12 (by decide) ?_
  refine lv_icmp_ne (tgt := 24) hx hb dL_beg_14 (by decide) (fun c1 => ?_) (fun c1 => ?_)
  · refine lv_aload_n hx hb dL_beg_24 rfl (lv_at hl9 3 rfl) ?_
    refine lv_iload hx hb dL_beg_25 (lv_at hl9 0 rfl) ?_
    refine lv_iconst (v := 1) hx hb dL_beg_27 (by decide) ?_
    refine lv_iadd hx hb dL_beg_28 ?_
    refine hp_c (v := 9) (by decide) ?_
    refine lv_dup2_11 hx hb dL_beg_29 rfl rfl ?_
    refine hp_iald B0 hw k_le (by unfold vp_in; decide) dL_beg_30 ?_
    refine hp_c (v := li) (rfl) ?_
    refine lv_iconst (v := 1) hx hb dL_beg_31 (by decide) ?_
    refine lv_iadd hx hb dL_beg_32 ?_
    refine hp_iast B0 hw hS k_le (by unfold vp_in; decide) dL_beg_33 (fun H locs f2 ef2 hw hS => ?_)
    rw [show (upd (jE F (e8r st li sr tm lp mi ix (nI L.length))) (9 : Int32).toNatClampNeg (li + 1) : Nat → Int32) = (jE F (e8r st (li + 1) sr tm lp mi ix (nI L.length))) from (by rw [show (9 : Int32).toNatClampNeg = 8 + 1 from rfl, jE_u1, e8_u1])] at ef2
    have h3 : f2 le = some (.inl (cI G, 16, .inl (jE F (e8r st (li + 1) sr tm lp mi ix (nI L.length))))) := by rw [ef2, va_up_self]
    refine lv_aload_n hx hb dL_beg_34 rfl (lv_at hl9 3 rfl) ?_
    refine lv_iload hx hb dL_beg_35 (lv_at hl9 0 rfl) ?_
    refine lv_iconst (v := 2) hx hb dL_beg_37 (by decide) ?_
    refine lv_iadd hx hb dL_beg_38 ?_
    refine hp_c (v := 10) (by decide) ?_
    refine lv_dup2_11 hx hb dL_beg_39 rfl rfl ?_
    refine hp_iald B0 hw h3 (by unfold vp_in; decide) dL_beg_40 ?_
    refine hp_c (v := sr) (rfl) ?_
    refine lv_iconst (v := 1) hx hb dL_beg_41 (by decide) ?_
    refine lv_iadd hx hb dL_beg_42 ?_
    refine hp_iast B0 hw hS h3 (by unfold vp_in; decide) dL_beg_43 (fun H locs f4 ef4 hw hS => ?_)
    rw [show (upd (jE F (e8r st (li + 1) sr tm lp mi ix (nI L.length))) (10 : Int32).toNatClampNeg (sr + 1) : Nat → Int32) = (jE F (e8r st (li + 1) (sr + 1) tm lp mi ix (nI L.length))) from (by rw [show (10 : Int32).toNatClampNeg = 8 + 2 from rfl, jE_u1, e8_u2])] at ef4
    have e5 : f4 = va_up f le (some (.inl (cI G, 16, .inl (jE F (e8r st (li + 1) (sr + 1) tm lp mi ix (nI L.length)))))) := by rw [ef4, ef2, bx_uu]
    have h6 : f4 le = some (.inl (cI G, 16, .inl (jE F (e8r st (li + 1) (sr + 1) tm lp mi ix (nI L.length))))) := by rw [ef4, va_up_self]
    refine lv_aload_n hx hb dL_beg_44 rfl (lv_at hl9 3 rfl) ?_
    refine lv_iload hx hb dL_beg_45 (lv_at hl9 0 rfl) ?_
    refine lv_iconst (v := 3) hx hb dL_beg_47 (by decide) ?_
    refine lv_iadd hx hb dL_beg_48 ?_
    refine hp_c (v := 11) (by decide) ?_
    refine lv_iconst (v := 3) hx hb dL_beg_49 (by decide) ?_
    refine hp_iast B0 hw hS h6 (by unfold vp_in; decide) dL_beg_50 (fun H locs f7 ef7 hw hS => ?_)
    rw [show (upd (jE F (e8r st (li + 1) (sr + 1) tm lp mi ix (nI L.length))) (11 : Int32).toNatClampNeg 3 : Nat → Int32) = (jE F (e8r st (li + 1) (sr + 1) 3 lp mi ix (nI L.length))) from (by rw [show (11 : Int32).toNatClampNeg = 8 + 3 from rfl, jE_u1, e8_u3])] at ef7
    have e8 : f7 = va_up f le (some (.inl (cI G, 16, .inl (jE F (e8r st (li + 1) (sr + 1) 3 lp mi ix (nI L.length)))))) := by rw [ef7, e5, bx_uu]
    have h10 : f7 le = some (.inl (cI G, 16, .inl (jE F (e8r st (li + 1) (sr + 1) 3 lp mi ix (nI L.length))))) := by rw [ef7, va_up_self]
    refine lv_lconst (v := lN 0) hx hb dL_beg_51 rfl ?_
    refine lv_lstore (lv' := [(5, .long (lN 0)), (4, .int 8), (0, .ref lf), (1, .ref lq), (2, .ref le), (3, .int 1)]) hx hb dL_beg_52 hl9 (by decide) rfl (fun ls hl9 => ?_)
    refine lv_iconst (v := 5) hx hb dL_beg_54 (by decide) ?_
    refine lv_istore (lv' := [(7, .int 5), (5, .long (lN 0)), (4, .int 8), (0, .ref lf), (1, .ref lq), (2, .ref le), (3, .int 1)]) hx hb dL_beg_55 hl9 (by decide) rfl (fun ls hl9 => ?_)
    refine lv_iload hx hb dL_beg_57 (lv_at hl9 0 rfl) ?_
    refine lv_if_lt (tgt := 89) hx hb dL_beg_59 (by decide) (fun c9 => absurd c9 (by decide)) (fun _ => ?_)
    refine lv_ldc2 (v := 16) hx hb B0.2.2.2.1 (B0.2.2.2.2.1 _ qK_L_71) dL_beg_62 ?_
    refine hp_cl (v := lN 16) rfl ?_
    refine lv_lload hx hb dL_beg_65 (lv_at hl9 1 rfl) ?_
    refine lv_lmul hx hb dL_beg_67 ?_
    refine hp_cl (v := (lN (16 * 0))) (lN_mul _ _) ?_
    refine lv_aload_n hx hb dL_beg_68 rfl (lv_at hl9 4 rfl) ?_
    refine lv_bipush (v := 6) hx hb dL_beg_69 (by decide) ?_
    refine lv_iload_n hx hb dL_beg_71 rfl (lv_at hl9 6 rfl) ?_
    refine lv_imul hx hb dL_beg_72 ?_
    refine hp_c (v := 6) (by decide) ?_
    refine lv_iload hx hb dL_beg_73 (lv_at hl9 0 rfl) ?_
    refine lv_iadd hx hb dL_beg_75 ?_
    refine hp_c (v := 11) (by decide) ?_
    have n12 : lq ≠ le := hneL k_lq k_le (Nat.ne_of_beq_eq_false rfl)
    have h11 : f7 lq = some (.inl (cI G, 12, .inl (j6r g2 gq))) := by rw [e8, va_up_ne _ _ n12]; exact k_lq
    refine hp_iald B0 hw h11 (by unfold vp_in; decide) dL_beg_76 ?_
    refine hp_c (v := (gq 5)) (rfl) ?_
    refine lv_i2l (v := (((gq 5) : Int32).toInt64)) hx hb dL_beg_77 (rfl) ?_
    refine lv_ladd hx hb dL_beg_78 ?_
    refine lv_lconst (v := lN 1) hx hb dL_beg_79 rfl ?_
    refine lv_ladd hx hb dL_beg_80 ?_
    refine hp_cl (v := (lN (16 * 0 + nib (gq 5)))) (vadd (hgq 5 (by omega)) _) ?_
    refine lv_lstore (lv' := [(5, .long (lN (16 * 0 + nib (gq 5)))), (7, .int 5), (4, .int 8), (0, .ref lf), (1, .ref lq), (2, .ref le), (3, .int 1)]) hx hb dL_beg_81 hl9 (by decide) rfl (fun ls hl9 => ?_)
    refine lv_iinc (v := 4) (lv' := [(7, .int 4), (5, .long (lN (16 * 0 + nib (gq 5)))), (4, .int 8), (0, .ref lf), (1, .ref lq), (2, .ref le), (3, .int 1)]) hx hb dL_beg_83 hl9 (k := 1) rfl (by decide) (by decide) rfl (fun ls hl9 => ?_)
    refine lv_goto (tgt := 57) hx hb dL_beg_86 (by decide) ?_
    refine lv_iload hx hb dL_beg_57 (lv_at hl9 0 rfl) ?_
    refine lv_if_lt (tgt := 89) hx hb dL_beg_59 (by decide) (fun c9 => absurd c9 (by decide)) (fun _ => ?_)
    refine lv_ldc2 (v := 16) hx hb B0.2.2.2.1 (B0.2.2.2.2.1 _ qK_L_71) dL_beg_62 ?_
    refine hp_cl (v := lN 16) rfl ?_
    refine lv_lload hx hb dL_beg_65 (lv_at hl9 1 rfl) ?_
    refine lv_lmul hx hb dL_beg_67 ?_
    refine hp_cl (v := (lN (16 * (16 * 0 + nib (gq 5))))) (lN_mul _ _) ?_
    refine lv_aload_n hx hb dL_beg_68 rfl (lv_at hl9 4 rfl) ?_
    refine lv_bipush (v := 6) hx hb dL_beg_69 (by decide) ?_
    refine lv_iload_n hx hb dL_beg_71 rfl (lv_at hl9 6 rfl) ?_
    refine lv_imul hx hb dL_beg_72 ?_
    refine hp_c (v := 6) (by decide) ?_
    refine lv_iload hx hb dL_beg_73 (lv_at hl9 0 rfl) ?_
    refine lv_iadd hx hb dL_beg_75 ?_
    refine hp_c (v := 10) (by decide) ?_
    refine hp_iald B0 hw h11 (by unfold vp_in; decide) dL_beg_76 ?_
    refine hp_c (v := (gq 4)) (rfl) ?_
    refine lv_i2l (v := (((gq 4) : Int32).toInt64)) hx hb dL_beg_77 (rfl) ?_
    refine lv_ladd hx hb dL_beg_78 ?_
    refine lv_lconst (v := lN 1) hx hb dL_beg_79 rfl ?_
    refine lv_ladd hx hb dL_beg_80 ?_
    refine hp_cl (v := (lN (16 * (16 * 0 + nib (gq 5)) + nib (gq 4)))) (vadd (hgq 4 (by omega)) _) ?_
    refine lv_lstore (lv' := [(5, .long (lN (16 * (16 * 0 + nib (gq 5)) + nib (gq 4)))), (7, .int 4), (4, .int 8), (0, .ref lf), (1, .ref lq), (2, .ref le), (3, .int 1)]) hx hb dL_beg_81 hl9 (by decide) rfl (fun ls hl9 => ?_)
    refine lv_iinc (v := 3) (lv' := [(7, .int 3), (5, .long (lN (16 * (16 * 0 + nib (gq 5)) + nib (gq 4)))), (4, .int 8), (0, .ref lf), (1, .ref lq), (2, .ref le), (3, .int 1)]) hx hb dL_beg_83 hl9 (k := 1) rfl (by decide) (by decide) rfl (fun ls hl9 => ?_)
    refine lv_goto (tgt := 57) hx hb dL_beg_86 (by decide) ?_
    refine lv_iload hx hb dL_beg_57 (lv_at hl9 0 rfl) ?_
    refine lv_if_lt (tgt := 89) hx hb dL_beg_59 (by decide) (fun c9 => absurd c9 (by decide)) (fun _ => ?_)
    refine lv_ldc2 (v := 16) hx hb B0.2.2.2.1 (B0.2.2.2.2.1 _ qK_L_71) dL_beg_62 ?_
    refine hp_cl (v := lN 16) rfl ?_
    refine lv_lload hx hb dL_beg_65 (lv_at hl9 1 rfl) ?_
    refine lv_lmul hx hb dL_beg_67 ?_
    refine hp_cl (v := (lN (16 * (16 * (16 * 0 + nib (gq 5)) + nib (gq 4))))) (lN_mul _ _) ?_
    refine lv_aload_n hx hb dL_beg_68 rfl (lv_at hl9 4 rfl) ?_
    refine lv_bipush (v := 6) hx hb dL_beg_69 (by decide) ?_
    refine lv_iload_n hx hb dL_beg_71 rfl (lv_at hl9 6 rfl) ?_
    refine lv_imul hx hb dL_beg_72 ?_
    refine hp_c (v := 6) (by decide) ?_
    refine lv_iload hx hb dL_beg_73 (lv_at hl9 0 rfl) ?_
    refine lv_iadd hx hb dL_beg_75 ?_
    refine hp_c (v := 9) (by decide) ?_
    refine hp_iald B0 hw h11 (by unfold vp_in; decide) dL_beg_76 ?_
    refine hp_c (v := (gq 3)) (rfl) ?_
    refine lv_i2l (v := (((gq 3) : Int32).toInt64)) hx hb dL_beg_77 (rfl) ?_
    refine lv_ladd hx hb dL_beg_78 ?_
    refine lv_lconst (v := lN 1) hx hb dL_beg_79 rfl ?_
    refine lv_ladd hx hb dL_beg_80 ?_
    refine hp_cl (v := (lN (16 * (16 * (16 * 0 + nib (gq 5)) + nib (gq 4)) + nib (gq 3)))) (vadd (hgq 3 (by omega)) _) ?_
    refine lv_lstore (lv' := [(5, .long (lN (16 * (16 * (16 * 0 + nib (gq 5)) + nib (gq 4)) + nib (gq 3)))), (7, .int 3), (4, .int 8), (0, .ref lf), (1, .ref lq), (2, .ref le), (3, .int 1)]) hx hb dL_beg_81 hl9 (by decide) rfl (fun ls hl9 => ?_)
    refine lv_iinc (v := 2) (lv' := [(7, .int 2), (5, .long (lN (16 * (16 * (16 * 0 + nib (gq 5)) + nib (gq 4)) + nib (gq 3)))), (4, .int 8), (0, .ref lf), (1, .ref lq), (2, .ref le), (3, .int 1)]) hx hb dL_beg_83 hl9 (k := 1) rfl (by decide) (by decide) rfl (fun ls hl9 => ?_)
    refine lv_goto (tgt := 57) hx hb dL_beg_86 (by decide) ?_
    refine lv_iload hx hb dL_beg_57 (lv_at hl9 0 rfl) ?_
    refine lv_if_lt (tgt := 89) hx hb dL_beg_59 (by decide) (fun c9 => absurd c9 (by decide)) (fun _ => ?_)
    refine lv_ldc2 (v := 16) hx hb B0.2.2.2.1 (B0.2.2.2.2.1 _ qK_L_71) dL_beg_62 ?_
    refine hp_cl (v := lN 16) rfl ?_
    refine lv_lload hx hb dL_beg_65 (lv_at hl9 1 rfl) ?_
    refine lv_lmul hx hb dL_beg_67 ?_
    refine hp_cl (v := (lN (16 * (16 * (16 * (16 * 0 + nib (gq 5)) + nib (gq 4)) + nib (gq 3))))) (lN_mul _ _) ?_
    refine lv_aload_n hx hb dL_beg_68 rfl (lv_at hl9 4 rfl) ?_
    refine lv_bipush (v := 6) hx hb dL_beg_69 (by decide) ?_
    refine lv_iload_n hx hb dL_beg_71 rfl (lv_at hl9 6 rfl) ?_
    refine lv_imul hx hb dL_beg_72 ?_
    refine hp_c (v := 6) (by decide) ?_
    refine lv_iload hx hb dL_beg_73 (lv_at hl9 0 rfl) ?_
    refine lv_iadd hx hb dL_beg_75 ?_
    refine hp_c (v := 8) (by decide) ?_
    refine hp_iald B0 hw h11 (by unfold vp_in; decide) dL_beg_76 ?_
    refine hp_c (v := (gq 2)) (rfl) ?_
    refine lv_i2l (v := (((gq 2) : Int32).toInt64)) hx hb dL_beg_77 (rfl) ?_
    refine lv_ladd hx hb dL_beg_78 ?_
    refine lv_lconst (v := lN 1) hx hb dL_beg_79 rfl ?_
    refine lv_ladd hx hb dL_beg_80 ?_
    refine hp_cl (v := (lN (16 * (16 * (16 * (16 * 0 + nib (gq 5)) + nib (gq 4)) + nib (gq 3)) + nib (gq 2)))) (vadd (hgq 2 (by omega)) _) ?_
    refine lv_lstore (lv' := [(5, .long (lN (16 * (16 * (16 * (16 * 0 + nib (gq 5)) + nib (gq 4)) + nib (gq 3)) + nib (gq 2)))), (7, .int 2), (4, .int 8), (0, .ref lf), (1, .ref lq), (2, .ref le), (3, .int 1)]) hx hb dL_beg_81 hl9 (by decide) rfl (fun ls hl9 => ?_)
    refine lv_iinc (v := 1) (lv' := [(7, .int 1), (5, .long (lN (16 * (16 * (16 * (16 * 0 + nib (gq 5)) + nib (gq 4)) + nib (gq 3)) + nib (gq 2)))), (4, .int 8), (0, .ref lf), (1, .ref lq), (2, .ref le), (3, .int 1)]) hx hb dL_beg_83 hl9 (k := 1) rfl (by decide) (by decide) rfl (fun ls hl9 => ?_)
    refine lv_goto (tgt := 57) hx hb dL_beg_86 (by decide) ?_
    refine lv_iload hx hb dL_beg_57 (lv_at hl9 0 rfl) ?_
    refine lv_if_lt (tgt := 89) hx hb dL_beg_59 (by decide) (fun c9 => absurd c9 (by decide)) (fun _ => ?_)
    refine lv_ldc2 (v := 16) hx hb B0.2.2.2.1 (B0.2.2.2.2.1 _ qK_L_71) dL_beg_62 ?_
    refine hp_cl (v := lN 16) rfl ?_
    refine lv_lload hx hb dL_beg_65 (lv_at hl9 1 rfl) ?_
    refine lv_lmul hx hb dL_beg_67 ?_
    refine hp_cl (v := (lN (16 * (16 * (16 * (16 * (16 * 0 + nib (gq 5)) + nib (gq 4)) + nib (gq 3)) + nib (gq 2))))) (lN_mul _ _) ?_
    refine lv_aload_n hx hb dL_beg_68 rfl (lv_at hl9 4 rfl) ?_
    refine lv_bipush (v := 6) hx hb dL_beg_69 (by decide) ?_
    refine lv_iload_n hx hb dL_beg_71 rfl (lv_at hl9 6 rfl) ?_
    refine lv_imul hx hb dL_beg_72 ?_
    refine hp_c (v := 6) (by decide) ?_
    refine lv_iload hx hb dL_beg_73 (lv_at hl9 0 rfl) ?_
    refine lv_iadd hx hb dL_beg_75 ?_
    refine hp_c (v := 7) (by decide) ?_
    refine hp_iald B0 hw h11 (by unfold vp_in; decide) dL_beg_76 ?_
    refine hp_c (v := (gq 1)) (rfl) ?_
    refine lv_i2l (v := (((gq 1) : Int32).toInt64)) hx hb dL_beg_77 (rfl) ?_
    refine lv_ladd hx hb dL_beg_78 ?_
    refine lv_lconst (v := lN 1) hx hb dL_beg_79 rfl ?_
    refine lv_ladd hx hb dL_beg_80 ?_
    refine hp_cl (v := (lN (16 * (16 * (16 * (16 * (16 * 0 + nib (gq 5)) + nib (gq 4)) + nib (gq 3)) + nib (gq 2)) + nib (gq 1)))) (vadd (hgq 1 (by omega)) _) ?_
    refine lv_lstore (lv' := [(5, .long (lN (16 * (16 * (16 * (16 * (16 * 0 + nib (gq 5)) + nib (gq 4)) + nib (gq 3)) + nib (gq 2)) + nib (gq 1)))), (7, .int 1), (4, .int 8), (0, .ref lf), (1, .ref lq), (2, .ref le), (3, .int 1)]) hx hb dL_beg_81 hl9 (by decide) rfl (fun ls hl9 => ?_)
    refine lv_iinc (v := 0) (lv' := [(7, .int 0), (5, .long (lN (16 * (16 * (16 * (16 * (16 * 0 + nib (gq 5)) + nib (gq 4)) + nib (gq 3)) + nib (gq 2)) + nib (gq 1)))), (4, .int 8), (0, .ref lf), (1, .ref lq), (2, .ref le), (3, .int 1)]) hx hb dL_beg_83 hl9 (k := 1) rfl (by decide) (by decide) rfl (fun ls hl9 => ?_)
    refine lv_goto (tgt := 57) hx hb dL_beg_86 (by decide) ?_
    refine lv_iload hx hb dL_beg_57 (lv_at hl9 0 rfl) ?_
    refine lv_if_lt (tgt := 89) hx hb dL_beg_59 (by decide) (fun c9 => absurd c9 (by decide)) (fun _ => ?_)
    refine lv_ldc2 (v := 16) hx hb B0.2.2.2.1 (B0.2.2.2.2.1 _ qK_L_71) dL_beg_62 ?_
    refine hp_cl (v := lN 16) rfl ?_
    refine lv_lload hx hb dL_beg_65 (lv_at hl9 1 rfl) ?_
    refine lv_lmul hx hb dL_beg_67 ?_
    refine hp_cl (v := (lN (16 * (16 * (16 * (16 * (16 * (16 * 0 + nib (gq 5)) + nib (gq 4)) + nib (gq 3)) + nib (gq 2)) + nib (gq 1))))) (lN_mul _ _) ?_
    refine lv_aload_n hx hb dL_beg_68 rfl (lv_at hl9 4 rfl) ?_
    refine lv_bipush (v := 6) hx hb dL_beg_69 (by decide) ?_
    refine lv_iload_n hx hb dL_beg_71 rfl (lv_at hl9 6 rfl) ?_
    refine lv_imul hx hb dL_beg_72 ?_
    refine hp_c (v := 6) (by decide) ?_
    refine lv_iload hx hb dL_beg_73 (lv_at hl9 0 rfl) ?_
    refine lv_iadd hx hb dL_beg_75 ?_
    refine hp_c (v := 6) (by decide) ?_
    refine hp_iald B0 hw h11 (by unfold vp_in; decide) dL_beg_76 ?_
    refine hp_c (v := (gq 0)) (rfl) ?_
    refine lv_i2l (v := (((gq 0) : Int32).toInt64)) hx hb dL_beg_77 (rfl) ?_
    refine lv_ladd hx hb dL_beg_78 ?_
    refine lv_lconst (v := lN 1) hx hb dL_beg_79 rfl ?_
    refine lv_ladd hx hb dL_beg_80 ?_
    refine hp_cl (v := (lN (16 * (16 * (16 * (16 * (16 * (16 * 0 + nib (gq 5)) + nib (gq 4)) + nib (gq 3)) + nib (gq 2)) + nib (gq 1)) + nib (gq 0)))) (vadd (hgq 0 (by omega)) _) ?_
    refine lv_lstore (lv' := [(5, .long (lN (16 * (16 * (16 * (16 * (16 * (16 * 0 + nib (gq 5)) + nib (gq 4)) + nib (gq 3)) + nib (gq 2)) + nib (gq 1)) + nib (gq 0)))), (7, .int 0), (4, .int 8), (0, .ref lf), (1, .ref lq), (2, .ref le), (3, .int 1)]) hx hb dL_beg_81 hl9 (by decide) rfl (fun ls hl9 => ?_)
    refine lv_iinc (v := (-1)) (lv' := [(7, .int (-1)), (5, .long (lN (16 * (16 * (16 * (16 * (16 * (16 * 0 + nib (gq 5)) + nib (gq 4)) + nib (gq 3)) + nib (gq 2)) + nib (gq 1)) + nib (gq 0)))), (4, .int 8), (0, .ref lf), (1, .ref lq), (2, .ref le), (3, .int 1)]) hx hb dL_beg_83 hl9 (k := 1) rfl (by decide) (by decide) rfl (fun ls hl9 => ?_)
    refine lv_goto (tgt := 57) hx hb dL_beg_86 (by decide) ?_
    refine lv_iload hx hb dL_beg_57 (lv_at hl9 0 rfl) ?_
    refine lv_if_lt (tgt := 89) hx hb dL_beg_59 (by decide) (fun _ => ?_) (fun c9 => absurd (by decide) c9)
    have eop : 16 * (16 * (16 * (16 * (16 * (16 * 0 + nib (gq 5)) + nib (gq 4)) + nib (gq 3)) + nib (gq 2)) + nib (gq 1)) + nib (gq 0) = opN gq := by unfold opN; omega
    refine lv_aload_n hx hb dL_beg_89 rfl (lv_at hl9 3 rfl) ?_
    refine lv_aload_n hx hb dL_beg_90 rfl (lv_at hl9 5 rfl) ?_
    refine lv_iload_n hx hb dL_beg_91 rfl (lv_at hl9 6 rfl) ?_
    refine lv_iconst (v := 0) hx hb dL_beg_92 (by decide) ?_
    refine lv_aload_n hx hb dL_beg_93 rfl (lv_at hl9 5 rfl) ?_
    refine lv_iload hx hb dL_beg_94 (lv_at hl9 2 rfl) ?_
    refine lv_iconst (v := 1) hx hb dL_beg_96 (by decide) ?_
    refine lv_iadd hx hb dL_beg_97 ?_
    refine hp_c (v := 9) (by decide) ?_
    refine hp_iald B0 hw h10 (by unfold vp_in; decide) dL_beg_98 ?_
    refine hp_c (v := (nI mm)) (hm) ?_
    refine lv_lload hx hb dL_beg_99 (lv_at hl9 1 rfl) ?_
    have h13 : f7 lf = some (.inl (cJ G, 64, .inr (.inl xs))) := by rw [e8, va_up_ne _ _ (hneL k_lf k_le (Nat.ne_of_beq_eq_false rfl))]; exact k_lf
    refine hp_S (As := [.ref lf, .ref le, .int 1, .int 0, .int (nI mm), .long (lN (16 * (16 * (16 * (16 * (16 * (16 * 0 + nib (gq 5)) + nib (gq 4)) + nib (gq 3)) + nib (gq 2)) + nib (gq 1)) + nib (gq 0)))]) (rest := []) B0 hw hS (c_L_post_1 hl G f7 lf le xs (jE F (e8r st (li + 1) (sr + 1) 3 lp mi ix (nI L.length))) h13 h10 0 mm (16 * (16 * (16 * (16 * (16 * (16 * 0 + nib (gq 5)) + nib (gq 4)) + nib (gq 3)) + nib (gq 2)) + nib (gq 1)) + nib (gq 0)) xx L.length (by omega) (by omega) (show (jE F (e8r st (li + 1) (sr + 1) 3 lp mi ix (nI L.length))) 14 = nI xx from hxx) (by omega) (show (jE F (e8r st (li + 1) (sr + 1) 3 lp mi ix (nI L.length))) 15 = nI L.length from rfl) (by omega)) mS_L_post qM_L_73 rfl rfl hl9.1 (Nat.le_of_ble_eq_true rfl) ⟨⟨Nat.le_of_ble_eq_true rfl, Nat.le_of_ble_eq_true rfl⟩, Nat.le_of_ble_eq_true rfl, Nat.le_of_ble_eq_true rfl⟩ dL_beg_101 (fun E ce q9 f14 H locs hPX hw hS hce hcv hcl => ?_) (fun v f14 H locs hP hw hS => ?_)
    · exact hPX.elim
    · obtain ⟨ev9, h15, h16, k17⟩ := hP
      subst ev9
      rw [show (upd (jE F (e8r st (li + 1) (sr + 1) 3 lp mi ix (nI L.length))) 15 (nI (L.length + 1)) : Nat → Int32) = (jE F (e8r st (li + 1) (sr + 1) 3 lp mi ix (nI (L.length + 1)))) from (by rw [show 15 = 8 + 7 from rfl, jE_u1, e8_u7])] at h16
      refine W.eq (g2 := F0 m 104 ls []) rfl ?_
      refine lv_iconst (v := 1) hx hb dL_beg_104 (by decide) ?_
      have hpk : 0 + 8 * (16 * (16 * (16 * (16 * (16 * (16 * 0 + nib (gq 5)) + nib (gq 4)) + nib (gq 3)) + nib (gq 2)) + nib (gq 1)) + nib (gq 0)) + xx * 4294967296 + mm * 68719476736 = pkN (0, li + 1, ix, gq) := by rw [eop, hm, hxx]; exact pkN_eq (by omega) (by omega) (by omega)
      rw [hpk] at h15
      exact hp_iret (v := 1) B0 hw hS hr ⟨Nat.le_of_ble_eq_true rfl, Nat.le_of_ble_eq_true rfl⟩ dL_beg_105 (⟨congrArg (fun z9 => some (Value.int z9)) (show (1 : Int32) = begV (st, li, sr, tm, lp, mi, ix, gq, L) from (if_pos (show sr < 10 from by rw [hq]; exact lt10 hq10 (by rw [← hq]; exact c1))).symm), ⟨_, h15, (by rw [show begS (st, li, sr, tm, lp, mi, ix, gq, L) = (st, li + 1, sr + 1, 3, lp, mi, ix, gq, L ++ [(0, li + 1, ix, gq)]) from if_pos (show sr < 10 from by rw [hq]; exact lt10 hq10 (by rw [← hq]; exact c1))]; exact hX.app _ rfl)⟩, (by rw [show begS (st, li, sr, tm, lp, mi, ix, gq, L) = (st, li + 1, sr + 1, 3, lp, mi, ix, gq, L ++ [(0, li + 1, ix, gq)]) from if_pos (show sr < 10 from by rw [hq]; exact lt10 hq10 (by rw [← hq]; exact c1)), ← eS_app]; exact h16), ((show hEq [lf, le] f f7 from (by rw [e8]; exact hEq.up (List.mem_cons_of_mem _ List.mem_cons_self))).tr (show hEq [lf, le] f7 f14 from (hEq.mono k17 (fun _ h9 => h9))))⟩)
  · refine lv_aload_n hx hb dL_beg_17 rfl (lv_at hl9 3 rfl) ?_
    refine lv_iload hx hb dL_beg_18 (lv_at hl9 0 rfl) ?_
    refine lv_iconst (v := 0) hx hb dL_beg_20 (by decide) ?_
    refine hp_iast B0 hw hS k_le (by unfold vp_in; decide) dL_beg_21 (fun H locs f18 ef18 hw hS => ?_)
    rw [show (upd (jE F (e8r st li sr tm lp mi ix (nI L.length))) (8 : Int32).toNatClampNeg 0 : Nat → Int32) = (jE F (e8r 0 li sr tm lp mi ix (nI L.length))) from (by rw [show (8 : Int32).toNatClampNeg = 8 + 0 from rfl, jE_u1, e8_u0])] at ef18
    have h19 : f18 le = some (.inl (cI G, 16, .inl (jE F (e8r 0 li sr tm lp mi ix (nI L.length))))) := by rw [ef18, va_up_self]
    refine lv_iconst (v := 0) hx hb dL_beg_22 (by decide) ?_
    have h20 : f18 lf = some (.inl (cJ G, 64, .inr (.inl xs))) := by rw [ef18, va_up_ne _ _ (hneL k_lf k_le (Nat.ne_of_beq_eq_false rfl))]; exact k_lf
    exact hp_iret (v := 0) B0 hw hS hr ⟨Nat.le_of_ble_eq_true rfl, Nat.le_of_ble_eq_true rfl⟩ dL_beg_23 (⟨congrArg (fun z9 => some (Value.int z9)) (show (0 : Int32) = begV (st, li, sr, tm, lp, mi, ix, gq, L) from (if_neg (show ¬ sr < 10 from by rw [c1]; decide)).symm), ⟨xs, h20, (by rw [show begS (st, li, sr, tm, lp, mi, ix, gq, L) = _ from if_neg (show ¬ sr < 10 from by rw [c1]; decide)]; exact hX)⟩, (by rw [show begS (st, li, sr, tm, lp, mi, ix, gq, L) = _ from if_neg (show ¬ sr < 10 from by rw [c1]; decide)]; exact h19), (show hEq [lf, le] f f18 from (by rw [ef18]; exact hEq.up (List.mem_cons_of_mem _ List.mem_cons_self)))⟩)

/-! what the law's own 'answer' adds up -/
def unN (ga v : Nat → Int32) (j : Nat) : Nat := if unk ga v j then nib (v j) else 0
def beN (ga v : Nat → Int32) (j : Nat) : Nat := if rfs ga v j ∧ ¬ ga j = 0 then nib (lowF (ga j)) else 0
def psum (g : Nat → Nat) : Nat → Nat
  | 0 => 0
  | n + 1 => psum g n + g n * 2 ^ (4 * n)
theorem psum_lt {g : Nat → Nat} {n : Nat} (h : ∀ j, j < n → g j < 16) : psum g n < 2 ^ (4 * n) := by
  induction n with
  | zero => exact Nat.one_pos
  | succ n ih =>
    have h1 := ih (fun j hj => h j (by omega))
    have h2 := h n (by omega)
    show psum g n + g n * 2 ^ (4 * n) < 2 ^ (4 * (n + 1))
    rw [show 4 * (n + 1) = 4 * n + 4 by omega, Nat.pow_add]
    have h3 : g n * 2 ^ (4 * n) ≤ 15 * 2 ^ (4 * n) := Nat.mul_le_mul_right _ (by omega)
    have h4 : 2 ^ (4 * n) * 2 ^ 4 = 16 * 2 ^ (4 * n) := by rw [Nat.mul_comm]
    omega
theorem psum_k {g : Nat → Nat} {n : Nat} (h : g n = 0) : psum g (n + 1) = psum g n := by
  show psum g n + g n * 2 ^ (4 * n) = _
  rw [h, Nat.zero_mul, Nat.add_zero]
theorem psum_s {g : Nat → Nat} {n x : Nat} (h : g n = x) : psum g (n + 1) = psum g n + x * 2 ^ (4 * n) := by
  rw [← h]; rfl
theorem psum_6 (g : Nat → Nat) : psum g 6 = g 0 + 16 * g 1 + 256 * g 2 + 4096 * g 3 + 65536 * g 4 + 1048576 * g 5 := by
  show 0 + g 0 * 2 ^ (4 * 0) + g 1 * 2 ^ (4 * 1) + g 2 * 2 ^ (4 * 2) + g 3 * 2 ^ (4 * 3) + g 4 * 2 ^ (4 * 4) + g 5 * 2 ^ (4 * 5) = _
  show 0 + g 0 * 1 + g 1 * 16 + g 2 * 256 + g 3 * 4096 + g 4 * 65536 + g 5 * 1048576 = _
  omega
theorem unN_lt {ga v : Nat → Int32} {j : Nat} (h : VOK (v j)) : unN ga v j < 16 := by
  unfold unN
  split
  · have := nib_le h; omega
  · decide
theorem beN_lt {ga v : Nat → Int32} {j : Nat} : beN ga v j < 16 := by
  unfold beN
  split
  · have := nib_le (lowF_ok (ga j)); omega
  · decide
theorem nib_I0 {v : Int32} (h : VOK v) (c : nI (nib v) = 0) : v = -1 := by
  have h1 := nib_le h
  exact (nib_z h).mp ((nI_eq (show nib v < 2 ^ 31 by omega) (show 0 < 2 ^ 31 by omega)).mp c)
theorem nib_I1 {v : Int32} (h : VOK v) (c : ¬ nI (nib v) = 0) : ¬ v = -1 := fun e => c (by rw [(nib_z h).mpr e]; rfl)
theorem nib_sub {v : Int32} (h : VOK v) (c : ¬ v = -1) : nI (nib v) - 1 = v := by
  obtain ⟨k, hk⟩ : ∃ k, nib v = k + 1 := ⟨nib v - 1, by have h0 : ¬ nib v = 0 := fun e => c ((nib_z h).mp e); omega⟩
  rw [hk, nI_pred]
  exact (nib_s h hk).symm
theorem bit0 (x : Int32) : ((((0 : Int32) >>> (x &&& 31)) &&& 1)) = 0 := by
  rw [Int32.zero_shiftRight]
  decide
theorem AOK.n {g : Int32} (h : AOK g) : ∃ n, g = nI n ∧ n < 1024 := by
  obtain ⟨h1, h2⟩ := h
  exact ⟨g.toInt.toNat, Int32.toInt_inj.mp (by rw [nI_toInt (by omega)]; omega), by omega⟩
theorem AOK.pos {g : Int32} (h : AOK g) (c : ¬ g = 0) : ¬ g ≤ 0 := by
  obtain ⟨n, rfl, hn⟩ := h.n
  exact nI_nle (by
    have : n ≠ 0 := fun e => c (by rw [e]; rfl)
    omega) (by omega)
theorem s_l9 : ∀ n, n < 10 → ((nI n &&& 31).toBitVec.smod 32).toNat = n := by decide
theorem and_bit : ∀ w, w < 10 → ∀ n, n < 1024 → n &&& 2 ^ w = n / 2 ^ w % 2 * 2 ^ w := by decide +kernel
theorem bitL {g : Int32} (h : AOK g) {w : Nat} (hw : w < 10) : (g &&& ((1 : Int32) <<< (nI w &&& 31))) = 0 ↔ ¬ ((g >>> (nI w &&& 31)) &&& 1) = 1 := by
  obtain ⟨n, rfl, hn⟩ := h.n
  have e1 : ((nI w &&& 31).toBitVec.smod 32).toNat = w := s_l9 w hw
  have h2 : 2 ^ w ≤ 512 := by
    have := Nat.pow_le_pow_right (show 0 < 2 by decide) (show w ≤ 9 by omega)
    exact this
  have e2 : (1 : Int32) <<< (nI w &&& 31) = nI (2 ^ w) := by
    have := pk_shlN (n := 1) (nI w &&& 31) w e1 (by omega)
    rw [Nat.one_mul] at this
    exact this
  rw [e2, nx_and, pk_shrN (by omega) _ w e1, pk_andN (by have := Nat.div_le_self n (2 ^ w); omega) 1 (by decide)]
  have h3 : n &&& 2 ^ w = (n / 2 ^ w % 2) * 2 ^ w := and_bit w hw n hn
  rw [h3]
  have hp : 0 < 2 ^ w := Nat.pow_pos (by decide)
  rcases Nat.mod_two_eq_zero_or_one (n / 2 ^ w) with e | e
  · rw [e, Nat.zero_mul]
    exact ⟨fun _ h9 => absurd h9 (by decide), fun _ => rfl⟩
  · rw [e, Nat.one_mul]
    refine ⟨fun h9 => ?_, fun h9 => absurd rfl h9⟩
    have := (nI_eq (show 2 ^ w < 2 ^ 31 by omega) (show 0 < 2 ^ 31 by omega)).mp h9
    omega
theorem low_m1 {g : Int32} : ∀ n j, lowN g n j = -1 → ∀ i, j ≤ i → i < j + n → i < 10 → ¬ ((g >>> (nI i &&& 31)) &&& 1) = 1 := by
  intro n
  induction n with
  | zero => intro j _ i h1 h2; omega
  | succ n ih =>
    intro j h i h1 h2 h3
    by_cases c : ((g >>> (nI j &&& 31)) &&& 1) = 1
    · rw [lowN_1 c] at h
      have h4 : (nI j).toInt = -1 := by rw [h]; rfl
      rw [nI_toInt (by omega)] at h4
      omega
    · rw [lowN_0 c] at h
      by_cases e : i = j
      · rw [e]; exact c
      · exact ih (j + 1) h i (by omega) (by omega) h3
theorem low_ne {g : Int32} (h : AOK g) (c : ¬ g = 0) : ¬ lowF g = -1 := fun e => by
  have h1 := low_m1 10 0 e
  obtain ⟨n, rfl, hn⟩ := h.n
  have h0 : n = 0 := Nat.eq_of_testBit_eq (fun i => by
    rw [Nat.zero_testBit]
    by_cases hi : i < 10
    · have h2 := h1 i (Nat.zero_le _) (by omega) hi
      have e1 : ((nI i &&& 31).toBitVec.smod 32).toNat = i := s_l9 i hi
      rw [pk_shrN (by omega) _ i e1, pk_andN (by have := Nat.div_le_self n (2 ^ i); omega) 1 (by decide)] at h2
      rw [Nat.testBit_eq_decide_div_mod_eq]
      rcases Nat.mod_two_eq_zero_or_one (n / 2 ^ i) with e | e
      · rw [e]; rfl
      · exact absurd (by rw [show n / 2 ^ i % 2 ^ 1 = 1 from e]; rfl) h2
    · exact Nat.testBit_lt_two_pow (Nat.lt_of_lt_of_le hn (show 2 ^ 10 ≤ 2 ^ i from Nat.pow_le_pow_right (by decide) (by omega))))
  exact c (by rw [h0]; rfl)
theorem lg_pos {a : Nat} (h : 0 < a) (hb : a < 2 ^ 62) : (0 : Int32) < lg_cmp (lN a) (lN 0) := by
  unfold lg_cmp
  rw [if_pos (show lN a > lN 0 from (pk_lLT (by omega) (by omega)).mpr h)]
  decide
theorem lg_zero {a : Nat} (h : a = 0) : lg_cmp (lN a) (lN 0) = 0 := by
  subst h
  unfold lg_cmp
  rw [if_neg (show ¬ lN 0 > lN 0 from Int64.lt_irrefl), if_pos rfl]
theorem kFn_un {ga v : Nat → Int32} : ∀ n j kd, kFn ga v n j kd = 3 → (kd = 1 ∨ kd = 2) → ∃ i, j ≤ i ∧ i < j + n ∧ unk ga v i := by
  intro n
  induction n with
  | zero => intro j kd h h2; rcases h2 with e | e
            · subst e; exact absurd h (show ¬ (1 : Int32) = 3 by decide)
            · subst e; exact absurd h (show ¬ (2 : Int32) = 3 by decide)
  | succ n ih =>
    intro j kd h h2
    by_cases c : unk ga v j
    · exact ⟨j, by omega, by omega, c⟩
    · have h3 : ∃ kd2, kFn ga v n (j + 1) kd2 = 3 ∧ (kd2 = 1 ∨ kd2 = 2) := by
        by_cases c2 : rfs ga v j
        · exact ⟨2, by rw [← kFn_2 c c2]; exact h, Or.inr rfl⟩
        · exact ⟨kd, by rw [← kFn_1 c c2]; exact h, h2⟩
      obtain ⟨kd2, h4, h5⟩ := h3
      obtain ⟨i, i1, i2, i3⟩ := ih (j + 1) kd2 h4 h5
      exact ⟨i, by omega, by omega, i3⟩
theorem kFn_no {ga v : Nat → Int32} : ∀ n j kd, ¬ kFn ga v n j kd = 3 → ∀ i, j ≤ i → i < j + n → ¬ unk ga v i := by
  intro n
  induction n with
  | zero => intro j kd h i h1 h2; omega
  | succ n ih =>
    intro j kd h i h1 h2
    by_cases c : unk ga v j
    · exact absurd (kFn_3 c) h
    · by_cases e : i = j
      · rw [e]; exact c
      · by_cases c2 : rfs ga v j
        · rw [kFn_2 c c2] at h; exact ih (j + 1) 2 h i (by omega) (by omega)
        · rw [kFn_1 c c2] at h; exact ih (j + 1) kd h i (by omega) (by omega)
theorem kFn_rf {ga v : Nat → Int32} : ∀ n j, kFn ga v n j 1 = 2 → ∃ i, j ≤ i ∧ i < j + n ∧ rfs ga v i := by
  intro n
  induction n with
  | zero => intro j h; exact absurd h (by show ¬ (1 : Int32) = 2; decide)
  | succ n ih =>
    intro j h
    by_cases c : unk ga v j
    · rw [kFn_3 c] at h; exact absurd h (by decide)
    · by_cases c2 : rfs ga v j
      · exact ⟨j, by omega, by omega, c2⟩
      · rw [kFn_1 c c2] at h
        obtain ⟨i, i1, i2, i3⟩ := ih (j + 1) h
        exact ⟨i, by omega, by omega, i3⟩
theorem kFn_mono2 {ga v : Nat → Int32} : ∀ n j, kFn ga v n j 2 = 2 ∨ kFn ga v n j 2 = 3 := by
  intro n
  induction n with
  | zero => intro j; exact Or.inl rfl
  | succ n ih =>
    intro j
    by_cases c : unk ga v j
    · exact Or.inr (kFn_3 c)
    · by_cases c2 : rfs ga v j
      · rw [kFn_2 c c2]; exact ih (j + 1)
      · rw [kFn_1 c c2]; exact ih (j + 1)
theorem kFn_nr {ga v : Nat → Int32} : ∀ n j, kFn ga v n j 1 = 1 → ∀ i, j ≤ i → i < j + n → ¬ rfs ga v i := by
  intro n
  induction n with
  | zero => intro j h i h1 h2; omega
  | succ n ih =>
    intro j h i h1 h2
    by_cases c : unk ga v j
    · rw [kFn_3 c] at h; exact absurd h (by decide)
    · by_cases c2 : rfs ga v j
      · rw [kFn_2 c c2] at h
        rcases kFn_mono2 (ga := ga) (v := v) n (j + 1) with e | e <;> (rw [e] at h; exact absurd h (by decide))
      · by_cases e : i = j
        · rw [e]; exact c2
        · rw [kFn_1 c c2] at h; exact ih (j + 1) h i (by omega) (by omega)
theorem op6 {f g : Nat → Nat} (h : ∀ j, j < 6 → f j = g j) : psum f 6 = g 0 + 16 * g 1 + 256 * g 2 + 4096 * g 3 + 65536 * g 4 + 1048576 * g 5 := by
  rw [psum_6, h 0 (by omega), h 1 (by omega), h 2 (by omega), h 3 (by omega), h 4 (by omega), h 5 (by omega)]
theorem told_at {ga v : Nat → Int32} {kd : Int32} {j : Nat} (hj : j < 6) : toldF ga v kd j = tlF ga v kd j := if_pos hj
theorem un_op {ga v : Nat → Int32} : psum (unN ga v) 6 = opN (toldF ga v 3) := by
  refine op6 (g := fun j => nib (toldF ga v 3 j)) (fun j hj => ?_)
  show unN ga v j = nib (toldF ga v 3 j)
  rw [told_at hj]
  unfold unN tlF
  rw [if_neg (show ¬ ((3 : Int32) = 2 ∧ rfs ga v j) from fun h => absurd h.1 (by decide))]
  by_cases c : unk ga v j
  · rw [if_pos c, if_pos ⟨rfl, c⟩]
  · rw [if_neg c, if_neg (fun h => c h.2), nib_m1]
theorem be_op {ga v : Nat → Int32} (hn : ∀ j, j < 6 → ¬ unk ga v j) : psum (beN ga v) 6 = opN (toldF ga v 2) := by
  refine op6 (g := fun j => nib (toldF ga v 2 j)) (fun j hj => ?_)
  show beN ga v j = nib (toldF ga v 2 j)
  rw [told_at hj]
  unfold beN tlF
  by_cases c : rfs ga v j
  · rw [if_pos ⟨c, fun e => hn j hj ⟨c.1, e⟩⟩, if_pos ⟨rfl, c⟩]
  · rw [if_neg (fun h => c h.1), if_neg (fun h => c h.2), if_neg (fun h => absurd h.1 (by decide)), nib_m1]
theorem ack_op {ga v : Nat → Int32} : opN (toldF ga v 1) = 0 := by
  have h : ∀ j, j < 6 → nib (toldF ga v 1 j) = 0 := fun j hj => by
    rw [told_at hj]
    unfold tlF
    rw [if_neg (fun h => absurd h.1 (by decide)), if_neg (fun h => absurd h.1 (by decide)), nib_m1]
  unfold opN
  rw [h 0 (by omega), h 1 (by omega), h 2 (by omega), h 3 (by omega), h 4 (by omega), h 5 (by omega)]
theorem psum_pos {g : Nat → Nat} {n i : Nat} (hi : i < n) (h : 0 < g i) : 0 < psum g n := by
  induction n with
  | zero => omega
  | succ n ih =>
    show 0 < psum g n + g n * 2 ^ (4 * n)
    by_cases e : i = n
    · subst e
      have := Nat.mul_pos h (Nat.pow_pos (n := 4 * i) (show 0 < 2 by decide))
      omega
    · have := ih (by omega)
      omega
theorem psum_z {g : Nat → Nat} {n : Nat} (h : ∀ j, j < n → g j = 0) : psum g n = 0 := by
  induction n with
  | zero => rfl
  | succ n ih => rw [psum_k (h n (by omega)), ih (fun j hj => h j (by omega))]
/-- which answer, by what was added up -/
theorem ans_3 {ga v : Nat → Int32} (hv : ∀ j, j < 6 → VOK (v j)) (h : kindF ga v = 3) : 0 < psum (unN ga v) 6 := by
  obtain ⟨i, i1, i2, i3⟩ := kFn_un 6 0 1 h (Or.inl rfl)
  refine psum_pos (i := i) (by omega) ?_
  unfold unN
  rw [if_pos i3]
  have h9 : ¬ nib (v i) = 0 := fun e => i3.1 ((nib_z (hv i (by omega))).mp e)
  omega
theorem ans_n {ga v : Nat → Int32} (h : ¬ kindF ga v = 3) : (∀ j, j < 6 → ¬ unk ga v j) ∧ psum (unN ga v) 6 = 0 := by
  have h1 : ∀ j, j < 6 → ¬ unk ga v j := fun j hj => kFn_no 6 0 1 h j (by omega) (by omega)
  exact ⟨h1, psum_z (fun j hj => if_neg (h1 j hj))⟩
theorem ans_2 {ga v : Nat → Int32} (hg : ∀ j, j < 6 → AOK (ga j)) (h : kindF ga v = 2) : 0 < psum (beN ga v) 6 := by
  have h3 : ¬ kindF ga v = 3 := by rw [h]; decide
  obtain ⟨i, i1, i2, i3⟩ := kFn_rf 6 0 h
  have h4 : ¬ ga i = 0 := fun e => (ans_n h3).1 i (by omega) ⟨i3.1, e⟩
  refine psum_pos (i := i) (by omega) ?_
  unfold beN
  rw [if_pos ⟨i3, h4⟩]
  have h9 : ¬ nib (lowF (ga i)) = 0 := fun e => low_ne (hg i (by omega)) h4 ((nib_z (lowF_ok (ga i))).mp e)
  omega
theorem ans_1 {ga v : Nat → Int32} (h : kindF ga v = 1) : psum (beN ga v) 6 = 0 :=
  psum_z (fun j hj => if_neg (fun h9 => kFn_nr 6 0 h j (by omega) (by omega) h9.1))

set_option maxHeartbeats 4000000 in
set_option maxRecDepth 100000 in
theorem c_L_answer_0 {l : Launch} (hl : l.stackTraces = false) (G : hG) (f : hM) (lf la le : Nat) (st li sr tm lp mi ix : Int32) (gq : Nat → Int32) (L : List Fr) (F ga g2 : Nat → Int32) (b : Nat) (hSo : SOK b (st, li, sr, tm, lp, mi, ix, gq, L)) (hbo : b ≤ 1000000) (rk ri rx : Int32) (rv : Nat → Int32) (hFo : FOK b (rk, ri, rx, rv)) (hga : ∀ j, j < 6 → AOK (ga j)) (hst0 : ¬ st = 0) (xs : Nat → Int64) (hX : XS xs L) (hn : L.length < 64) (k_lf : f lf = some (.inl (cJ G, 64, .inr (.inl xs)))) (k_la : f la = some (.inl (cI G, 12, .inl (j6r ga g2)))) (k_le : f le = some (.inl (cI G, 16, .inl (jE (e8r st li sr tm lp mi ix (nI L.length)) F)))) : CT l yL_answer (.code yL_answer cL_answer 16 none) 1 26 0 0 G [.long (lN (pkN (rk, ri, rx, rv))), .ref lf, .ref la, .ref le, .int 0] f (fun v f1 => v = none ∧ (∃ xs1 : Nat → Int64, f1 lf = some (.inl (cJ G, 64, .inr (.inl xs1))) ∧ XS xs1 (ansS ga (rk, ri, rx, rv) (st, li, sr, tm, lp, mi, ix, gq, L)).2.2.2.2.2.2.2.2) ∧ f1 le = some (.inl (cI G, 16, .inl (jE (eSt (ansS ga (rk, ri, rx, rv) (st, li, sr, tm, lp, mi, ix, gq, L))) F))) ∧ hEq [lf, le] f f1) (fun E f1 => False) := by
  refine hp_start hl (own := RL) (by decide) rfl (Nat.le_of_ble_eq_true rfl) ?_
  intro p e s m args below meth c B0 hr hnm hout hw hS ls hl9
  have hx := B0.1
  have hb := B0.2.1
  have hl9 : lv_has ls 16 [(0, .long (lN (pkN (rk, ri, rx, rv)))), (2, .ref lf), (3, .ref la), (4, .ref le), (5, .int 0)] := hl9
  obtain ⟨⟨s9, hs9, hs4⟩, ⟨mm, hm, hmb⟩, ⟨q, hq, hq10⟩, hlp, ⟨xx, hxx, hx4⟩, hgq, hfr⟩ := id hSo
  have hs9 : st = nI s9 := hs9
  have hm : li + 1 = nI mm := hm
  have hq : sr = nI q := hq
  have hlp : lp = 0 ∨ lp = 1 := hlp
  have hxx : ix = nI xx := hxx
  have hgq : ∀ j, j < 6 → VOK (gq j) := hgq
  have hfr : ∀ r ∈ L, FOK b r := hfr
  have hvo : ∀ j, j < 6 → VOK (rv j) := hFo.2.2.2
  have hri : iN ri ≤ b := (hFo.n hbo).2.1
  have hul : ∀ n, n ≤ 6 → psum (unN ga rv) n < 2 ^ (4 * n) := fun n hn9 => psum_lt (fun j hj => unN_lt (hvo j (by omega)))
  have hbl : ∀ n, n ≤ 6 → psum (beN ga rv) n < 2 ^ (4 * n) := fun n hn9 => psum_lt (fun j hj => beN_lt)
  refine lv_bipush (v := 8) hx hb dL_answer_0 (by decide) ?_
  refine lv_iload hx hb dL_answer_2 (lv_at hl9 4 rfl) ?_
  refine lv_imul hx hb dL_answer_4 ?_
  refine hp_c (v := 0) (by decide) ?_
  refine lv_istore (lv' := [(6, .int 0), (0, .long (lN (pkN (rk, ri, rx, rv)))), (2, .ref lf), (3, .ref la), (4, .ref le), (5, .int 0)]) hx hb dL_answer_5 hl9 (by decide) rfl (fun ls hl9 => ?_)
  refine lv_lload_n hx hb dL_answer_7 rfl (lv_at hl9 1 rfl) ?_
  refine lv_bipush (v := 36) hx hb dL_answer_8 (by decide) ?_
  refine lv_lshr (v := (lN ((pkN (rk, ri, rx, rv)) / 68719476736))) hx hb dL_answer_10 (shr_n (s := 36) (by first | exact pkN_lt hFo hbo | exact Nat.lt_trans (pkN_lt hFo hbo) (by decide) | exact Nat.lt_of_le_of_lt (Nat.div_le_self _ _) (Nat.lt_trans (pkN_lt hFo hbo) (by decide))) (by omega) rfl) ?_
  refine lv_l2i (v := (nI ((pkN (rk, ri, rx, rv)) / 68719476736))) hx hb dL_answer_11 (lN_i _) ?_
  refine hp_c (v := (nI (iN ri))) (congrArg nI (pkN_i hFo hbo)) ?_
  refine lv_istore (lv' := [(7, .int (nI (iN ri))), (6, .int 0), (0, .long (lN (pkN (rk, ri, rx, rv)))), (2, .ref lf), (3, .ref la), (4, .ref le), (5, .int 0)]) hx hb dL_answer_12 hl9 (by decide) rfl (fun ls hl9 => ?_)
  refine lv_lconst (v := lN 0) hx hb dL_answer_14 rfl ?_
  refine lv_lstore (lv' := [(8, .long (lN 0)), (7, .int (nI (iN ri))), (6, .int 0), (0, .long (lN (pkN (rk, ri, rx, rv)))), (2, .ref lf), (3, .ref la), (4, .ref le), (5, .int 0)]) hx hb dL_answer_15 hl9 (by decide) rfl (fun ls hl9 => ?_)
  refine lv_lconst (v := lN 0) hx hb dL_answer_17 rfl ?_
  refine lv_lstore (lv' := [(10, .long (lN 0)), (8, .long (lN 0)), (7, .int (nI (iN ri))), (6, .int 0), (0, .long (lN (pkN (rk, ri, rx, rv)))), (2, .ref lf), (3, .ref la), (4, .ref le), (5, .int 0)]) hx hb dL_answer_18 hl9 (by decide) rfl (fun ls hl9 => ?_)
  refine lv_iconst (v := 0) hx hb dL_answer_20 (by decide) ?_
  refine lv_istore (lv' := [(12, .int 0), (10, .long (lN 0)), (8, .long (lN 0)), (7, .int (nI (iN ri))), (6, .int 0), (0, .long (lN (pkN (rk, ri, rx, rv)))), (2, .ref lf), (3, .ref la), (4, .ref le), (5, .int 0)]) hx hb dL_answer_21 hl9 (by decide) rfl (fun ls hl9 => ?_)
  refine hp_for (nL := 16) (pc := 23) (fun j f9 lv9 => f9 = f ∧ lv9 = [(12, .int (nI j)), (8, .long (lN (psum (unN ga rv) j))), (10, .long (lN (psum (beN ga rv) j))), (0, .long (lN (pkN (rk, ri, rx, rv)))), (2, .ref lf), (3, .ref la), (4, .ref le), (5, .int 0), (6, .int 0), (7, .int (nI (iN ri)))]) 6 (fun j f9 lv9 H locs ls hj hI hw hS hl9 ih => ?_) (fun f9 lv9 H locs ls hI hw hS hl9 => ?_) 6 0 (Nat.zero_add _) f _ _ _ ls ⟨rfl, rfl⟩ hw hS (lv_sub hl9 [0, 2, 1, 5, 6, 7, 8, 9, 4, 3] rfl)
  · obtain ⟨ef9, el9⟩ := hI
    rw [ef9] at hw
    rw [el9] at hl9
    refine lv_iload hx hb dL_answer_23 (lv_at hl9 0 rfl) ?_
    refine lv_bipush (v := 6) hx hb dL_answer_25 (by decide) ?_
    refine lv_icmp_ge (tgt := 146) hx hb dL_answer_27 (by decide) (fun c9 => absurd c9 (show ¬ nI 6 ≤ nI j from nI_ge hj (by omega))) (fun _ => ?_)
    refine lv_lload_n hx hb dL_answer_30 rfl (lv_at hl9 3 rfl) ?_
    refine lv_iconst (v := 3) hx hb dL_answer_31 (by decide) ?_
    refine lv_iconst (v := 4) hx hb dL_answer_32 (by decide) ?_
    refine lv_iload hx hb dL_answer_33 (lv_at hl9 0 rfl) ?_
    refine lv_imul hx hb dL_answer_35 ?_
    refine hp_c (v := (nI (4 * j))) (pk_mul 4 j) ?_
    refine lv_iadd hx hb dL_answer_36 ?_
    refine hp_c (v := (nI (3 + 4 * j))) (nI_add 3 (4 * j)) ?_
    refine lv_lshr (v := (lN (pkN (rk, ri, rx, rv) / 2 ^ (3 + 4 * j)))) hx hb dL_answer_37 (shr_n (s := 3 + 4 * j) (pkN_lt hFo hbo) (by omega) rfl) ?_
    refine lv_ldc2 (v := 15) hx hb B0.2.2.2.1 (B0.2.2.2.2.1 _ qK_L_79) dL_answer_38 ?_
    refine hp_cl (v := lN 15) rfl ?_
    refine lv_land hx hb dL_answer_41 ?_
    refine hp_cl (v := (lN ((pkN (rk, ri, rx, rv) / 2 ^ (3 + 4 * j)) % 16))) (g_mask (s := 4) (p := 16) rfl (by omega) (by first | exact pkN_lt hFo hbo | exact Nat.lt_trans (pkN_lt hFo hbo) (by decide) | exact Nat.lt_of_le_of_lt (Nat.div_le_self _ _) (Nat.lt_trans (pkN_lt hFo hbo) (by decide)))) ?_
    refine lv_l2i (v := (nI ((pkN (rk, ri, rx, rv) / 2 ^ (3 + 4 * j)) % 16))) hx hb dL_answer_42 (lN_i _) ?_
    refine hp_c (v := (nI (nib (rv j)))) (congrArg nI (pkN_o hFo hbo hj)) ?_
    refine lv_istore (lv' := [(13, .int (nI (nib (rv j)))), (12, .int (nI j)), (8, .long (lN (psum (unN ga rv) j))), (10, .long (lN (psum (beN ga rv) j))), (0, .long (lN (pkN (rk, ri, rx, rv)))), (2, .ref lf), (3, .ref la), (4, .ref le), (5, .int 0), (6, .int 0), (7, .int (nI (iN ri)))]) hx hb dL_answer_43 hl9 (by decide) rfl (fun ls hl9 => ?_)
    refine lv_aload_n hx hb dL_answer_45 rfl (lv_at hl9 6 rfl) ?_
    refine lv_bipush (v := 6) hx hb dL_answer_46 (by decide) ?_
    refine lv_iload hx hb dL_answer_48 (lv_at hl9 8 rfl) ?_
    refine lv_imul hx hb dL_answer_50 ?_
    refine hp_c (v := 0) (by decide) ?_
    refine lv_iload hx hb dL_answer_51 (lv_at hl9 1 rfl) ?_
    refine lv_iadd hx hb dL_answer_53 ?_
    refine hp_c (v := (nI j)) (by rw [show (0 : Int32) = nI 0 from rfl, nI_add, Nat.zero_add]) ?_
    refine hp_iald B0 hw k_la (vp_in_nI (show j < 12 by omega) (by omega)) dL_answer_54 ?_
    refine hp_c (v := (ga j)) ((by rw [nI_clamp (by omega)]; exact j6_0 hj)) ?_
    refine lv_istore (lv' := [(14, .int (ga j)), (13, .int (nI (nib (rv j)))), (12, .int (nI j)), (8, .long (lN (psum (unN ga rv) j))), (10, .long (lN (psum (beN ga rv) j))), (0, .long (lN (pkN (rk, ri, rx, rv)))), (2, .ref lf), (3, .ref la), (4, .ref le), (5, .int 0), (6, .int 0), (7, .int (nI (iN ri)))]) hx hb dL_answer_55 hl9 (by decide) rfl (fun ls hl9 => ?_)
    refine lv_iload hx hb dL_answer_57 (lv_at hl9 1 rfl) ?_
    refine lv_if_eq (tgt := 140) hx hb dL_answer_59 (by decide) (fun c1 => ?_) (fun c1 => ?_)
    · refine lv_iinc (v := (nI (j + 1))) (lv' := [(12, .int (nI (j + 1))), (14, .int (ga j)), (13, .int (nI (nib (rv j)))), (8, .long (lN (psum (unN ga rv) j))), (10, .long (lN (psum (beN ga rv) j))), (0, .long (lN (pkN (rk, ri, rx, rv)))), (2, .ref lf), (3, .ref la), (4, .ref le), (5, .int 0), (6, .int 0), (7, .int (nI (iN ri)))]) hx hb dL_answer_140 hl9 (k := 2) rfl (nI_1 j) (by decide) rfl (fun ls hl9 => ?_)
      refine lv_goto (tgt := 23) hx hb dL_answer_143 (by decide) ?_
      have hu9 : psum (unN ga rv) (j + 1) = psum (unN ga rv) j := psum_k (show unN ga rv j = 0 from (if_neg (fun h9 => h9.1 (nib_I0 (hvo j hj) c1))))
      have hb9 : psum (beN ga rv) (j + 1) = psum (beN ga rv) j := psum_k (show beN ga rv j = 0 from (if_neg (fun h9 => h9.1.1 (nib_I0 (hvo j hj) c1))))
      rw [← hu9, ← hb9] at hl9
      exact ih _ _ H locs ls ⟨rfl, rfl⟩ hw hS (lv_sub hl9 [0, 3, 4, 5, 6, 7, 8, 9, 10, 11] rfl)
    · refine lv_iload hx hb dL_answer_62 (lv_at hl9 0 rfl) ?_
      refine lv_iload hx hb dL_answer_64 (lv_at hl9 1 rfl) ?_
      refine lv_iconst (v := 1) hx hb dL_answer_66 (by decide) ?_
      refine lv_isub hx hb dL_answer_67 ?_
      refine hp_c (v := (rv j)) (nib_sub (hvo j hj) (nib_I1 (hvo j hj) c1)) ?_
      refine lv_ishr hx hb dL_answer_68 ?_
      refine lv_iconst (v := 1) hx hb dL_answer_69 (by decide) ?_
      refine lv_iand hx hb dL_answer_70 ?_
      refine lv_iconst (v := 1) hx hb dL_answer_71 (by decide) ?_
      refine lv_icmp_ne (tgt := 78) hx hb dL_answer_72 (by decide) (fun c2 => ?_) (fun c2 => ?_)
      · refine lv_iload hx hb dL_answer_78 (lv_at hl9 0 rfl) ?_
        refine lv_if_ne (tgt := 96) hx hb dL_answer_80 (by decide) (fun c3 => ?_) (fun c3 => ?_)
        · refine lv_iconst (v := 0) hx hb dL_answer_96 (by decide) ?_
          refine lv_istore (lv' := [(15, .int 0), (14, .int (ga j)), (13, .int (nI (nib (rv j)))), (12, .int (nI j)), (8, .long (lN (psum (unN ga rv) j))), (10, .long (lN (psum (beN ga rv) j))), (0, .long (lN (pkN (rk, ri, rx, rv)))), (2, .ref lf), (3, .ref la), (4, .ref le), (5, .int 0), (6, .int 0), (7, .int (nI (iN ri)))]) hx hb dL_answer_97 hl9 (by decide) rfl (fun ls hl9 => ?_)
          refine hp_for (nL := 16) (pc := 99) (fun wz f9 lv9 => f9 = f ∧ lowN (ga j) (10 - wz) wz = lowF (ga j) ∧ lv9 = [(15, .int (nI wz)), (13, .int (nI (nib (rv j)))), (14, .int (ga j)), (12, .int (nI j)), (8, .long (lN (psum (unN ga rv) j))), (10, .long (lN (psum (beN ga rv) j))), (0, .long (lN (pkN (rk, ri, rx, rv)))), (2, .ref lf), (3, .ref la), (4, .ref le), (5, .int 0), (6, .int 0), (7, .int (nI (iN ri)))]) 10 (fun wz f9 lv9 H locs ls hwz hI hw hS hl9 ih2 => ?_) (fun f9 lv9 H locs ls hI hw hS hl9 => ?_) 10 0 (Nat.zero_add _) f _ _ _ ls ⟨rfl, rfl, rfl⟩ hw hS (lv_sub hl9 [0, 2, 1, 3, 4, 5, 6, 7, 8, 9, 10, 11, 12] rfl)
          · obtain ⟨ef9, hv9, el9⟩ := hI
            rw [ef9] at hw
            rw [el9] at hl9
            refine lv_iload hx hb dL_answer_99 (lv_at hl9 2 rfl) ?_
            refine lv_if_le (tgt := 120) hx hb dL_answer_101 (by decide) (fun c9 => absurd c9 (AOK.pos (hga j hj) c3)) (fun _ => ?_)
            refine lv_iload hx hb dL_answer_104 (lv_at hl9 2 rfl) ?_
            refine lv_iconst (v := 1) hx hb dL_answer_106 (by decide) ?_
            refine lv_iload hx hb dL_answer_107 (lv_at hl9 0 rfl) ?_
            refine lv_ishl hx hb dL_answer_109 ?_
            refine lv_iand hx hb dL_answer_110 ?_
            refine lv_if_ne (tgt := 120) hx hb dL_answer_111 (by decide) (fun c4 => ?_) (fun c4 => ?_)
            · have hbit9 : ((ga j >>> (nI wz &&& 31)) &&& 1) = 1 := Decidable.byContradiction (fun h9 => c4 ((bitL (hga j hj) hwz).mpr h9))
              refine lv_iload hx hb dL_answer_120 (lv_at hl9 2 rfl) ?_
              refine lv_if_le (tgt := 140) hx hb dL_answer_122 (by decide) (fun c9 => absurd c9 (AOK.pos (hga j hj) c3)) (fun _ => ?_)
              refine lv_lload hx hb dL_answer_125 (lv_at hl9 5 rfl) ?_
              refine lv_iload hx hb dL_answer_127 (lv_at hl9 0 rfl) ?_
              refine lv_i2l (v := (lN wz)) hx hb dL_answer_129 (nI_l (n := wz) (by omega)) ?_
              refine lv_lconst (v := lN 1) hx hb dL_answer_130 rfl ?_
              refine lv_ladd hx hb dL_answer_131 ?_
              refine hp_cl (v := (lN (wz + 1))) (lN_add _ _) ?_
              refine lv_iconst (v := 4) hx hb dL_answer_132 (by decide) ?_
              refine lv_iload hx hb dL_answer_133 (lv_at hl9 3 rfl) ?_
              refine lv_imul hx hb dL_answer_135 ?_
              refine hp_c (v := (nI (4 * j))) (pk_mul 4 j) ?_
              refine lv_lshl (v := (lN ((wz + 1) * 2 ^ (4 * j)))) hx hb dL_answer_136 (wb_shl (k := 4 * j) _ (by omega)) ?_
              refine lv_lor hx hb dL_answer_137 ?_
              refine hp_cl (v := (lN (psum (beN ga rv) j + (wz + 1) * 2 ^ (4 * j)))) (g_or' (k := 4 * j) rfl (hbl j (by omega)) (by have h7 := hbl j (by omega); have h6 : 2 ^ (4 * j) ≤ 2 ^ 20 := Nat.pow_le_pow_right (by decide) (by omega); have h5 : (wz + 1) * 2 ^ (4 * j) ≤ 15 * 2 ^ 20 := Nat.mul_le_mul (by omega) h6; omega)) ?_
              refine lv_lstore (lv' := [(10, .long (lN (psum (beN ga rv) j + (wz + 1) * 2 ^ (4 * j)))), (15, .int (nI wz)), (13, .int (nI (nib (rv j)))), (14, .int (ga j)), (12, .int (nI j)), (8, .long (lN (psum (unN ga rv) j))), (0, .long (lN (pkN (rk, ri, rx, rv)))), (2, .ref lf), (3, .ref la), (4, .ref le), (5, .int 0), (6, .int 0), (7, .int (nI (iN ri)))]) hx hb dL_answer_138 hl9 (by decide) rfl (fun ls hl9 => ?_)
              refine lv_iinc (v := (nI (j + 1))) (lv' := [(12, .int (nI (j + 1))), (10, .long (lN (psum (beN ga rv) j + (wz + 1) * 2 ^ (4 * j)))), (15, .int (nI wz)), (13, .int (nI (nib (rv j)))), (14, .int (ga j)), (8, .long (lN (psum (unN ga rv) j))), (0, .long (lN (pkN (rk, ri, rx, rv)))), (2, .ref lf), (3, .ref la), (4, .ref le), (5, .int 0), (6, .int 0), (7, .int (nI (iN ri)))]) hx hb dL_answer_140 hl9 (k := 4) rfl (nI_1 j) (by decide) rfl (fun ls hl9 => ?_)
              refine lv_goto (tgt := 23) hx hb dL_answer_143 (by decide) ?_
              have hu9 : psum (unN ga rv) (j + 1) = psum (unN ga rv) j := psum_k (show unN ga rv j = 0 from (if_neg (fun h9 => c3 h9.2)))
              have hb9 : psum (beN ga rv) (j + 1) = psum (beN ga rv) j + (wz + 1) * 2 ^ (4 * j) := psum_s (show beN ga rv j = (wz + 1) from ((if_pos ⟨⟨(nib_I1 (hvo j hj) c1), c2⟩, c3⟩).trans (by rw [← hv9, show 10 - wz = (10 - (wz + 1)) + 1 by omega, lowN_1 hbit9]; exact nib_nI (by omega))))
              rw [← hu9, ← hb9] at hl9
              exact ih _ _ H locs ls ⟨rfl, rfl⟩ hw hS (lv_sub hl9 [0, 5, 1, 6, 7, 8, 9, 10, 11, 12] rfl)
            · refine lv_iinc (v := (nI (wz + 1))) (lv' := [(15, .int (nI (wz + 1))), (13, .int (nI (nib (rv j)))), (14, .int (ga j)), (12, .int (nI j)), (8, .long (lN (psum (unN ga rv) j))), (10, .long (lN (psum (beN ga rv) j))), (0, .long (lN (pkN (rk, ri, rx, rv)))), (2, .ref lf), (3, .ref la), (4, .ref le), (5, .int 0), (6, .int 0), (7, .int (nI (iN ri)))]) hx hb dL_answer_114 hl9 (k := 0) rfl (nI_1 wz) (by decide) rfl (fun ls hl9 => ?_)
              refine lv_goto (tgt := 99) hx hb dL_answer_117 (by decide) ?_
              exact ih2 _ _ H locs ls ⟨rfl, (by rw [← hv9, show 10 - wz = (10 - (wz + 1)) + 1 by omega, lowN_0 ((bitL (hga j hj) hwz).mp c4)]), rfl⟩ hw hS (lv_sub hl9 [0, 1, 2, 3, 4, 5, 6, 7, 8, 9, 10, 11, 12] rfl)
          · obtain ⟨ef9, hv9, el9⟩ := hI
            rw [ef9] at hw
            rw [el9] at hl9
            exact absurd (show lowF (ga j) = -1 from hv9.symm) (low_ne (hga j hj) c3)
        · refine lv_lload hx hb dL_answer_83 (lv_at hl9 3 rfl) ?_
          refine lv_iload hx hb dL_answer_85 (lv_at hl9 1 rfl) ?_
          refine lv_i2l (v := (lN (nib (rv j)))) hx hb dL_answer_87 (nI_l (n := nib (rv j)) (by have := nib_le (hvo j hj); omega)) ?_
          refine lv_iconst (v := 4) hx hb dL_answer_88 (by decide) ?_
          refine lv_iload hx hb dL_answer_89 (lv_at hl9 2 rfl) ?_
          refine lv_imul hx hb dL_answer_91 ?_
          refine hp_c (v := (nI (4 * j))) (pk_mul 4 j) ?_
          refine lv_lshl (v := (lN (nib (rv j) * 2 ^ (4 * j)))) hx hb dL_answer_92 (wb_shl (k := 4 * j) _ (by omega)) ?_
          refine lv_lor hx hb dL_answer_93 ?_
          refine hp_cl (v := (lN (psum (unN ga rv) j + nib (rv j) * 2 ^ (4 * j)))) (g_or' (k := 4 * j) rfl (hul j (by omega)) (by have h9 := nib_le (hvo j hj); have h7 := hul j (by omega); have h6 : 2 ^ (4 * j) ≤ 2 ^ 20 := Nat.pow_le_pow_right (by decide) (by omega); have h5 : nib (rv j) * 2 ^ (4 * j) ≤ 15 * 2 ^ 20 := Nat.mul_le_mul (by omega) h6; omega)) ?_
          refine lv_lstore (lv' := [(8, .long (lN (psum (unN ga rv) j + nib (rv j) * 2 ^ (4 * j)))), (14, .int (ga j)), (13, .int (nI (nib (rv j)))), (12, .int (nI j)), (10, .long (lN (psum (beN ga rv) j))), (0, .long (lN (pkN (rk, ri, rx, rv)))), (2, .ref lf), (3, .ref la), (4, .ref le), (5, .int 0), (6, .int 0), (7, .int (nI (iN ri)))]) hx hb dL_answer_94 hl9 (by decide) rfl (fun ls hl9 => ?_)
          refine lv_iconst (v := 0) hx hb dL_answer_96 (by decide) ?_
          refine lv_istore (lv' := [(15, .int 0), (8, .long (lN (psum (unN ga rv) j + nib (rv j) * 2 ^ (4 * j)))), (14, .int (ga j)), (13, .int (nI (nib (rv j)))), (12, .int (nI j)), (10, .long (lN (psum (beN ga rv) j))), (0, .long (lN (pkN (rk, ri, rx, rv)))), (2, .ref lf), (3, .ref la), (4, .ref le), (5, .int 0), (6, .int 0), (7, .int (nI (iN ri)))]) hx hb dL_answer_97 hl9 (by decide) rfl (fun ls hl9 => ?_)
          refine lv_iload hx hb dL_answer_99 (lv_at hl9 2 rfl) ?_
          refine lv_if_le (tgt := 120) hx hb dL_answer_101 (by decide) (fun _ => ?_) (fun c9 => absurd (by rw [c3]; decide) c9)
          refine lv_iload hx hb dL_answer_120 (lv_at hl9 2 rfl) ?_
          refine lv_if_le (tgt := 140) hx hb dL_answer_122 (by decide) (fun _ => ?_) (fun c9 => absurd (by rw [c3]; decide) c9)
          refine lv_iinc (v := (nI (j + 1))) (lv' := [(12, .int (nI (j + 1))), (15, .int 0), (8, .long (lN (psum (unN ga rv) j + nib (rv j) * 2 ^ (4 * j)))), (14, .int (ga j)), (13, .int (nI (nib (rv j)))), (10, .long (lN (psum (beN ga rv) j))), (0, .long (lN (pkN (rk, ri, rx, rv)))), (2, .ref lf), (3, .ref la), (4, .ref le), (5, .int 0), (6, .int 0), (7, .int (nI (iN ri)))]) hx hb dL_answer_140 hl9 (k := 4) rfl (nI_1 j) (by decide) rfl (fun ls hl9 => ?_)
          refine lv_goto (tgt := 23) hx hb dL_answer_143 (by decide) ?_
          have hu9 : psum (unN ga rv) (j + 1) = psum (unN ga rv) j + nib (rv j) * 2 ^ (4 * j) := psum_s (show unN ga rv j = nib (rv j) from (if_pos ⟨(nib_I1 (hvo j hj) c1), c3⟩))
          have hb9 : psum (beN ga rv) (j + 1) = psum (beN ga rv) j := psum_k (show beN ga rv j = 0 from (if_neg (fun h9 => h9.2 c3)))
          rw [← hu9, ← hb9] at hl9
          exact ih _ _ H locs ls ⟨rfl, rfl⟩ hw hS (lv_sub hl9 [0, 2, 5, 6, 7, 8, 9, 10, 11, 12] rfl)
      · refine lv_goto (tgt := 140) hx hb dL_answer_75 (by decide) ?_
        refine lv_iinc (v := (nI (j + 1))) (lv' := [(12, .int (nI (j + 1))), (14, .int (ga j)), (13, .int (nI (nib (rv j)))), (8, .long (lN (psum (unN ga rv) j))), (10, .long (lN (psum (beN ga rv) j))), (0, .long (lN (pkN (rk, ri, rx, rv)))), (2, .ref lf), (3, .ref la), (4, .ref le), (5, .int 0), (6, .int 0), (7, .int (nI (iN ri)))]) hx hb dL_answer_140 hl9 (k := 2) rfl (nI_1 j) (by decide) rfl (fun ls hl9 => ?_)
        refine lv_goto (tgt := 23) hx hb dL_answer_143 (by decide) ?_
        have hu9 : psum (unN ga rv) (j + 1) = psum (unN ga rv) j := psum_k (show unN ga rv j = 0 from (if_neg (fun h9 => by have h8 := c2; rw [h9.2, bit0] at h8; exact absurd h8 (by decide))))
        have hb9 : psum (beN ga rv) (j + 1) = psum (beN ga rv) j := psum_k (show beN ga rv j = 0 from (if_neg (fun h9 => h9.1.2 c2)))
        rw [← hu9, ← hb9] at hl9
        exact ih _ _ H locs ls ⟨rfl, rfl⟩ hw hS (lv_sub hl9 [0, 3, 4, 5, 6, 7, 8, 9, 10, 11] rfl)
  · obtain ⟨ef9, el9⟩ := hI
    rw [ef9] at hw
    rw [el9] at hl9
    refine lv_iload hx hb dL_answer_23 (lv_at hl9 0 rfl) ?_
    refine lv_bipush (v := 6) hx hb dL_answer_25 (by decide) ?_
    refine lv_icmp_ge (tgt := 146) hx hb dL_answer_27 (by decide) (fun _ => ?_) (fun c9 => absurd (by decide) c9)
    have hu6 := hul 6 (by omega)
    have hb6 := hbl 6 (by omega)
    rcases kindF_val ga rv with hk | hk | hk
    · have hun := (ans_n (ga := ga) (v := rv) (by rw [hk]; decide)).2
      have hbz := ans_1 hk
      refine lv_lload hx hb dL_answer_146 (lv_at hl9 1 rfl) ?_
      refine lv_lconst (v := lN 0) hx hb dL_answer_148 rfl ?_
      refine W.lcmp hx hb dL_answer_149 ?_
      refine lv_if_gt (tgt := 160) hx hb dL_answer_150 (by decide) (fun c9 => absurd c9 (by rw [(lg_zero hun)]; decide)) (fun _ => ?_)
      refine lv_lload hx hb dL_answer_153 (lv_at hl9 2 rfl) ?_
      refine lv_lconst (v := lN 0) hx hb dL_answer_155 rfl ?_
      refine W.lcmp hx hb dL_answer_156 ?_
      refine lv_if_le (tgt := 212) hx hb dL_answer_157 (by decide) (fun _ => ?_) (fun c9 => absurd (by rw [(lg_zero hbz)]; decide) c9)
      refine lv_aload_n hx hb dL_answer_212 rfl (lv_at hl9 4 rfl) ?_
      refine lv_aload hx hb dL_answer_213 (lv_at hl9 6 rfl) ?_
      refine lv_iload hx hb dL_answer_215 (lv_at hl9 7 rfl) ?_
      refine lv_iconst (v := 1) hx hb dL_answer_217 (by decide) ?_
      refine lv_iload hx hb dL_answer_218 (lv_at hl9 9 rfl) ?_
      refine lv_lconst (v := lN 0) hx hb dL_answer_220 rfl ?_
      refine hp_S (As := [.ref lf, .ref le, .int 0, .int 1, .int (nI (iN ri)), .long (lN 0)]) (rest := []) B0 hw hS (c_L_post_0 hl G f lf le xs (jE (e8r st li sr tm lp mi ix (nI L.length)) F) k_lf k_le 1 (iN ri) 0 xx L.length (by omega) (by omega) (show (jE (e8r st li sr tm lp mi ix (nI L.length)) F) 6 = nI xx from hxx) (by omega) (show (jE (e8r st li sr tm lp mi ix (nI L.length)) F) 7 = nI L.length from rfl) (by omega)) mS_L_post qM_L_73 rfl rfl hl9.1 (Nat.le_of_ble_eq_true rfl) ⟨⟨Nat.le_of_ble_eq_true rfl, Nat.le_of_ble_eq_true rfl⟩, Nat.le_of_ble_eq_true rfl, Nat.le_of_ble_eq_true rfl⟩ dL_answer_221 (fun E ce q9 f5 H locs hPX hw hS hce hcv hcl => ?_) (fun v f5 H locs hP hw hS => ?_)
      · exact hPX.elim
      · obtain ⟨ev9, h6, h7, k8⟩ := hP
        subst ev9
        rw [show (upd (jE (e8r st li sr tm lp mi ix (nI L.length)) F) 7 (nI (L.length + 1)) : Nat → Int32) = (jE (e8r st li sr tm lp mi ix (nI (L.length + 1))) F) from (by rw [jE_u0 (by omega), e8_u7])] at h7
        refine W.eq (g2 := F0 m 224 ls []) rfl ?_
        rcases (show s9 = 1 ∨ s9 = 2 ∨ s9 = 3 ∨ s9 = 4 by have : s9 ≠ 0 := fun e9 => hst0 (by rw [hs9, e9]; rfl); omega) with e9 | e9 | e9 | e9
        · have hsv : st = 1 := by rw [hs9, e9]; rfl
          refine lv_aload hx hb dL_answer_224 (lv_at hl9 6 rfl) ?_
          refine lv_iload hx hb dL_answer_226 (lv_at hl9 8 rfl) ?_
          refine hp_iald B0 hw h7 (by unfold vp_in; decide) dL_answer_228 ?_
          refine hp_c (v := 1) (hsv) ?_
          refine lv_iconst (v := 3) hx hb dL_answer_229 (by decide) ?_
          refine lv_icmp_ge (tgt := 242) hx hb dL_answer_230 (by decide) (fun c9 => absurd c9 (by decide)) (fun _ => ?_)
          refine lv_aload hx hb dL_answer_233 (lv_at hl9 6 rfl) ?_
          refine lv_iload hx hb dL_answer_235 (lv_at hl9 8 rfl) ?_
          refine lv_dup2_11 hx hb dL_answer_237 rfl rfl ?_
          refine hp_iald B0 hw h7 (by unfold vp_in; decide) dL_answer_238 ?_
          refine hp_c (v := 1) (hsv) ?_
          refine lv_iconst (v := 2) hx hb dL_answer_239 (by decide) ?_
          refine lv_iadd hx hb dL_answer_240 ?_
          refine hp_c (v := 3) (by decide) ?_
          refine hp_iast B0 hw hS h7 (by unfold vp_in; decide) dL_answer_241 (fun H locs f10 ef10 hw hS => ?_)
          rw [show (upd (jE (e8r st li sr tm lp mi ix (nI (L.length + 1))) F) (0 : Int32).toNatClampNeg 3 : Nat → Int32) = (jE (e8r 3 li sr tm lp mi ix (nI (L.length + 1))) F) from (by rw [show (0 : Int32).toNatClampNeg = 0 from rfl, jE_u0 (by omega), e8_u0])] at ef10
          have h11 : f10 le = some (.inl (cI G, 16, .inl (jE (e8r 3 li sr tm lp mi ix (nI (L.length + 1))) F))) := by rw [ef10, va_up_self]
          have h12 : f10 lf = some (.inl (cJ G, 64, .inr (.inl (vp_updL xs L.length (lN (1 + 8 * 0 + xx * 4294967296 + (iN ri) * 68719476736)))))) := by rw [ef10, va_up_ne _ _ (hneL k_lf k_le (Nat.ne_of_beq_eq_false rfl))]; exact h6
          have hpk : 1 + 8 * 0 + xx * 4294967296 + (iN ri) * 68719476736 = pkN (1, ri, ix, toldF ga rv 1) := by
            rw [show 0 = opN (toldF ga rv 1) from (ack_op (ga := ga) (v := rv)).symm]
            conv => rhs; rw [hxx, ← (show nI (iN ri) = ri from hFo.r2 hbo)]
            exact pkN_eq (by omega) (by omega) (by omega)
          rw [hpk] at h12
          have hA : ansS ga (rk, ri, rx, rv) (st, li, sr, tm, lp, mi, ix, gq, L) = (3, li, sr, tm, lp, mi, ix, gq, L ++ [(1, ri, ix, toldF ga rv 1)]) := by
            show addS (ansT st (kindF ga rv), li, sr, tm, lp, mi, ix, gq, L) (kindF ga rv, ri, ix, toldF ga rv (kindF ga rv)) = _
            rw [hk, show ansT st 1 = 3 from by rw [hsv]; rfl]
            rfl
          exact hp_vret B0 hw hS hr ⟨Nat.le_of_ble_eq_true rfl, Nat.le_of_ble_eq_true rfl⟩ dL_answer_242 (⟨rfl, ⟨_, h12, (by rw [hA]; exact hX.app _ rfl)⟩, (by rw [hA, ← eS_app]; exact h11), ((show hEq [lf, le] f f5 from (hEq.mono k8 (fun _ h9 => h9))).tr (show hEq [lf, le] f5 f10 from (by rw [ef10]; exact hEq.up (List.mem_cons_of_mem _ List.mem_cons_self))))⟩)
        · have hsv : st = 2 := by rw [hs9, e9]; rfl
          refine lv_aload hx hb dL_answer_224 (lv_at hl9 6 rfl) ?_
          refine lv_iload hx hb dL_answer_226 (lv_at hl9 8 rfl) ?_
          refine hp_iald B0 hw h7 (by unfold vp_in; decide) dL_answer_228 ?_
          refine hp_c (v := 2) (hsv) ?_
          refine lv_iconst (v := 3) hx hb dL_answer_229 (by decide) ?_
          refine lv_icmp_ge (tgt := 242) hx hb dL_answer_230 (by decide) (fun c9 => absurd c9 (by decide)) (fun _ => ?_)
          refine lv_aload hx hb dL_answer_233 (lv_at hl9 6 rfl) ?_
          refine lv_iload hx hb dL_answer_235 (lv_at hl9 8 rfl) ?_
          refine lv_dup2_11 hx hb dL_answer_237 rfl rfl ?_
          refine hp_iald B0 hw h7 (by unfold vp_in; decide) dL_answer_238 ?_
          refine hp_c (v := 2) (hsv) ?_
          refine lv_iconst (v := 2) hx hb dL_answer_239 (by decide) ?_
          refine lv_iadd hx hb dL_answer_240 ?_
          refine hp_c (v := 4) (by decide) ?_
          refine hp_iast B0 hw hS h7 (by unfold vp_in; decide) dL_answer_241 (fun H locs f13 ef13 hw hS => ?_)
          rw [show (upd (jE (e8r st li sr tm lp mi ix (nI (L.length + 1))) F) (0 : Int32).toNatClampNeg 4 : Nat → Int32) = (jE (e8r 4 li sr tm lp mi ix (nI (L.length + 1))) F) from (by rw [show (0 : Int32).toNatClampNeg = 0 from rfl, jE_u0 (by omega), e8_u0])] at ef13
          have h14 : f13 le = some (.inl (cI G, 16, .inl (jE (e8r 4 li sr tm lp mi ix (nI (L.length + 1))) F))) := by rw [ef13, va_up_self]
          have h15 : f13 lf = some (.inl (cJ G, 64, .inr (.inl (vp_updL xs L.length (lN (1 + 8 * 0 + xx * 4294967296 + (iN ri) * 68719476736)))))) := by rw [ef13, va_up_ne _ _ (hneL k_lf k_le (Nat.ne_of_beq_eq_false rfl))]; exact h6
          have hpk : 1 + 8 * 0 + xx * 4294967296 + (iN ri) * 68719476736 = pkN (1, ri, ix, toldF ga rv 1) := by
            rw [show 0 = opN (toldF ga rv 1) from (ack_op (ga := ga) (v := rv)).symm]
            conv => rhs; rw [hxx, ← (show nI (iN ri) = ri from hFo.r2 hbo)]
            exact pkN_eq (by omega) (by omega) (by omega)
          rw [hpk] at h15
          have hA : ansS ga (rk, ri, rx, rv) (st, li, sr, tm, lp, mi, ix, gq, L) = (4, li, sr, tm, lp, mi, ix, gq, L ++ [(1, ri, ix, toldF ga rv 1)]) := by
            show addS (ansT st (kindF ga rv), li, sr, tm, lp, mi, ix, gq, L) (kindF ga rv, ri, ix, toldF ga rv (kindF ga rv)) = _
            rw [hk, show ansT st 1 = 4 from by rw [hsv]; rfl]
            rfl
          exact hp_vret B0 hw hS hr ⟨Nat.le_of_ble_eq_true rfl, Nat.le_of_ble_eq_true rfl⟩ dL_answer_242 (⟨rfl, ⟨_, h15, (by rw [hA]; exact hX.app _ rfl)⟩, (by rw [hA, ← eS_app]; exact h14), ((show hEq [lf, le] f f5 from (hEq.mono k8 (fun _ h9 => h9))).tr (show hEq [lf, le] f5 f13 from (by rw [ef13]; exact hEq.up (List.mem_cons_of_mem _ List.mem_cons_self))))⟩)
        · have hsv : st = 3 := by rw [hs9, e9]; rfl
          refine lv_aload hx hb dL_answer_224 (lv_at hl9 6 rfl) ?_
          refine lv_iload hx hb dL_answer_226 (lv_at hl9 8 rfl) ?_
          refine hp_iald B0 hw h7 (by unfold vp_in; decide) dL_answer_228 ?_
          refine hp_c (v := 3) (hsv) ?_
          refine lv_iconst (v := 3) hx hb dL_answer_229 (by decide) ?_
          refine lv_icmp_ge (tgt := 242) hx hb dL_answer_230 (by decide) (fun _ => ?_) (fun c9 => absurd (by decide) c9)
          have hpk : 1 + 8 * 0 + xx * 4294967296 + (iN ri) * 68719476736 = pkN (1, ri, ix, toldF ga rv 1) := by
            rw [show 0 = opN (toldF ga rv 1) from (ack_op (ga := ga) (v := rv)).symm]
            conv => rhs; rw [hxx, ← (show nI (iN ri) = ri from hFo.r2 hbo)]
            exact pkN_eq (by omega) (by omega) (by omega)
          rw [hpk] at h6
          have hA : ansS ga (rk, ri, rx, rv) (st, li, sr, tm, lp, mi, ix, gq, L) = (st, li, sr, tm, lp, mi, ix, gq, L ++ [(1, ri, ix, toldF ga rv 1)]) := by
            show addS (ansT st (kindF ga rv), li, sr, tm, lp, mi, ix, gq, L) (kindF ga rv, ri, ix, toldF ga rv (kindF ga rv)) = _
            rw [hk, show ansT st 1 = st from by rw [hsv]; rfl]
            rfl
          exact hp_vret B0 hw hS hr ⟨Nat.le_of_ble_eq_true rfl, Nat.le_of_ble_eq_true rfl⟩ dL_answer_242 (⟨rfl, ⟨_, h6, (by rw [hA]; exact hX.app _ rfl)⟩, (by rw [hA, ← eS_app]; exact h7), (show hEq [lf, le] f f5 from (hEq.mono k8 (fun _ h9 => h9)))⟩)
        · have hsv : st = 4 := by rw [hs9, e9]; rfl
          refine lv_aload hx hb dL_answer_224 (lv_at hl9 6 rfl) ?_
          refine lv_iload hx hb dL_answer_226 (lv_at hl9 8 rfl) ?_
          refine hp_iald B0 hw h7 (by unfold vp_in; decide) dL_answer_228 ?_
          refine hp_c (v := 4) (hsv) ?_
          refine lv_iconst (v := 3) hx hb dL_answer_229 (by decide) ?_
          refine lv_icmp_ge (tgt := 242) hx hb dL_answer_230 (by decide) (fun _ => ?_) (fun c9 => absurd (by decide) c9)
          have hpk : 1 + 8 * 0 + xx * 4294967296 + (iN ri) * 68719476736 = pkN (1, ri, ix, toldF ga rv 1) := by
            rw [show 0 = opN (toldF ga rv 1) from (ack_op (ga := ga) (v := rv)).symm]
            conv => rhs; rw [hxx, ← (show nI (iN ri) = ri from hFo.r2 hbo)]
            exact pkN_eq (by omega) (by omega) (by omega)
          rw [hpk] at h6
          have hA : ansS ga (rk, ri, rx, rv) (st, li, sr, tm, lp, mi, ix, gq, L) = (st, li, sr, tm, lp, mi, ix, gq, L ++ [(1, ri, ix, toldF ga rv 1)]) := by
            show addS (ansT st (kindF ga rv), li, sr, tm, lp, mi, ix, gq, L) (kindF ga rv, ri, ix, toldF ga rv (kindF ga rv)) = _
            rw [hk, show ansT st 1 = st from by rw [hsv]; rfl]
            rfl
          exact hp_vret B0 hw hS hr ⟨Nat.le_of_ble_eq_true rfl, Nat.le_of_ble_eq_true rfl⟩ dL_answer_242 (⟨rfl, ⟨_, h6, (by rw [hA]; exact hX.app _ rfl)⟩, (by rw [hA, ← eS_app]; exact h7), (show hEq [lf, le] f f5 from (hEq.mono k8 (fun _ h9 => h9)))⟩)
    · have hun := (ans_n (ga := ga) (v := rv) (by rw [hk]; decide)).2
      have hbp := ans_2 hga hk
      refine lv_lload hx hb dL_answer_146 (lv_at hl9 1 rfl) ?_
      refine lv_lconst (v := lN 0) hx hb dL_answer_148 rfl ?_
      refine W.lcmp hx hb dL_answer_149 ?_
      refine lv_if_gt (tgt := 160) hx hb dL_answer_150 (by decide) (fun c9 => absurd c9 (by rw [(lg_zero hun)]; decide)) (fun _ => ?_)
      refine lv_lload hx hb dL_answer_153 (lv_at hl9 2 rfl) ?_
      refine lv_lconst (v := lN 0) hx hb dL_answer_155 rfl ?_
      refine W.lcmp hx hb dL_answer_156 ?_
      refine lv_if_le (tgt := 212) hx hb dL_answer_157 (by decide) (fun c9 => absurd c9 (fun h9 => absurd h9 (Int32.not_le.mpr (lg_pos hbp (by omega))))) (fun _ => ?_)
      refine lv_aload_n hx hb dL_answer_160 rfl (lv_at hl9 4 rfl) ?_
      refine lv_aload hx hb dL_answer_161 (lv_at hl9 6 rfl) ?_
      refine lv_iload hx hb dL_answer_163 (lv_at hl9 7 rfl) ?_
      refine lv_lload hx hb dL_answer_165 (lv_at hl9 1 rfl) ?_
      refine lv_lconst (v := lN 0) hx hb dL_answer_167 rfl ?_
      refine W.lcmp hx hb dL_answer_168 ?_
      refine lv_if_le (tgt := 176) hx hb dL_answer_169 (by decide) (fun _ => ?_) (fun c9 => absurd (by rw [(lg_zero hun)]; decide) c9)
      refine lv_iconst (v := 2) hx hb dL_answer_176 (by decide) ?_
      refine lv_iload hx hb dL_answer_177 (lv_at hl9 9 rfl) ?_
      refine lv_lload hx hb dL_answer_179 (lv_at hl9 1 rfl) ?_
      refine lv_lconst (v := lN 0) hx hb dL_answer_181 rfl ?_
      refine W.lcmp hx hb dL_answer_182 ?_
      refine lv_if_le (tgt := 191) hx hb dL_answer_183 (by decide) (fun _ => ?_) (fun c9 => absurd (by rw [(lg_zero hun)]; decide) c9)
      refine lv_lload hx hb dL_answer_191 (lv_at hl9 2 rfl) ?_
      refine hp_S (As := [.ref lf, .ref le, .int 0, .int 2, .int (nI (iN ri)), .long (lN (psum (beN ga rv) 6))]) (rest := []) B0 hw hS (c_L_post_0 hl G f lf le xs (jE (e8r st li sr tm lp mi ix (nI L.length)) F) k_lf k_le 2 (iN ri) (psum (beN ga rv) 6) xx L.length (by omega) (by omega) (show (jE (e8r st li sr tm lp mi ix (nI L.length)) F) 6 = nI xx from hxx) (by omega) (show (jE (e8r st li sr tm lp mi ix (nI L.length)) F) 7 = nI L.length from rfl) (by omega)) mS_L_post qM_L_73 rfl rfl hl9.1 (Nat.le_of_ble_eq_true rfl) ⟨⟨Nat.le_of_ble_eq_true rfl, Nat.le_of_ble_eq_true rfl⟩, Nat.le_of_ble_eq_true rfl, Nat.le_of_ble_eq_true rfl⟩ dL_answer_193 (fun E ce q9 f16 H locs hPX hw hS hce hcv hcl => ?_) (fun v f16 H locs hP hw hS => ?_)
      · exact hPX.elim
      · obtain ⟨ev9, h17, h18, k19⟩ := hP
        subst ev9
        rw [show (upd (jE (e8r st li sr tm lp mi ix (nI L.length)) F) 7 (nI (L.length + 1)) : Nat → Int32) = (jE (e8r st li sr tm lp mi ix (nI (L.length + 1))) F) from (by rw [jE_u0 (by omega), e8_u7])] at h18
        refine W.eq (g2 := F0 m 196 ls []) rfl ?_
        refine lv_aload hx hb dL_answer_196 (lv_at hl9 6 rfl) ?_
        refine lv_iload hx hb dL_answer_198 (lv_at hl9 8 rfl) ?_
        refine hp_iald B0 hw h18 (by unfold vp_in; decide) dL_answer_200 ?_
        refine hp_c (v := st) (rfl) ?_
        refine lv_iconst (v := 3) hx hb dL_answer_201 (by decide) ?_
        refine lv_icmp_ne (tgt := 211) hx hb dL_answer_202 (by decide) (fun c20 => ?_) (fun c20 => ?_)
        · have hpk : 2 + 8 * (psum (beN ga rv) 6) + xx * 4294967296 + (iN ri) * 68719476736 = pkN (2, ri, ix, toldF ga rv 2) := by
            rw [show psum (beN ga rv) 6 = opN (toldF ga rv 2) from (be_op (ans_n (ga := ga) (v := rv) (by rw [hk]; decide)).1)]
            conv => rhs; rw [hxx, ← (show nI (iN ri) = ri from hFo.r2 hbo)]
            exact pkN_eq (by omega) (by omega) (by omega)
          rw [hpk] at h17
          have hA : ansS ga (rk, ri, rx, rv) (st, li, sr, tm, lp, mi, ix, gq, L) = (st, li, sr, tm, lp, mi, ix, gq, L ++ [(2, ri, ix, toldF ga rv 2)]) := by
            show addS (ansT st (kindF ga rv), li, sr, tm, lp, mi, ix, gq, L) (kindF ga rv, ri, ix, toldF ga rv (kindF ga rv)) = _
            rw [hk, show ansT st 2 = st from (if_neg (show ¬ (2 : Int32) = 1 by decide)).trans (if_neg c20)]
            rfl
          exact hp_vret B0 hw hS hr ⟨Nat.le_of_ble_eq_true rfl, Nat.le_of_ble_eq_true rfl⟩ dL_answer_211 (⟨rfl, ⟨_, h17, (by rw [hA]; exact hX.app _ rfl)⟩, (by rw [hA, ← eS_app]; exact h18), (show hEq [lf, le] f f16 from (hEq.mono k19 (fun _ h9 => h9)))⟩)
        · refine lv_aload hx hb dL_answer_205 (lv_at hl9 6 rfl) ?_
          refine lv_iload hx hb dL_answer_207 (lv_at hl9 8 rfl) ?_
          refine lv_iconst (v := 1) hx hb dL_answer_209 (by decide) ?_
          refine hp_iast B0 hw hS h18 (by unfold vp_in; decide) dL_answer_210 (fun H locs f21 ef21 hw hS => ?_)
          rw [show (upd (jE (e8r st li sr tm lp mi ix (nI (L.length + 1))) F) (0 : Int32).toNatClampNeg 1 : Nat → Int32) = (jE (e8r 1 li sr tm lp mi ix (nI (L.length + 1))) F) from (by rw [show (0 : Int32).toNatClampNeg = 0 from rfl, jE_u0 (by omega), e8_u0])] at ef21
          have h22 : f21 le = some (.inl (cI G, 16, .inl (jE (e8r 1 li sr tm lp mi ix (nI (L.length + 1))) F))) := by rw [ef21, va_up_self]
          have h23 : f21 lf = some (.inl (cJ G, 64, .inr (.inl (vp_updL xs L.length (lN (2 + 8 * (psum (beN ga rv) 6) + xx * 4294967296 + (iN ri) * 68719476736)))))) := by rw [ef21, va_up_ne _ _ (hneL k_lf k_le (Nat.ne_of_beq_eq_false rfl))]; exact h17
          have hpk : 2 + 8 * (psum (beN ga rv) 6) + xx * 4294967296 + (iN ri) * 68719476736 = pkN (2, ri, ix, toldF ga rv 2) := by
            rw [show psum (beN ga rv) 6 = opN (toldF ga rv 2) from (be_op (ans_n (ga := ga) (v := rv) (by rw [hk]; decide)).1)]
            conv => rhs; rw [hxx, ← (show nI (iN ri) = ri from hFo.r2 hbo)]
            exact pkN_eq (by omega) (by omega) (by omega)
          rw [hpk] at h23
          have hA : ansS ga (rk, ri, rx, rv) (st, li, sr, tm, lp, mi, ix, gq, L) = (1, li, sr, tm, lp, mi, ix, gq, L ++ [(2, ri, ix, toldF ga rv 2)]) := by
            show addS (ansT st (kindF ga rv), li, sr, tm, lp, mi, ix, gq, L) (kindF ga rv, ri, ix, toldF ga rv (kindF ga rv)) = _
            rw [hk, show ansT st 2 = 1 from (if_neg (show ¬ (2 : Int32) = 1 by decide)).trans (if_pos c20)]
            rfl
          exact hp_vret B0 hw hS hr ⟨Nat.le_of_ble_eq_true rfl, Nat.le_of_ble_eq_true rfl⟩ dL_answer_211 (⟨rfl, ⟨_, h23, (by rw [hA]; exact hX.app _ rfl)⟩, (by rw [hA, ← eS_app]; exact h22), ((show hEq [lf, le] f f16 from (hEq.mono k19 (fun _ h9 => h9))).tr (show hEq [lf, le] f16 f21 from (by rw [ef21]; exact hEq.up (List.mem_cons_of_mem _ List.mem_cons_self))))⟩)
    · have hup := ans_3 hvo hk
      refine lv_lload hx hb dL_answer_146 (lv_at hl9 1 rfl) ?_
      refine lv_lconst (v := lN 0) hx hb dL_answer_148 rfl ?_
      refine W.lcmp hx hb dL_answer_149 ?_
      refine lv_if_gt (tgt := 160) hx hb dL_answer_150 (by decide) (fun _ => ?_) (fun c9 => absurd (lg_pos hup (by omega)) c9)
      refine lv_aload_n hx hb dL_answer_160 rfl (lv_at hl9 4 rfl) ?_
      refine lv_aload hx hb dL_answer_161 (lv_at hl9 6 rfl) ?_
      refine lv_iload hx hb dL_answer_163 (lv_at hl9 7 rfl) ?_
      refine lv_lload hx hb dL_answer_165 (lv_at hl9 1 rfl) ?_
      refine lv_lconst (v := lN 0) hx hb dL_answer_167 rfl ?_
      refine W.lcmp hx hb dL_answer_168 ?_
      refine lv_if_le (tgt := 176) hx hb dL_answer_169 (by decide) (fun c9 => absurd c9 (fun h9 => absurd h9 (Int32.not_le.mpr (lg_pos hup (by omega))))) (fun _ => ?_)
      refine lv_iconst (v := 3) hx hb dL_answer_172 (by decide) ?_
      refine lv_goto (tgt := 177) hx hb dL_answer_173 (by decide) ?_
      refine lv_iload hx hb dL_answer_177 (lv_at hl9 9 rfl) ?_
      refine lv_lload hx hb dL_answer_179 (lv_at hl9 1 rfl) ?_
      refine lv_lconst (v := lN 0) hx hb dL_answer_181 rfl ?_
      refine W.lcmp hx hb dL_answer_182 ?_
      refine lv_if_le (tgt := 191) hx hb dL_answer_183 (by decide) (fun c9 => absurd c9 (fun h9 => absurd h9 (Int32.not_le.mpr (lg_pos hup (by omega))))) (fun _ => ?_)
      refine lv_lload hx hb dL_answer_186 (lv_at hl9 1 rfl) ?_
      refine lv_goto (tgt := 193) hx hb dL_answer_188 (by decide) ?_
      refine hp_S (As := [.ref lf, .ref le, .int 0, .int 3, .int (nI (iN ri)), .long (lN (psum (unN ga rv) 6))]) (rest := []) B0 hw hS (c_L_post_0 hl G f lf le xs (jE (e8r st li sr tm lp mi ix (nI L.length)) F) k_lf k_le 3 (iN ri) (psum (unN ga rv) 6) xx L.length (by omega) (by omega) (show (jE (e8r st li sr tm lp mi ix (nI L.length)) F) 6 = nI xx from hxx) (by omega) (show (jE (e8r st li sr tm lp mi ix (nI L.length)) F) 7 = nI L.length from rfl) (by omega)) mS_L_post qM_L_73 rfl rfl hl9.1 (Nat.le_of_ble_eq_true rfl) ⟨⟨Nat.le_of_ble_eq_true rfl, Nat.le_of_ble_eq_true rfl⟩, Nat.le_of_ble_eq_true rfl, Nat.le_of_ble_eq_true rfl⟩ dL_answer_193 (fun E ce q9 f24 H locs hPX hw hS hce hcv hcl => ?_) (fun v f24 H locs hP hw hS => ?_)
      · exact hPX.elim
      · obtain ⟨ev9, h25, h26, k27⟩ := hP
        subst ev9
        rw [show (upd (jE (e8r st li sr tm lp mi ix (nI L.length)) F) 7 (nI (L.length + 1)) : Nat → Int32) = (jE (e8r st li sr tm lp mi ix (nI (L.length + 1))) F) from (by rw [jE_u0 (by omega), e8_u7])] at h26
        refine W.eq (g2 := F0 m 196 ls []) rfl ?_
        refine lv_aload hx hb dL_answer_196 (lv_at hl9 6 rfl) ?_
        refine lv_iload hx hb dL_answer_198 (lv_at hl9 8 rfl) ?_
        refine hp_iald B0 hw h26 (by unfold vp_in; decide) dL_answer_200 ?_
        refine hp_c (v := st) (rfl) ?_
        refine lv_iconst (v := 3) hx hb dL_answer_201 (by decide) ?_
        refine lv_icmp_ne (tgt := 211) hx hb dL_answer_202 (by decide) (fun c28 => ?_) (fun c28 => ?_)
        · have hpk : 3 + 8 * (psum (unN ga rv) 6) + xx * 4294967296 + (iN ri) * 68719476736 = pkN (3, ri, ix, toldF ga rv 3) := by
            rw [show psum (unN ga rv) 6 = opN (toldF ga rv 3) from un_op]
            conv => rhs; rw [hxx, ← (show nI (iN ri) = ri from hFo.r2 hbo)]
            exact pkN_eq (by omega) (by omega) (by omega)
          rw [hpk] at h25
          have hA : ansS ga (rk, ri, rx, rv) (st, li, sr, tm, lp, mi, ix, gq, L) = (st, li, sr, tm, lp, mi, ix, gq, L ++ [(3, ri, ix, toldF ga rv 3)]) := by
            show addS (ansT st (kindF ga rv), li, sr, tm, lp, mi, ix, gq, L) (kindF ga rv, ri, ix, toldF ga rv (kindF ga rv)) = _
            rw [hk, show ansT st 3 = st from (if_neg (show ¬ (3 : Int32) = 1 by decide)).trans (if_neg c28)]
            rfl
          exact hp_vret B0 hw hS hr ⟨Nat.le_of_ble_eq_true rfl, Nat.le_of_ble_eq_true rfl⟩ dL_answer_211 (⟨rfl, ⟨_, h25, (by rw [hA]; exact hX.app _ rfl)⟩, (by rw [hA, ← eS_app]; exact h26), (show hEq [lf, le] f f24 from (hEq.mono k27 (fun _ h9 => h9)))⟩)
        · refine lv_aload hx hb dL_answer_205 (lv_at hl9 6 rfl) ?_
          refine lv_iload hx hb dL_answer_207 (lv_at hl9 8 rfl) ?_
          refine lv_iconst (v := 1) hx hb dL_answer_209 (by decide) ?_
          refine hp_iast B0 hw hS h26 (by unfold vp_in; decide) dL_answer_210 (fun H locs f29 ef29 hw hS => ?_)
          rw [show (upd (jE (e8r st li sr tm lp mi ix (nI (L.length + 1))) F) (0 : Int32).toNatClampNeg 1 : Nat → Int32) = (jE (e8r 1 li sr tm lp mi ix (nI (L.length + 1))) F) from (by rw [show (0 : Int32).toNatClampNeg = 0 from rfl, jE_u0 (by omega), e8_u0])] at ef29
          have h30 : f29 le = some (.inl (cI G, 16, .inl (jE (e8r 1 li sr tm lp mi ix (nI (L.length + 1))) F))) := by rw [ef29, va_up_self]
          have h31 : f29 lf = some (.inl (cJ G, 64, .inr (.inl (vp_updL xs L.length (lN (3 + 8 * (psum (unN ga rv) 6) + xx * 4294967296 + (iN ri) * 68719476736)))))) := by rw [ef29, va_up_ne _ _ (hneL k_lf k_le (Nat.ne_of_beq_eq_false rfl))]; exact h25
          have hpk : 3 + 8 * (psum (unN ga rv) 6) + xx * 4294967296 + (iN ri) * 68719476736 = pkN (3, ri, ix, toldF ga rv 3) := by
            rw [show psum (unN ga rv) 6 = opN (toldF ga rv 3) from un_op]
            conv => rhs; rw [hxx, ← (show nI (iN ri) = ri from hFo.r2 hbo)]
            exact pkN_eq (by omega) (by omega) (by omega)
          rw [hpk] at h31
          have hA : ansS ga (rk, ri, rx, rv) (st, li, sr, tm, lp, mi, ix, gq, L) = (1, li, sr, tm, lp, mi, ix, gq, L ++ [(3, ri, ix, toldF ga rv 3)]) := by
            show addS (ansT st (kindF ga rv), li, sr, tm, lp, mi, ix, gq, L) (kindF ga rv, ri, ix, toldF ga rv (kindF ga rv)) = _
            rw [hk, show ansT st 3 = 1 from (if_neg (show ¬ (3 : Int32) = 1 by decide)).trans (if_pos c28)]
            rfl
          exact hp_vret B0 hw hS hr ⟨Nat.le_of_ble_eq_true rfl, Nat.le_of_ble_eq_true rfl⟩ dL_answer_211 (⟨rfl, ⟨_, h31, (by rw [hA]; exact hX.app _ rfl)⟩, (by rw [hA, ← eS_app]; exact h30), ((show hEq [lf, le] f f24 from (hEq.mono k27 (fun _ h9 => h9))).tr (show hEq [lf, le] f24 f29 from (by rw [ef29]; exact hEq.up (List.mem_cons_of_mem _ List.mem_cons_self))))⟩)

set_option maxHeartbeats 4000000 in
set_option maxRecDepth 100000 in
theorem c_L_answer_1 {l : Launch} (hl : l.stackTraces = false) (G : hG) (f : hM) (lf la le : Nat) (st li sr tm lp mi ix : Int32) (gq : Nat → Int32) (L : List Fr) (F ga g2 : Nat → Int32) (b : Nat) (hSo : SOK b (st, li, sr, tm, lp, mi, ix, gq, L)) (hbo : b ≤ 1000000) (rk ri rx : Int32) (rv : Nat → Int32) (hFo : FOK b (rk, ri, rx, rv)) (hga : ∀ j, j < 6 → AOK (ga j)) (hst0 : ¬ st = 0) (xs : Nat → Int64) (hX : XS xs L) (hn : L.length < 64) (k_lf : f lf = some (.inl (cJ G, 64, .inr (.inl xs)))) (k_la : f la = some (.inl (cI G, 12, .inl (j6r g2 ga)))) (k_le : f le = some (.inl (cI G, 16, .inl (jE F (e8r st li sr tm lp mi ix (nI L.length)))))) : CT l yL_answer (.code yL_answer cL_answer 16 none) 1 26 0 0 G [.long (lN (pkN (rk, ri, rx, rv))), .ref lf, .ref la, .ref le, .int 1] f (fun v f1 => v = none ∧ (∃ xs1 : Nat → Int64, f1 lf = some (.inl (cJ G, 64, .inr (.inl xs1))) ∧ XS xs1 (ansS ga (rk, ri, rx, rv) (st, li, sr, tm, lp, mi, ix, gq, L)).2.2.2.2.2.2.2.2) ∧ f1 le = some (.inl (cI G, 16, .inl (jE F (eSt (ansS ga (rk, ri, rx, rv) (st, li, sr, tm, lp, mi, ix, gq, L)))))) ∧ hEq [lf, le] f f1) (fun E f1 => False) := by
  refine hp_start hl (own := RL) (by decide) rfl (Nat.le_of_ble_eq_true rfl) ?_
  intro p e s m args below meth c B0 hr hnm hout hw hS ls hl9
  have hx := B0.1
  have hb := B0.2.1
  have hl9 : lv_has ls 16 [(0, .long (lN (pkN (rk, ri, rx, rv)))), (2, .ref lf), (3, .ref la), (4, .ref le), (5, .int 1)] := hl9
  obtain ⟨⟨s9, hs9, hs4⟩, ⟨mm, hm, hmb⟩, ⟨q, hq, hq10⟩, hlp, ⟨xx, hxx, hx4⟩, hgq, hfr⟩ := id hSo
  have hs9 : st = nI s9 := hs9
  have hm : li + 1 = nI mm := hm
  have hq : sr = nI q := hq
  have hlp : lp = 0 ∨ lp = 1 := hlp
  have hxx : ix = nI xx := hxx
  have hgq : ∀ j, j < 6 → VOK (gq j) := hgq
  have hfr : ∀ r ∈ L, FOK b r := hfr
  have hvo : ∀ j, j < 6 → VOK (rv j) := hFo.2.2.2
  have hri : iN ri ≤ b := (hFo.n hbo).2.1
  have hul : ∀ n, n ≤ 6 → psum (unN ga rv) n < 2 ^ (4 * n) := fun n hn9 => psum_lt (fun j hj => unN_lt (hvo j (by omega)))
  have hbl : ∀ n, n ≤ 6 → psum (beN ga rv) n < 2 ^ (4 * n) := fun n hn9 => psum_lt (fun j hj => beN_lt)
  refine lv_bipush (v := 8) hx hb dL_answer_0 (by decide) ?_
  refine lv_iload hx hb dL_answer_2 (lv_at hl9 4 rfl) ?_
  refine lv_imul hx hb dL_answer_4 ?_
  refine hp_c (v := 8) (by decide) ?_
  refine lv_istore (lv' := [(6, .int 8), (0, .long (lN (pkN (rk, ri, rx, rv)))), (2, .ref lf), (3, .ref la), (4, .ref le), (5, .int 1)]) hx hb dL_answer_5 hl9 (by decide) rfl (fun ls hl9 => ?_)
  refine lv_lload_n hx hb dL_answer_7 rfl (lv_at hl9 1 rfl) ?_
  refine lv_bipush (v := 36) hx hb dL_answer_8 (by decide) ?_
  refine lv_lshr (v := (lN ((pkN (rk, ri, rx, rv)) / 68719476736))) hx hb dL_answer_10 (shr_n (s := 36) (by first | exact pkN_lt hFo hbo | exact Nat.lt_trans (pkN_lt hFo hbo) (by decide) | exact Nat.lt_of_le_of_lt (Nat.div_le_self _ _) (Nat.lt_trans (pkN_lt hFo hbo) (by decide))) (by omega) rfl) ?_
  refine lv_l2i (v := (nI ((pkN (rk, ri, rx, rv)) / 68719476736))) hx hb dL_answer_11 (lN_i _) ?_
  refine hp_c (v := (nI (iN ri))) (congrArg nI (pkN_i hFo hbo)) ?_
  refine lv_istore (lv' := [(7, .int (nI (iN ri))), (6, .int 8), (0, .long (lN (pkN (rk, ri, rx, rv)))), (2, .ref lf), (3, .ref la), (4, .ref le), (5, .int 1)]) hx hb dL_answer_12 hl9 (by decide) rfl (fun ls hl9 => ?_)
  refine lv_lconst (v := lN 0) hx hb dL_answer_14 rfl ?_
  refine lv_lstore (lv' := [(8, .long (lN 0)), (7, .int (nI (iN ri))), (6, .int 8), (0, .long (lN (pkN (rk, ri, rx, rv)))), (2, .ref lf), (3, .ref la), (4, .ref le), (5, .int 1)]) hx hb dL_answer_15 hl9 (by decide) rfl (fun ls hl9 => ?_)
  refine lv_lconst (v := lN 0) hx hb dL_answer_17 rfl ?_
  refine lv_lstore (lv' := [(10, .long (lN 0)), (8, .long (lN 0)), (7, .int (nI (iN ri))), (6, .int 8), (0, .long (lN (pkN (rk, ri, rx, rv)))), (2, .ref lf), (3, .ref la), (4, .ref le), (5, .int 1)]) hx hb dL_answer_18 hl9 (by decide) rfl (fun ls hl9 => ?_)
  refine lv_iconst (v := 0) hx hb dL_answer_20 (by decide) ?_
  refine lv_istore (lv' := [(12, .int 0), (10, .long (lN 0)), (8, .long (lN 0)), (7, .int (nI (iN ri))), (6, .int 8), (0, .long (lN (pkN (rk, ri, rx, rv)))), (2, .ref lf), (3, .ref la), (4, .ref le), (5, .int 1)]) hx hb dL_answer_21 hl9 (by decide) rfl (fun ls hl9 => ?_)
  refine hp_for (nL := 16) (pc := 23) (fun j f9 lv9 => f9 = f ∧ lv9 = [(12, .int (nI j)), (8, .long (lN (psum (unN ga rv) j))), (10, .long (lN (psum (beN ga rv) j))), (0, .long (lN (pkN (rk, ri, rx, rv)))), (2, .ref lf), (3, .ref la), (4, .ref le), (5, .int 1), (6, .int 8), (7, .int (nI (iN ri)))]) 6 (fun j f9 lv9 H locs ls hj hI hw hS hl9 ih => ?_) (fun f9 lv9 H locs ls hI hw hS hl9 => ?_) 6 0 (Nat.zero_add _) f _ _ _ ls ⟨rfl, rfl⟩ hw hS (lv_sub hl9 [0, 2, 1, 5, 6, 7, 8, 9, 4, 3] rfl)
  · obtain ⟨ef9, el9⟩ := hI
    rw [ef9] at hw
    rw [el9] at hl9
    refine lv_iload hx hb dL_answer_23 (lv_at hl9 0 rfl) ?_
    refine lv_bipush (v := 6) hx hb dL_answer_25 (by decide) ?_
    refine lv_icmp_ge (tgt := 146) hx hb dL_answer_27 (by decide) (fun c9 => absurd c9 (show ¬ nI 6 ≤ nI j from nI_ge hj (by omega))) (fun _ => ?_)
    refine lv_lload_n hx hb dL_answer_30 rfl (lv_at hl9 3 rfl) ?_
    refine lv_iconst (v := 3) hx hb dL_answer_31 (by decide) ?_
    refine lv_iconst (v := 4) hx hb dL_answer_32 (by decide) ?_
    refine lv_iload hx hb dL_answer_33 (lv_at hl9 0 rfl) ?_
    refine lv_imul hx hb dL_answer_35 ?_
    refine hp_c (v := (nI (4 * j))) (pk_mul 4 j) ?_
    refine lv_iadd hx hb dL_answer_36 ?_
    refine hp_c (v := (nI (3 + 4 * j))) (nI_add 3 (4 * j)) ?_
    refine lv_lshr (v := (lN (pkN (rk, ri, rx, rv) / 2 ^ (3 + 4 * j)))) hx hb dL_answer_37 (shr_n (s := 3 + 4 * j) (pkN_lt hFo hbo) (by omega) rfl) ?_
    refine lv_ldc2 (v := 15) hx hb B0.2.2.2.1 (B0.2.2.2.2.1 _ qK_L_79) dL_answer_38 ?_
    refine hp_cl (v := lN 15) rfl ?_
    refine lv_land hx hb dL_answer_41 ?_
    refine hp_cl (v := (lN ((pkN (rk, ri, rx, rv) / 2 ^ (3 + 4 * j)) % 16))) (g_mask (s := 4) (p := 16) rfl (by omega) (by first | exact pkN_lt hFo hbo | exact Nat.lt_trans (pkN_lt hFo hbo) (by decide) | exact Nat.lt_of_le_of_lt (Nat.div_le_self _ _) (Nat.lt_trans (pkN_lt hFo hbo) (by decide)))) ?_
    refine lv_l2i (v := (nI ((pkN (rk, ri, rx, rv) / 2 ^ (3 + 4 * j)) % 16))) hx hb dL_answer_42 (lN_i _) ?_
    refine hp_c (v := (nI (nib (rv j)))) (congrArg nI (pkN_o hFo hbo hj)) ?_
    refine lv_istore (lv' := [(13, .int (nI (nib (rv j)))), (12, .int (nI j)), (8, .long (lN (psum (unN ga rv) j))), (10, .long (lN (psum (beN ga rv) j))), (0, .long (lN (pkN (rk, ri, rx, rv)))), (2, .ref lf), (3, .ref la), (4, .ref le), (5, .int 1), (6, .int 8), (7, .int (nI (iN ri)))]) hx hb dL_answer_43 hl9 (by decide) rfl (fun ls hl9 => ?_)
    refine lv_aload_n hx hb dL_answer_45 rfl (lv_at hl9 6 rfl) ?_
    refine lv_bipush (v := 6) hx hb dL_answer_46 (by decide) ?_
    refine lv_iload hx hb dL_answer_48 (lv_at hl9 8 rfl) ?_
    refine lv_imul hx hb dL_answer_50 ?_
    refine hp_c (v := 6) (by decide) ?_
    refine lv_iload hx hb dL_answer_51 (lv_at hl9 1 rfl) ?_
    refine lv_iadd hx hb dL_answer_53 ?_
    refine hp_c (v := (nI (6 + j))) (nI_add 6 j) ?_
    refine hp_iald B0 hw k_la (vp_in_nI (show 6 + j < 12 by omega) (by omega)) dL_answer_54 ?_
    refine hp_c (v := (ga j)) ((by rw [nI_clamp (by omega)]; exact j6_1)) ?_
    refine lv_istore (lv' := [(14, .int (ga j)), (13, .int (nI (nib (rv j)))), (12, .int (nI j)), (8, .long (lN (psum (unN ga rv) j))), (10, .long (lN (psum (beN ga rv) j))), (0, .long (lN (pkN (rk, ri, rx, rv)))), (2, .ref lf), (3, .ref la), (4, .ref le), (5, .int 1), (6, .int 8), (7, .int (nI (iN ri)))]) hx hb dL_answer_55 hl9 (by decide) rfl (fun ls hl9 => ?_)
    refine lv_iload hx hb dL_answer_57 (lv_at hl9 1 rfl) ?_
    refine lv_if_eq (tgt := 140) hx hb dL_answer_59 (by decide) (fun c1 => ?_) (fun c1 => ?_)
    · refine lv_iinc (v := (nI (j + 1))) (lv' := [(12, .int (nI (j + 1))), (14, .int (ga j)), (13, .int (nI (nib (rv j)))), (8, .long (lN (psum (unN ga rv) j))), (10, .long (lN (psum (beN ga rv) j))), (0, .long (lN (pkN (rk, ri, rx, rv)))), (2, .ref lf), (3, .ref la), (4, .ref le), (5, .int 1), (6, .int 8), (7, .int (nI (iN ri)))]) hx hb dL_answer_140 hl9 (k := 2) rfl (nI_1 j) (by decide) rfl (fun ls hl9 => ?_)
      refine lv_goto (tgt := 23) hx hb dL_answer_143 (by decide) ?_
      have hu9 : psum (unN ga rv) (j + 1) = psum (unN ga rv) j := psum_k (show unN ga rv j = 0 from (if_neg (fun h9 => h9.1 (nib_I0 (hvo j hj) c1))))
      have hb9 : psum (beN ga rv) (j + 1) = psum (beN ga rv) j := psum_k (show beN ga rv j = 0 from (if_neg (fun h9 => h9.1.1 (nib_I0 (hvo j hj) c1))))
      rw [← hu9, ← hb9] at hl9
      exact ih _ _ H locs ls ⟨rfl, rfl⟩ hw hS (lv_sub hl9 [0, 3, 4, 5, 6, 7, 8, 9, 10, 11] rfl)
    · refine lv_iload hx hb dL_answer_62 (lv_at hl9 0 rfl) ?_
      refine lv_iload hx hb dL_answer_64 (lv_at hl9 1 rfl) ?_
      refine lv_iconst (v := 1) hx hb dL_answer_66 (by decide) ?_
      refine lv_isub hx hb dL_answer_67 ?_
      refine hp_c (v := (rv j)) (nib_sub (hvo j hj) (nib_I1 (hvo j hj) c1)) ?_
      refine lv_ishr hx hb dL_answer_68 ?_
      refine lv_iconst (v := 1) hx hb dL_answer_69 (by decide) ?_
      refine lv_iand hx hb dL_answer_70 ?_
      refine lv_iconst (v := 1) hx hb dL_answer_71 (by decide) ?_
      refine lv_icmp_ne (tgt := 78) hx hb dL_answer_72 (by decide) (fun c2 => ?_) (fun c2 => ?_)
      · refine lv_iload hx hb dL_answer_78 (lv_at hl9 0 rfl) ?_
        refine lv_if_ne (tgt := 96) hx hb dL_answer_80 (by decide) (fun c3 => ?_) (fun c3 => ?_)
        · refine lv_iconst (v := 0) hx hb dL_answer_96 (by decide) ?_
          refine lv_istore (lv' := [(15, .int 0), (14, .int (ga j)), (13, .int (nI (nib (rv j)))), (12, .int (nI j)), (8, .long (lN (psum (unN ga rv) j))), (10, .long (lN (psum (beN ga rv) j))), (0, .long (lN (pkN (rk, ri, rx, rv)))), (2, .ref lf), (3, .ref la), (4, .ref le), (5, .int 1), (6, .int 8), (7, .int (nI (iN ri)))]) hx hb dL_answer_97 hl9 (by decide) rfl (fun ls hl9 => ?_)
          refine hp_for (nL := 16) (pc := 99) (fun wz f9 lv9 => f9 = f ∧ lowN (ga j) (10 - wz) wz = lowF (ga j) ∧ lv9 = [(15, .int (nI wz)), (13, .int (nI (nib (rv j)))), (14, .int (ga j)), (12, .int (nI j)), (8, .long (lN (psum (unN ga rv) j))), (10, .long (lN (psum (beN ga rv) j))), (0, .long (lN (pkN (rk, ri, rx, rv)))), (2, .ref lf), (3, .ref la), (4, .ref le), (5, .int 1), (6, .int 8), (7, .int (nI (iN ri)))]) 10 (fun wz f9 lv9 H locs ls hwz hI hw hS hl9 ih2 => ?_) (fun f9 lv9 H locs ls hI hw hS hl9 => ?_) 10 0 (Nat.zero_add _) f _ _ _ ls ⟨rfl, rfl, rfl⟩ hw hS (lv_sub hl9 [0, 2, 1, 3, 4, 5, 6, 7, 8, 9, 10, 11, 12] rfl)
          · obtain ⟨ef9, hv9, el9⟩ := hI
            rw [ef9] at hw
            rw [el9] at hl9
            refine lv_iload hx hb dL_answer_99 (lv_at hl9 2 rfl) ?_
            refine lv_if_le (tgt := 120) hx hb dL_answer_101 (by decide) (fun c9 => absurd c9 (AOK.pos (hga j hj) c3)) (fun _ => ?_)
            refine lv_iload hx hb dL_answer_104 (lv_at hl9 2 rfl) ?_
            refine lv_iconst (v := 1) hx hb dL_answer_106 (by decide) ?_
            refine lv_iload hx hb dL_answer_107 (lv_at hl9 0 rfl) ?_
            refine lv_ishl hx hb dL_answer_109 ?_
            refine lv_iand hx hb dL_answer_110 ?_
            refine lv_if_ne (tgt := 120) hx hb dL_answer_111 (by decide) (fun c4 => ?_) (fun c4 => ?_)
            · have hbit9 : ((ga j >>> (nI wz &&& 31)) &&& 1) = 1 := Decidable.byContradiction (fun h9 => c4 ((bitL (hga j hj) hwz).mpr h9))
              refine lv_iload hx hb dL_answer_120 (lv_at hl9 2 rfl) ?_
              refine lv_if_le (tgt := 140) hx hb dL_answer_122 (by decide) (fun c9 => absurd c9 (AOK.pos (hga j hj) c3)) (fun _ => ?_)
              refine lv_lload hx hb dL_answer_125 (lv_at hl9 5 rfl) ?_
              refine lv_iload hx hb dL_answer_127 (lv_at hl9 0 rfl) ?_
              refine lv_i2l (v := (lN wz)) hx hb dL_answer_129 (nI_l (n := wz) (by omega)) ?_
              refine lv_lconst (v := lN 1) hx hb dL_answer_130 rfl ?_
              refine lv_ladd hx hb dL_answer_131 ?_
              refine hp_cl (v := (lN (wz + 1))) (lN_add _ _) ?_
              refine lv_iconst (v := 4) hx hb dL_answer_132 (by decide) ?_
              refine lv_iload hx hb dL_answer_133 (lv_at hl9 3 rfl) ?_
              refine lv_imul hx hb dL_answer_135 ?_
              refine hp_c (v := (nI (4 * j))) (pk_mul 4 j) ?_
              refine lv_lshl (v := (lN ((wz + 1) * 2 ^ (4 * j)))) hx hb dL_answer_136 (wb_shl (k := 4 * j) _ (by omega)) ?_
              refine lv_lor hx hb dL_answer_137 ?_
              refine hp_cl (v := (lN (psum (beN ga rv) j + (wz + 1) * 2 ^ (4 * j)))) (g_or' (k := 4 * j) rfl (hbl j (by omega)) (by have h7 := hbl j (by omega); have h6 : 2 ^ (4 * j) ≤ 2 ^ 20 := Nat.pow_le_pow_right (by decide) (by omega); have h5 : (wz + 1) * 2 ^ (4 * j) ≤ 15 * 2 ^ 20 := Nat.mul_le_mul (by omega) h6; omega)) ?_
              refine lv_lstore (lv' := [(10, .long (lN (psum (beN ga rv) j + (wz + 1) * 2 ^ (4 * j)))), (15, .int (nI wz)), (13, .int (nI (nib (rv j)))), (14, .int (ga j)), (12, .int (nI j)), (8, .long (lN (psum (unN ga rv) j))), (0, .long (lN (pkN (rk, ri, rx, rv)))), (2, .ref lf), (3, .ref la), (4, .ref le), (5, .int 1), (6, .int 8), (7, .int (nI (iN ri)))]) hx hb dL_answer_138 hl9 (by decide) rfl (fun ls hl9 => ?_)
              refine lv_iinc (v := (nI (j + 1))) (lv' := [(12, .int (nI (j + 1))), (10, .long (lN (psum (beN ga rv) j + (wz + 1) * 2 ^ (4 * j)))), (15, .int (nI wz)), (13, .int (nI (nib (rv j)))), (14, .int (ga j)), (8, .long (lN (psum (unN ga rv) j))), (0, .long (lN (pkN (rk, ri, rx, rv)))), (2, .ref lf), (3, .ref la), (4, .ref le), (5, .int 1), (6, .int 8), (7, .int (nI (iN ri)))]) hx hb dL_answer_140 hl9 (k := 4) rfl (nI_1 j) (by decide) rfl (fun ls hl9 => ?_)
              refine lv_goto (tgt := 23) hx hb dL_answer_143 (by decide) ?_
              have hu9 : psum (unN ga rv) (j + 1) = psum (unN ga rv) j := psum_k (show unN ga rv j = 0 from (if_neg (fun h9 => c3 h9.2)))
              have hb9 : psum (beN ga rv) (j + 1) = psum (beN ga rv) j + (wz + 1) * 2 ^ (4 * j) := psum_s (show beN ga rv j = (wz + 1) from ((if_pos ⟨⟨(nib_I1 (hvo j hj) c1), c2⟩, c3⟩).trans (by rw [← hv9, show 10 - wz = (10 - (wz + 1)) + 1 by omega, lowN_1 hbit9]; exact nib_nI (by omega))))
              rw [← hu9, ← hb9] at hl9
              exact ih _ _ H locs ls ⟨rfl, rfl⟩ hw hS (lv_sub hl9 [0, 5, 1, 6, 7, 8, 9, 10, 11, 12] rfl)
            · refine lv_iinc (v := (nI (wz + 1))) (lv' := [(15, .int (nI (wz + 1))), (13, .int (nI (nib (rv j)))), (14, .int (ga j)), (12, .int (nI j)), (8, .long (lN (psum (unN ga rv) j))), (10, .long (lN (psum (beN ga rv) j))), (0, .long (lN (pkN (rk, ri, rx, rv)))), (2, .ref lf), (3, .ref la), (4, .ref le), (5, .int 1), (6, .int 8), (7, .int (nI (iN ri)))]) hx hb dL_answer_114 hl9 (k := 0) rfl (nI_1 wz) (by decide) rfl (fun ls hl9 => ?_)
              refine lv_goto (tgt := 99) hx hb dL_answer_117 (by decide) ?_
              exact ih2 _ _ H locs ls ⟨rfl, (by rw [← hv9, show 10 - wz = (10 - (wz + 1)) + 1 by omega, lowN_0 ((bitL (hga j hj) hwz).mp c4)]), rfl⟩ hw hS (lv_sub hl9 [0, 1, 2, 3, 4, 5, 6, 7, 8, 9, 10, 11, 12] rfl)
          · obtain ⟨ef9, hv9, el9⟩ := hI
            rw [ef9] at hw
            rw [el9] at hl9
            exact absurd (show lowF (ga j) = -1 from hv9.symm) (low_ne (hga j hj) c3)
        · refine lv_lload hx hb dL_answer_83 (lv_at hl9 3 rfl) ?_
          refine lv_iload hx hb dL_answer_85 (lv_at hl9 1 rfl) ?_
          refine lv_i2l (v := (lN (nib (rv j)))) hx hb dL_answer_87 (nI_l (n := nib (rv j)) (by have := nib_le (hvo j hj); omega)) ?_
          refine lv_iconst (v := 4) hx hb dL_answer_88 (by decide) ?_
          refine lv_iload hx hb dL_answer_89 (lv_at hl9 2 rfl) ?_
          refine lv_imul hx hb dL_answer_91 ?_
          refine hp_c (v := (nI (4 * j))) (pk_mul 4 j) ?_
          refine lv_lshl (v := (lN (nib (rv j) * 2 ^ (4 * j)))) hx hb dL_answer_92 (wb_shl (k := 4 * j) _ (by omega)) ?_
          refine lv_lor hx hb dL_answer_93 ?_
          refine hp_cl (v := (lN (psum (unN ga rv) j + nib (rv j) * 2 ^ (4 * j)))) (g_or' (k := 4 * j) rfl (hul j (by omega)) (by have h9 := nib_le (hvo j hj); have h7 := hul j (by omega); have h6 : 2 ^ (4 * j) ≤ 2 ^ 20 := Nat.pow_le_pow_right (by decide) (by omega); have h5 : nib (rv j) * 2 ^ (4 * j) ≤ 15 * 2 ^ 20 := Nat.mul_le_mul (by omega) h6; omega)) ?_
          refine lv_lstore (lv' := [(8, .long (lN (psum (unN ga rv) j + nib (rv j) * 2 ^ (4 * j)))), (14, .int (ga j)), (13, .int (nI (nib (rv j)))), (12, .int (nI j)), (10, .long (lN (psum (beN ga rv) j))), (0, .long (lN (pkN (rk, ri, rx, rv)))), (2, .ref lf), (3, .ref la), (4, .ref le), (5, .int 1), (6, .int 8), (7, .int (nI (iN ri)))]) hx hb dL_answer_94 hl9 (by decide) rfl (fun ls hl9 => ?_)
          refine lv_iconst (v := 0) hx hb dL_answer_96 (by decide) ?_
          refine lv_istore (lv' := [(15, .int 0), (8, .long (lN (psum (unN ga rv) j + nib (rv j) * 2 ^ (4 * j)))), (14, .int (ga j)), (13, .int (nI (nib (rv j)))), (12, .int (nI j)), (10, .long (lN (psum (beN ga rv) j))), (0, .long (lN (pkN (rk, ri, rx, rv)))), (2, .ref lf), (3, .ref la), (4, .ref le), (5, .int 1), (6, .int 8), (7, .int (nI (iN ri)))]) hx hb dL_answer_97 hl9 (by decide) rfl (fun ls hl9 => ?_)
          refine lv_iload hx hb dL_answer_99 (lv_at hl9 2 rfl) ?_
          refine lv_if_le (tgt := 120) hx hb dL_answer_101 (by decide) (fun _ => ?_) (fun c9 => absurd (by rw [c3]; decide) c9)
          refine lv_iload hx hb dL_answer_120 (lv_at hl9 2 rfl) ?_
          refine lv_if_le (tgt := 140) hx hb dL_answer_122 (by decide) (fun _ => ?_) (fun c9 => absurd (by rw [c3]; decide) c9)
          refine lv_iinc (v := (nI (j + 1))) (lv' := [(12, .int (nI (j + 1))), (15, .int 0), (8, .long (lN (psum (unN ga rv) j + nib (rv j) * 2 ^ (4 * j)))), (14, .int (ga j)), (13, .int (nI (nib (rv j)))), (10, .long (lN (psum (beN ga rv) j))), (0, .long (lN (pkN (rk, ri, rx, rv)))), (2, .ref lf), (3, .ref la), (4, .ref le), (5, .int 1), (6, .int 8), (7, .int (nI (iN ri)))]) hx hb dL_answer_140 hl9 (k := 4) rfl (nI_1 j) (by decide) rfl (fun ls hl9 => ?_)
          refine lv_goto (tgt := 23) hx hb dL_answer_143 (by decide) ?_
          have hu9 : psum (unN ga rv) (j + 1) = psum (unN ga rv) j + nib (rv j) * 2 ^ (4 * j) := psum_s (show unN ga rv j = nib (rv j) from (if_pos ⟨(nib_I1 (hvo j hj) c1), c3⟩))
          have hb9 : psum (beN ga rv) (j + 1) = psum (beN ga rv) j := psum_k (show beN ga rv j = 0 from (if_neg (fun h9 => h9.2 c3)))
          rw [← hu9, ← hb9] at hl9
          exact ih _ _ H locs ls ⟨rfl, rfl⟩ hw hS (lv_sub hl9 [0, 2, 5, 6, 7, 8, 9, 10, 11, 12] rfl)
      · refine lv_goto (tgt := 140) hx hb dL_answer_75 (by decide) ?_
        refine lv_iinc (v := (nI (j + 1))) (lv' := [(12, .int (nI (j + 1))), (14, .int (ga j)), (13, .int (nI (nib (rv j)))), (8, .long (lN (psum (unN ga rv) j))), (10, .long (lN (psum (beN ga rv) j))), (0, .long (lN (pkN (rk, ri, rx, rv)))), (2, .ref lf), (3, .ref la), (4, .ref le), (5, .int 1), (6, .int 8), (7, .int (nI (iN ri)))]) hx hb dL_answer_140 hl9 (k := 2) rfl (nI_1 j) (by decide) rfl (fun ls hl9 => ?_)
        refine lv_goto (tgt := 23) hx hb dL_answer_143 (by decide) ?_
        have hu9 : psum (unN ga rv) (j + 1) = psum (unN ga rv) j := psum_k (show unN ga rv j = 0 from (if_neg (fun h9 => by have h8 := c2; rw [h9.2, bit0] at h8; exact absurd h8 (by decide))))
        have hb9 : psum (beN ga rv) (j + 1) = psum (beN ga rv) j := psum_k (show beN ga rv j = 0 from (if_neg (fun h9 => h9.1.2 c2)))
        rw [← hu9, ← hb9] at hl9
        exact ih _ _ H locs ls ⟨rfl, rfl⟩ hw hS (lv_sub hl9 [0, 3, 4, 5, 6, 7, 8, 9, 10, 11] rfl)
  · obtain ⟨ef9, el9⟩ := hI
    rw [ef9] at hw
    rw [el9] at hl9
    refine lv_iload hx hb dL_answer_23 (lv_at hl9 0 rfl) ?_
    refine lv_bipush (v := 6) hx hb dL_answer_25 (by decide) ?_
    refine lv_icmp_ge (tgt := 146) hx hb dL_answer_27 (by decide) (fun _ => ?_) (fun c9 => absurd (by decide) c9)
    have hu6 := hul 6 (by omega)
    have hb6 := hbl 6 (by omega)
    rcases kindF_val ga rv with hk | hk | hk
    · have hun := (ans_n (ga := ga) (v := rv) (by rw [hk]; decide)).2
      have hbz := ans_1 hk
      refine lv_lload hx hb dL_answer_146 (lv_at hl9 1 rfl) ?_
      refine lv_lconst (v := lN 0) hx hb dL_answer_148 rfl ?_
      refine W.lcmp hx hb dL_answer_149 ?_
      refine lv_if_gt (tgt := 160) hx hb dL_answer_150 (by decide) (fun c9 => absurd c9 (by rw [(lg_zero hun)]; decide)) (fun _ => ?_)
      refine lv_lload hx hb dL_answer_153 (lv_at hl9 2 rfl) ?_
      refine lv_lconst (v := lN 0) hx hb dL_answer_155 rfl ?_
      refine W.lcmp hx hb dL_answer_156 ?_
      refine lv_if_le (tgt := 212) hx hb dL_answer_157 (by decide) (fun _ => ?_) (fun c9 => absurd (by rw [(lg_zero hbz)]; decide) c9)
      refine lv_aload_n hx hb dL_answer_212 rfl (lv_at hl9 4 rfl) ?_
      refine lv_aload hx hb dL_answer_213 (lv_at hl9 6 rfl) ?_
      refine lv_iload hx hb dL_answer_215 (lv_at hl9 7 rfl) ?_
      refine lv_iconst (v := 1) hx hb dL_answer_217 (by decide) ?_
      refine lv_iload hx hb dL_answer_218 (lv_at hl9 9 rfl) ?_
      refine lv_lconst (v := lN 0) hx hb dL_answer_220 rfl ?_
      refine hp_S (As := [.ref lf, .ref le, .int 1, .int 1, .int (nI (iN ri)), .long (lN 0)]) (rest := []) B0 hw hS (c_L_post_1 hl G f lf le xs (jE F (e8r st li sr tm lp mi ix (nI L.length))) k_lf k_le 1 (iN ri) 0 xx L.length (by omega) (by omega) (show (jE F (e8r st li sr tm lp mi ix (nI L.length))) 14 = nI xx from hxx) (by omega) (show (jE F (e8r st li sr tm lp mi ix (nI L.length))) 15 = nI L.length from rfl) (by omega)) mS_L_post qM_L_73 rfl rfl hl9.1 (Nat.le_of_ble_eq_true rfl) ⟨⟨Nat.le_of_ble_eq_true rfl, Nat.le_of_ble_eq_true rfl⟩, Nat.le_of_ble_eq_true rfl, Nat.le_of_ble_eq_true rfl⟩ dL_answer_221 (fun E ce q9 f5 H locs hPX hw hS hce hcv hcl => ?_) (fun v f5 H locs hP hw hS => ?_)
      · exact hPX.elim
      · obtain ⟨ev9, h6, h7, k8⟩ := hP
        subst ev9
        rw [show (upd (jE F (e8r st li sr tm lp mi ix (nI L.length))) 15 (nI (L.length + 1)) : Nat → Int32) = (jE F (e8r st li sr tm lp mi ix (nI (L.length + 1)))) from (by rw [show 15 = 8 + 7 from rfl, jE_u1, e8_u7])] at h7
        refine W.eq (g2 := F0 m 224 ls []) rfl ?_
        rcases (show s9 = 1 ∨ s9 = 2 ∨ s9 = 3 ∨ s9 = 4 by have : s9 ≠ 0 := fun e9 => hst0 (by rw [hs9, e9]; rfl); omega) with e9 | e9 | e9 | e9
        · have hsv : st = 1 := by rw [hs9, e9]; rfl
          refine lv_aload hx hb dL_answer_224 (lv_at hl9 6 rfl) ?_
          refine lv_iload hx hb dL_answer_226 (lv_at hl9 8 rfl) ?_
          refine hp_iald B0 hw h7 (by unfold vp_in; decide) dL_answer_228 ?_
          refine hp_c (v := 1) (hsv) ?_
          refine lv_iconst (v := 3) hx hb dL_answer_229 (by decide) ?_
          refine lv_icmp_ge (tgt := 242) hx hb dL_answer_230 (by decide) (fun c9 => absurd c9 (by decide)) (fun _ => ?_)
          refine lv_aload hx hb dL_answer_233 (lv_at hl9 6 rfl) ?_
          refine lv_iload hx hb dL_answer_235 (lv_at hl9 8 rfl) ?_
          refine lv_dup2_11 hx hb dL_answer_237 rfl rfl ?_
          refine hp_iald B0 hw h7 (by unfold vp_in; decide) dL_answer_238 ?_
          refine hp_c (v := 1) (hsv) ?_
          refine lv_iconst (v := 2) hx hb dL_answer_239 (by decide) ?_
          refine lv_iadd hx hb dL_answer_240 ?_
          refine hp_c (v := 3) (by decide) ?_
          refine hp_iast B0 hw hS h7 (by unfold vp_in; decide) dL_answer_241 (fun H locs f10 ef10 hw hS => ?_)
          rw [show (upd (jE F (e8r st li sr tm lp mi ix (nI (L.length + 1)))) (8 : Int32).toNatClampNeg 3 : Nat → Int32) = (jE F (e8r 3 li sr tm lp mi ix (nI (L.length + 1)))) from (by rw [show (8 : Int32).toNatClampNeg = 8 + 0 from rfl, jE_u1, e8_u0])] at ef10
          have h11 : f10 le = some (.inl (cI G, 16, .inl (jE F (e8r 3 li sr tm lp mi ix (nI (L.length + 1)))))) := by rw [ef10, va_up_self]
          have h12 : f10 lf = some (.inl (cJ G, 64, .inr (.inl (vp_updL xs L.length (lN (1 + 8 * 0 + xx * 4294967296 + (iN ri) * 68719476736)))))) := by rw [ef10, va_up_ne _ _ (hneL k_lf k_le (Nat.ne_of_beq_eq_false rfl))]; exact h6
          have hpk : 1 + 8 * 0 + xx * 4294967296 + (iN ri) * 68719476736 = pkN (1, ri, ix, toldF ga rv 1) := by
            rw [show 0 = opN (toldF ga rv 1) from (ack_op (ga := ga) (v := rv)).symm]
            conv => rhs; rw [hxx, ← (show nI (iN ri) = ri from hFo.r2 hbo)]
            exact pkN_eq (by omega) (by omega) (by omega)
          rw [hpk] at h12
          have hA : ansS ga (rk, ri, rx, rv) (st, li, sr, tm, lp, mi, ix, gq, L) = (3, li, sr, tm, lp, mi, ix, gq, L ++ [(1, ri, ix, toldF ga rv 1)]) := by
            show addS (ansT st (kindF ga rv), li, sr, tm, lp, mi, ix, gq, L) (kindF ga rv, ri, ix, toldF ga rv (kindF ga rv)) = _
            rw [hk, show ansT st 1 = 3 from by rw [hsv]; rfl]
            rfl
          exact hp_vret B0 hw hS hr ⟨Nat.le_of_ble_eq_true rfl, Nat.le_of_ble_eq_true rfl⟩ dL_answer_242 (⟨rfl, ⟨_, h12, (by rw [hA]; exact hX.app _ rfl)⟩, (by rw [hA, ← eS_app]; exact h11), ((show hEq [lf, le] f f5 from (hEq.mono k8 (fun _ h9 => h9))).tr (show hEq [lf, le] f5 f10 from (by rw [ef10]; exact hEq.up (List.mem_cons_of_mem _ List.mem_cons_self))))⟩)
        · have hsv : st = 2 := by rw [hs9, e9]; rfl
          refine lv_aload hx hb dL_answer_224 (lv_at hl9 6 rfl) ?_
          refine lv_iload hx hb dL_answer_226 (lv_at hl9 8 rfl) ?_
          refine hp_iald B0 hw h7 (by unfold vp_in; decide) dL_answer_228 ?_
          refine hp_c (v := 2) (hsv) ?_
          refine lv_iconst (v := 3) hx hb dL_answer_229 (by decide) ?_
          refine lv_icmp_ge (tgt := 242) hx hb dL_answer_230 (by decide) (fun c9 => absurd c9 (by decide)) (fun _ => ?_)
          refine lv_aload hx hb dL_answer_233 (lv_at hl9 6 rfl) ?_
          refine lv_iload hx hb dL_answer_235 (lv_at hl9 8 rfl) ?_
          refine lv_dup2_11 hx hb dL_answer_237 rfl rfl ?_
          refine hp_iald B0 hw h7 (by unfold vp_in; decide) dL_answer_238 ?_
          refine hp_c (v := 2) (hsv) ?_
          refine lv_iconst (v := 2) hx hb dL_answer_239 (by decide) ?_
          refine lv_iadd hx hb dL_answer_240 ?_
          refine hp_c (v := 4) (by decide) ?_
          refine hp_iast B0 hw hS h7 (by unfold vp_in; decide) dL_answer_241 (fun H locs f13 ef13 hw hS => ?_)
          rw [show (upd (jE F (e8r st li sr tm lp mi ix (nI (L.length + 1)))) (8 : Int32).toNatClampNeg 4 : Nat → Int32) = (jE F (e8r 4 li sr tm lp mi ix (nI (L.length + 1)))) from (by rw [show (8 : Int32).toNatClampNeg = 8 + 0 from rfl, jE_u1, e8_u0])] at ef13
          have h14 : f13 le = some (.inl (cI G, 16, .inl (jE F (e8r 4 li sr tm lp mi ix (nI (L.length + 1)))))) := by rw [ef13, va_up_self]
          have h15 : f13 lf = some (.inl (cJ G, 64, .inr (.inl (vp_updL xs L.length (lN (1 + 8 * 0 + xx * 4294967296 + (iN ri) * 68719476736)))))) := by rw [ef13, va_up_ne _ _ (hneL k_lf k_le (Nat.ne_of_beq_eq_false rfl))]; exact h6
          have hpk : 1 + 8 * 0 + xx * 4294967296 + (iN ri) * 68719476736 = pkN (1, ri, ix, toldF ga rv 1) := by
            rw [show 0 = opN (toldF ga rv 1) from (ack_op (ga := ga) (v := rv)).symm]
            conv => rhs; rw [hxx, ← (show nI (iN ri) = ri from hFo.r2 hbo)]
            exact pkN_eq (by omega) (by omega) (by omega)
          rw [hpk] at h15
          have hA : ansS ga (rk, ri, rx, rv) (st, li, sr, tm, lp, mi, ix, gq, L) = (4, li, sr, tm, lp, mi, ix, gq, L ++ [(1, ri, ix, toldF ga rv 1)]) := by
            show addS (ansT st (kindF ga rv), li, sr, tm, lp, mi, ix, gq, L) (kindF ga rv, ri, ix, toldF ga rv (kindF ga rv)) = _
            rw [hk, show ansT st 1 = 4 from by rw [hsv]; rfl]
            rfl
          exact hp_vret B0 hw hS hr ⟨Nat.le_of_ble_eq_true rfl, Nat.le_of_ble_eq_true rfl⟩ dL_answer_242 (⟨rfl, ⟨_, h15, (by rw [hA]; exact hX.app _ rfl)⟩, (by rw [hA, ← eS_app]; exact h14), ((show hEq [lf, le] f f5 from (hEq.mono k8 (fun _ h9 => h9))).tr (show hEq [lf, le] f5 f13 from (by rw [ef13]; exact hEq.up (List.mem_cons_of_mem _ List.mem_cons_self))))⟩)
        · have hsv : st = 3 := by rw [hs9, e9]; rfl
          refine lv_aload hx hb dL_answer_224 (lv_at hl9 6 rfl) ?_
          refine lv_iload hx hb dL_answer_226 (lv_at hl9 8 rfl) ?_
          refine hp_iald B0 hw h7 (by unfold vp_in; decide) dL_answer_228 ?_
          refine hp_c (v := 3) (hsv) ?_
          refine lv_iconst (v := 3) hx hb dL_answer_229 (by decide) ?_
          refine lv_icmp_ge (tgt := 242) hx hb dL_answer_230 (by decide) (fun _ => ?_) (fun c9 => absurd (by decide) c9)
          have hpk : 1 + 8 * 0 + xx * 4294967296 + (iN ri) * 68719476736 = pkN (1, ri, ix, toldF ga rv 1) := by
            rw [show 0 = opN (toldF ga rv 1) from (ack_op (ga := ga) (v := rv)).symm]
            conv => rhs; rw [hxx, ← (show nI (iN ri) = ri from hFo.r2 hbo)]
            exact pkN_eq (by omega) (by omega) (by omega)
          rw [hpk] at h6
          have hA : ansS ga (rk, ri, rx, rv) (st, li, sr, tm, lp, mi, ix, gq, L) = (st, li, sr, tm, lp, mi, ix, gq, L ++ [(1, ri, ix, toldF ga rv 1)]) := by
            show addS (ansT st (kindF ga rv), li, sr, tm, lp, mi, ix, gq, L) (kindF ga rv, ri, ix, toldF ga rv (kindF ga rv)) = _
            rw [hk, show ansT st 1 = st from by rw [hsv]; rfl]
            rfl
          exact hp_vret B0 hw hS hr ⟨Nat.le_of_ble_eq_true rfl, Nat.le_of_ble_eq_true rfl⟩ dL_answer_242 (⟨rfl, ⟨_, h6, (by rw [hA]; exact hX.app _ rfl)⟩, (by rw [hA, ← eS_app]; exact h7), (show hEq [lf, le] f f5 from (hEq.mono k8 (fun _ h9 => h9)))⟩)
        · have hsv : st = 4 := by rw [hs9, e9]; rfl
          refine lv_aload hx hb dL_answer_224 (lv_at hl9 6 rfl) ?_
          refine lv_iload hx hb dL_answer_226 (lv_at hl9 8 rfl) ?_
          refine hp_iald B0 hw h7 (by unfold vp_in; decide) dL_answer_228 ?_
          refine hp_c (v := 4) (hsv) ?_
          refine lv_iconst (v := 3) hx hb dL_answer_229 (by decide) ?_
          refine lv_icmp_ge (tgt := 242) hx hb dL_answer_230 (by decide) (fun _ => ?_) (fun c9 => absurd (by decide) c9)
          have hpk : 1 + 8 * 0 + xx * 4294967296 + (iN ri) * 68719476736 = pkN (1, ri, ix, toldF ga rv 1) := by
            rw [show 0 = opN (toldF ga rv 1) from (ack_op (ga := ga) (v := rv)).symm]
            conv => rhs; rw [hxx, ← (show nI (iN ri) = ri from hFo.r2 hbo)]
            exact pkN_eq (by omega) (by omega) (by omega)
          rw [hpk] at h6
          have hA : ansS ga (rk, ri, rx, rv) (st, li, sr, tm, lp, mi, ix, gq, L) = (st, li, sr, tm, lp, mi, ix, gq, L ++ [(1, ri, ix, toldF ga rv 1)]) := by
            show addS (ansT st (kindF ga rv), li, sr, tm, lp, mi, ix, gq, L) (kindF ga rv, ri, ix, toldF ga rv (kindF ga rv)) = _
            rw [hk, show ansT st 1 = st from by rw [hsv]; rfl]
            rfl
          exact hp_vret B0 hw hS hr ⟨Nat.le_of_ble_eq_true rfl, Nat.le_of_ble_eq_true rfl⟩ dL_answer_242 (⟨rfl, ⟨_, h6, (by rw [hA]; exact hX.app _ rfl)⟩, (by rw [hA, ← eS_app]; exact h7), (show hEq [lf, le] f f5 from (hEq.mono k8 (fun _ h9 => h9)))⟩)
    · have hun := (ans_n (ga := ga) (v := rv) (by rw [hk]; decide)).2
      have hbp := ans_2 hga hk
      refine lv_lload hx hb dL_answer_146 (lv_at hl9 1 rfl) ?_
      refine lv_lconst (v := lN 0) hx hb dL_answer_148 rfl ?_
      refine W.lcmp hx hb dL_answer_149 ?_
      refine lv_if_gt (tgt := 160) hx hb dL_answer_150 (by decide) (fun c9 => absurd c9 (by rw [(lg_zero hun)]; decide)) (fun _ => ?_)
      refine lv_lload hx hb dL_answer_153 (lv_at hl9 2 rfl) ?_
      refine lv_lconst (v := lN 0) hx hb dL_answer_155 rfl ?_
      refine W.lcmp hx hb dL_answer_156 ?_
      refine lv_if_le (tgt := 212) hx hb dL_answer_157 (by decide) (fun c9 => absurd c9 (fun h9 => absurd h9 (Int32.not_le.mpr (lg_pos hbp (by omega))))) (fun _ => ?_)
      refine lv_aload_n hx hb dL_answer_160 rfl (lv_at hl9 4 rfl) ?_
      refine lv_aload hx hb dL_answer_161 (lv_at hl9 6 rfl) ?_
      refine lv_iload hx hb dL_answer_163 (lv_at hl9 7 rfl) ?_
      refine lv_lload hx hb dL_answer_165 (lv_at hl9 1 rfl) ?_
      refine lv_lconst (v := lN 0) hx hb dL_answer_167 rfl ?_
      refine W.lcmp hx hb dL_answer_168 ?_
      refine lv_if_le (tgt := 176) hx hb dL_answer_169 (by decide) (fun _ => ?_) (fun c9 => absurd (by rw [(lg_zero hun)]; decide) c9)
      refine lv_iconst (v := 2) hx hb dL_answer_176 (by decide) ?_
      refine lv_iload hx hb dL_answer_177 (lv_at hl9 9 rfl) ?_
      refine lv_lload hx hb dL_answer_179 (lv_at hl9 1 rfl) ?_
      refine lv_lconst (v := lN 0) hx hb dL_answer_181 rfl ?_
      refine W.lcmp hx hb dL_answer_182 ?_
      refine lv_if_le (tgt := 191) hx hb dL_answer_183 (by decide) (fun _ => ?_) (fun c9 => absurd (by rw [(lg_zero hun)]; decide) c9)
      refine lv_lload hx hb dL_answer_191 (lv_at hl9 2 rfl) ?_
      refine hp_S (As := [.ref lf, .ref le, .int 1, .int 2, .int (nI (iN ri)), .long (lN (psum (beN ga rv) 6))]) (rest := []) B0 hw hS (c_L_post_1 hl G f lf le xs (jE F (e8r st li sr tm lp mi ix (nI L.length))) k_lf k_le 2 (iN ri) (psum (beN ga rv) 6) xx L.length (by omega) (by omega) (show (jE F (e8r st li sr tm lp mi ix (nI L.length))) 14 = nI xx from hxx) (by omega) (show (jE F (e8r st li sr tm lp mi ix (nI L.length))) 15 = nI L.length from rfl) (by omega)) mS_L_post qM_L_73 rfl rfl hl9.1 (Nat.le_of_ble_eq_true rfl) ⟨⟨Nat.le_of_ble_eq_true rfl, Nat.le_of_ble_eq_true rfl⟩, Nat.le_of_ble_eq_true rfl, Nat.le_of_ble_eq_true rfl⟩ dL_answer_193 (fun E ce q9 f16 H locs hPX hw hS hce hcv hcl => ?_) (fun v f16 H locs hP hw hS => ?_)
      · exact hPX.elim
      · obtain ⟨ev9, h17, h18, k19⟩ := hP
        subst ev9
        rw [show (upd (jE F (e8r st li sr tm lp mi ix (nI L.length))) 15 (nI (L.length + 1)) : Nat → Int32) = (jE F (e8r st li sr tm lp mi ix (nI (L.length + 1)))) from (by rw [show 15 = 8 + 7 from rfl, jE_u1, e8_u7])] at h18
        refine W.eq (g2 := F0 m 196 ls []) rfl ?_
        refine lv_aload hx hb dL_answer_196 (lv_at hl9 6 rfl) ?_
        refine lv_iload hx hb dL_answer_198 (lv_at hl9 8 rfl) ?_
        refine hp_iald B0 hw h18 (by unfold vp_in; decide) dL_answer_200 ?_
        refine hp_c (v := st) (rfl) ?_
        refine lv_iconst (v := 3) hx hb dL_answer_201 (by decide) ?_
        refine lv_icmp_ne (tgt := 211) hx hb dL_answer_202 (by decide) (fun c20 => ?_) (fun c20 => ?_)
        · have hpk : 2 + 8 * (psum (beN ga rv) 6) + xx * 4294967296 + (iN ri) * 68719476736 = pkN (2, ri, ix, toldF ga rv 2) := by
            rw [show psum (beN ga rv) 6 = opN (toldF ga rv 2) from (be_op (ans_n (ga := ga) (v := rv) (by rw [hk]; decide)).1)]
            conv => rhs; rw [hxx, ← (show nI (iN ri) = ri from hFo.r2 hbo)]
            exact pkN_eq (by omega) (by omega) (by omega)
          rw [hpk] at h17
          have hA : ansS ga (rk, ri, rx, rv) (st, li, sr, tm, lp, mi, ix, gq, L) = (st, li, sr, tm, lp, mi, ix, gq, L ++ [(2, ri, ix, toldF ga rv 2)]) := by
            show addS (ansT st (kindF ga rv), li, sr, tm, lp, mi, ix, gq, L) (kindF ga rv, ri, ix, toldF ga rv (kindF ga rv)) = _
            rw [hk, show ansT st 2 = st from (if_neg (show ¬ (2 : Int32) = 1 by decide)).trans (if_neg c20)]
            rfl
          exact hp_vret B0 hw hS hr ⟨Nat.le_of_ble_eq_true rfl, Nat.le_of_ble_eq_true rfl⟩ dL_answer_211 (⟨rfl, ⟨_, h17, (by rw [hA]; exact hX.app _ rfl)⟩, (by rw [hA, ← eS_app]; exact h18), (show hEq [lf, le] f f16 from (hEq.mono k19 (fun _ h9 => h9)))⟩)
        · refine lv_aload hx hb dL_answer_205 (lv_at hl9 6 rfl) ?_
          refine lv_iload hx hb dL_answer_207 (lv_at hl9 8 rfl) ?_
          refine lv_iconst (v := 1) hx hb dL_answer_209 (by decide) ?_
          refine hp_iast B0 hw hS h18 (by unfold vp_in; decide) dL_answer_210 (fun H locs f21 ef21 hw hS => ?_)
          rw [show (upd (jE F (e8r st li sr tm lp mi ix (nI (L.length + 1)))) (8 : Int32).toNatClampNeg 1 : Nat → Int32) = (jE F (e8r 1 li sr tm lp mi ix (nI (L.length + 1)))) from (by rw [show (8 : Int32).toNatClampNeg = 8 + 0 from rfl, jE_u1, e8_u0])] at ef21
          have h22 : f21 le = some (.inl (cI G, 16, .inl (jE F (e8r 1 li sr tm lp mi ix (nI (L.length + 1)))))) := by rw [ef21, va_up_self]
          have h23 : f21 lf = some (.inl (cJ G, 64, .inr (.inl (vp_updL xs L.length (lN (2 + 8 * (psum (beN ga rv) 6) + xx * 4294967296 + (iN ri) * 68719476736)))))) := by rw [ef21, va_up_ne _ _ (hneL k_lf k_le (Nat.ne_of_beq_eq_false rfl))]; exact h17
          have hpk : 2 + 8 * (psum (beN ga rv) 6) + xx * 4294967296 + (iN ri) * 68719476736 = pkN (2, ri, ix, toldF ga rv 2) := by
            rw [show psum (beN ga rv) 6 = opN (toldF ga rv 2) from (be_op (ans_n (ga := ga) (v := rv) (by rw [hk]; decide)).1)]
            conv => rhs; rw [hxx, ← (show nI (iN ri) = ri from hFo.r2 hbo)]
            exact pkN_eq (by omega) (by omega) (by omega)
          rw [hpk] at h23
          have hA : ansS ga (rk, ri, rx, rv) (st, li, sr, tm, lp, mi, ix, gq, L) = (1, li, sr, tm, lp, mi, ix, gq, L ++ [(2, ri, ix, toldF ga rv 2)]) := by
            show addS (ansT st (kindF ga rv), li, sr, tm, lp, mi, ix, gq, L) (kindF ga rv, ri, ix, toldF ga rv (kindF ga rv)) = _
            rw [hk, show ansT st 2 = 1 from (if_neg (show ¬ (2 : Int32) = 1 by decide)).trans (if_pos c20)]
            rfl
          exact hp_vret B0 hw hS hr ⟨Nat.le_of_ble_eq_true rfl, Nat.le_of_ble_eq_true rfl⟩ dL_answer_211 (⟨rfl, ⟨_, h23, (by rw [hA]; exact hX.app _ rfl)⟩, (by rw [hA, ← eS_app]; exact h22), ((show hEq [lf, le] f f16 from (hEq.mono k19 (fun _ h9 => h9))).tr (show hEq [lf, le] f16 f21 from (by rw [ef21]; exact hEq.up (List.mem_cons_of_mem _ List.mem_cons_self))))⟩)
    · have hup := ans_3 hvo hk
      refine lv_lload hx hb dL_answer_146 (lv_at hl9 1 rfl) ?_
      refine lv_lconst (v := lN 0) hx hb dL_answer_148 rfl ?_
      refine W.lcmp hx hb dL_answer_149 ?_
      refine lv_if_gt (tgt := 160) hx hb dL_answer_150 (by decide) (fun _ => ?_) (fun c9 => absurd (lg_pos hup (by omega)) c9)
      refine lv_aload_n hx hb dL_answer_160 rfl (lv_at hl9 4 rfl) ?_
      refine lv_aload hx hb dL_answer_161 (lv_at hl9 6 rfl) ?_
      refine lv_iload hx hb dL_answer_163 (lv_at hl9 7 rfl) ?_
      refine lv_lload hx hb dL_answer_165 (lv_at hl9 1 rfl) ?_
      refine lv_lconst (v := lN 0) hx hb dL_answer_167 rfl ?_
      refine W.lcmp hx hb dL_answer_168 ?_
      refine lv_if_le (tgt := 176) hx hb dL_answer_169 (by decide) (fun c9 => absurd c9 (fun h9 => absurd h9 (Int32.not_le.mpr (lg_pos hup (by omega))))) (fun _ => ?_)
      refine lv_iconst (v := 3) hx hb dL_answer_172 (by decide) ?_
      refine lv_goto (tgt := 177) hx hb dL_answer_173 (by decide) ?_
      refine lv_iload hx hb dL_answer_177 (lv_at hl9 9 rfl) ?_
      refine lv_lload hx hb dL_answer_179 (lv_at hl9 1 rfl) ?_
      refine lv_lconst (v := lN 0) hx hb dL_answer_181 rfl ?_
      refine W.lcmp hx hb dL_answer_182 ?_
      refine lv_if_le (tgt := 191) hx hb dL_answer_183 (by decide) (fun c9 => absurd c9 (fun h9 => absurd h9 (Int32.not_le.mpr (lg_pos hup (by omega))))) (fun _ => ?_)
      refine lv_lload hx hb dL_answer_186 (lv_at hl9 1 rfl) ?_
      refine lv_goto (tgt := 193) hx hb dL_answer_188 (by decide) ?_
      refine hp_S (As := [.ref lf, .ref le, .int 1, .int 3, .int (nI (iN ri)), .long (lN (psum (unN ga rv) 6))]) (rest := []) B0 hw hS (c_L_post_1 hl G f lf le xs (jE F (e8r st li sr tm lp mi ix (nI L.length))) k_lf k_le 3 (iN ri) (psum (unN ga rv) 6) xx L.length (by omega) (by omega) (show (jE F (e8r st li sr tm lp mi ix (nI L.length))) 14 = nI xx from hxx) (by omega) (show (jE F (e8r st li sr tm lp mi ix (nI L.length))) 15 = nI L.length from rfl) (by omega)) mS_L_post qM_L_73 rfl rfl hl9.1 (Nat.le_of_ble_eq_true rfl) ⟨⟨Nat.le_of_ble_eq_true rfl, Nat.le_of_ble_eq_true rfl⟩, Nat.le_of_ble_eq_true rfl, Nat.le_of_ble_eq_true rfl⟩ dL_answer_193 (fun E ce q9 f24 H locs hPX hw hS hce hcv hcl => ?_) (fun v f24 H locs hP hw hS => ?_)
      · exact hPX.elim
      · obtain ⟨ev9, h25, h26, k27⟩ := hP
        subst ev9
        rw [show (upd (jE F (e8r st li sr tm lp mi ix (nI L.length))) 15 (nI (L.length + 1)) : Nat → Int32) = (jE F (e8r st li sr tm lp mi ix (nI (L.length + 1)))) from (by rw [show 15 = 8 + 7 from rfl, jE_u1, e8_u7])] at h26
        refine W.eq (g2 := F0 m 196 ls []) rfl ?_
        refine lv_aload hx hb dL_answer_196 (lv_at hl9 6 rfl) ?_
        refine lv_iload hx hb dL_answer_198 (lv_at hl9 8 rfl) ?_
        refine hp_iald B0 hw h26 (by unfold vp_in; decide) dL_answer_200 ?_
        refine hp_c (v := st) (rfl) ?_
        refine lv_iconst (v := 3) hx hb dL_answer_201 (by decide) ?_
        refine lv_icmp_ne (tgt := 211) hx hb dL_answer_202 (by decide) (fun c28 => ?_) (fun c28 => ?_)
        · have hpk : 3 + 8 * (psum (unN ga rv) 6) + xx * 4294967296 + (iN ri) * 68719476736 = pkN (3, ri, ix, toldF ga rv 3) := by
            rw [show psum (unN ga rv) 6 = opN (toldF ga rv 3) from un_op]
            conv => rhs; rw [hxx, ← (show nI (iN ri) = ri from hFo.r2 hbo)]
            exact pkN_eq (by omega) (by omega) (by omega)
          rw [hpk] at h25
          have hA : ansS ga (rk, ri, rx, rv) (st, li, sr, tm, lp, mi, ix, gq, L) = (st, li, sr, tm, lp, mi, ix, gq, L ++ [(3, ri, ix, toldF ga rv 3)]) := by
            show addS (ansT st (kindF ga rv), li, sr, tm, lp, mi, ix, gq, L) (kindF ga rv, ri, ix, toldF ga rv (kindF ga rv)) = _
            rw [hk, show ansT st 3 = st from (if_neg (show ¬ (3 : Int32) = 1 by decide)).trans (if_neg c28)]
            rfl
          exact hp_vret B0 hw hS hr ⟨Nat.le_of_ble_eq_true rfl, Nat.le_of_ble_eq_true rfl⟩ dL_answer_211 (⟨rfl, ⟨_, h25, (by rw [hA]; exact hX.app _ rfl)⟩, (by rw [hA, ← eS_app]; exact h26), (show hEq [lf, le] f f24 from (hEq.mono k27 (fun _ h9 => h9)))⟩)
        · refine lv_aload hx hb dL_answer_205 (lv_at hl9 6 rfl) ?_
          refine lv_iload hx hb dL_answer_207 (lv_at hl9 8 rfl) ?_
          refine lv_iconst (v := 1) hx hb dL_answer_209 (by decide) ?_
          refine hp_iast B0 hw hS h26 (by unfold vp_in; decide) dL_answer_210 (fun H locs f29 ef29 hw hS => ?_)
          rw [show (upd (jE F (e8r st li sr tm lp mi ix (nI (L.length + 1)))) (8 : Int32).toNatClampNeg 1 : Nat → Int32) = (jE F (e8r 1 li sr tm lp mi ix (nI (L.length + 1)))) from (by rw [show (8 : Int32).toNatClampNeg = 8 + 0 from rfl, jE_u1, e8_u0])] at ef29
          have h30 : f29 le = some (.inl (cI G, 16, .inl (jE F (e8r 1 li sr tm lp mi ix (nI (L.length + 1)))))) := by rw [ef29, va_up_self]
          have h31 : f29 lf = some (.inl (cJ G, 64, .inr (.inl (vp_updL xs L.length (lN (3 + 8 * (psum (unN ga rv) 6) + xx * 4294967296 + (iN ri) * 68719476736)))))) := by rw [ef29, va_up_ne _ _ (hneL k_lf k_le (Nat.ne_of_beq_eq_false rfl))]; exact h25
          have hpk : 3 + 8 * (psum (unN ga rv) 6) + xx * 4294967296 + (iN ri) * 68719476736 = pkN (3, ri, ix, toldF ga rv 3) := by
            rw [show psum (unN ga rv) 6 = opN (toldF ga rv 3) from un_op]
            conv => rhs; rw [hxx, ← (show nI (iN ri) = ri from hFo.r2 hbo)]
            exact pkN_eq (by omega) (by omega) (by omega)
          rw [hpk] at h31
          have hA : ansS ga (rk, ri, rx, rv) (st, li, sr, tm, lp, mi, ix, gq, L) = (1, li, sr, tm, lp, mi, ix, gq, L ++ [(3, ri, ix, toldF ga rv 3)]) := by
            show addS (ansT st (kindF ga rv), li, sr, tm, lp, mi, ix, gq, L) (kindF ga rv, ri, ix, toldF ga rv (kindF ga rv)) = _
            rw [hk, show ansT st 3 = 1 from (if_neg (show ¬ (3 : Int32) = 1 by decide)).trans (if_pos c28)]
            rfl
          exact hp_vret B0 hw hS hr ⟨Nat.le_of_ble_eq_true rfl, Nat.le_of_ble_eq_true rfl⟩ dL_answer_211 (⟨rfl, ⟨_, h31, (by rw [hA]; exact hX.app _ rfl)⟩, (by rw [hA, ← eS_app]; exact h30), ((show hEq [lf, le] f f24 from (hEq.mono k27 (fun _ h9 => h9))).tr (show hEq [lf, le] f24 f29 from (by rw [ef29]; exact hEq.up (List.mem_cons_of_mem _ List.mem_cons_self))))⟩)

theorem stop_pk {ix : Int32} {xx : Nat} (h : ix = nI xx) (hx : xx ≤ 4) : 4 + 8 * 0 + xx * 4294967296 + 0 * 68719476736 = pkN (4, 0, ix, N6) := by
  rw [h]
  have h0 : opN N6 = 0 := by decide
  rw [show (4 + 8 * 0 + xx * 4294967296 + 0 * 68719476736 : Nat) = 4 + 8 * opN N6 + xx * 4294967296 + 0 * 68719476736 from by rw [h0]]
  exact pkN_eq (kd := 4) (id := 0) (by omega) (by omega) (by omega)
theorem nib_L0 {v : Int32} (h : VOK v) (c : nI (nib v) ≤ 0) : v = -1 := by
  have h1 := nib_le h
  exact (nib_z h).mp (Nat.le_zero.mp ((nI_leI (show nib v < 2 ^ 31 by omega) (show 0 < 2 ^ 31 by omega)).mp c))
theorem nib_L1 {v : Int32} (h : VOK v) (c : ¬ nI (nib v) ≤ 0) : ¬ v = -1 := fun e => c (by rw [(nib_z h).mpr e]; decide)
theorem begS_gq (S : ES) : (begS S).2.2.2.2.2.2.2.1 = S.2.2.2.2.2.2.2.1 := by
  unfold begS
  split <;> rfl
set_option maxHeartbeats 4000000 in
set_option maxRecDepth 100000 in
theorem c_L_take_0 {l : Launch} (hl : l.stackTraces = false) (G : hG) (f : hM) (lf la lq le : Nat) (st li sr tm lp mi ix : Int32) (gq : Nat → Int32) (L : List Fr) (F ga g2 h2 : Nat → Int32) (b : Nat) (hSo : SOK b (st, li, sr, tm, lp, mi, ix, gq, L)) (hb2 : b + 1 ≤ 1000000) (rk ri rx : Int32) (rv : Nat → Int32) (hFo : FOK b (rk, ri, rx, rv)) (hga : ∀ j, j < 6 → AOK (ga j)) (haq : la ≠ lq) (xs : Nat → Int64) (hX : XS xs L) (hn2 : L.length < 60) (k_lf : f lf = some (.inl (cJ G, 64, .inr (.inl xs)))) (k_la : f la = some (.inl (cI G, 12, .inl (j6r ga g2)))) (k_lq : f lq = some (.inl (cI G, 12, .inl (j6r gq h2)))) (k_le : f le = some (.inl (cI G, 16, .inl (jE (e8r st li sr tm lp mi ix (nI L.length)) F)))) : CT l yL_take (.code yL_take cL_take 11 none) 2 61 0 0 G [.long (lN (pkN (rk, ri, rx, rv))), .ref lf, .ref la, .ref lq, .ref le, .int 0] f (fun v f1 => v = none ∧ (∃ xs1 : Nat → Int64, f1 lf = some (.inl (cJ G, 64, .inr (.inl xs1))) ∧ XS xs1 (hearF ga (rk, ri, rx, rv) (st, li, sr, tm, lp, mi, ix, gq, L)).2.2.2.2.2.2.2.2) ∧ f1 lq = some (.inl (cI G, 12, .inl (j6r ((hearF ga (rk, ri, rx, rv) (st, li, sr, tm, lp, mi, ix, gq, L)).2.2.2.2.2.2.2.1) h2))) ∧ f1 le = some (.inl (cI G, 16, .inl (jE (eSt (hearF ga (rk, ri, rx, rv) (st, li, sr, tm, lp, mi, ix, gq, L))) F))) ∧ hEq [lf, lq, le] f f1) (fun E f1 => False) := by
  refine hp_start hl (own := RL) (by decide) rfl (Nat.le_of_ble_eq_true rfl) ?_
  intro p e s m args below meth c B0 hr hnm hout hw hS ls hl9
  have hx := B0.1
  have hb := B0.2.1
  have hl9 : lv_has ls 11 [(0, .long (lN (pkN (rk, ri, rx, rv)))), (2, .ref lf), (3, .ref la), (4, .ref lq), (5, .ref le), (6, .int 0)] := hl9
  have hbo : b ≤ 1000000 := by omega
  obtain ⟨⟨s9, hs9, hs4⟩, ⟨mm, hm, hmb⟩, ⟨q, hq, hq10⟩, hlp, ⟨xx, hxx, hx4⟩, hgq, hfr⟩ := id hSo
  have hs9 : st = nI s9 := hs9
  have hm : li + 1 = nI mm := hm
  have hq : sr = nI q := hq
  have hlp : lp = 0 ∨ lp = 1 := hlp
  have hxx : ix = nI xx := hxx
  have hgq : ∀ j, j < 6 → VOK (gq j) := hgq
  have hfr : ∀ r ∈ L, FOK b r := hfr
  have hvo : ∀ j, j < 6 → VOK (rv j) := hFo.2.2.2
  have hrx := (hFo.n hbo).2.2.1
  refine lv_bipush (v := 8) hx hb dL_take_0 (by decide) ?_
  refine lv_iload hx hb dL_take_2 (lv_at hl9 5 rfl) ?_
  refine lv_imul hx hb dL_take_4 ?_
  refine hp_c (v := 0) (by decide) ?_
  refine lv_istore (lv' := [(7, .int 0), (0, .long (lN (pkN (rk, ri, rx, rv)))), (2, .ref lf), (3, .ref la), (4, .ref lq), (5, .ref le), (6, .int 0)]) hx hb dL_take_5 hl9 (by decide) rfl (fun ls hl9 => ?_)
  refine lv_lload_n hx hb dL_take_7 rfl (lv_at hl9 1 rfl) ?_
  refine lv_ldc2 (v := 7) hx hb B0.2.2.2.1 (B0.2.2.2.2.1 _ qK_L_81) dL_take_8 ?_
  refine hp_cl (v := lN 7) rfl ?_
  refine lv_land hx hb dL_take_11 ?_
  refine hp_cl (v := (lN ((pkN (rk, ri, rx, rv)) % 8))) (g_mask (s := 3) (p := 8) rfl (by omega) (by first | exact pkN_lt hFo hbo | exact Nat.lt_trans (pkN_lt hFo hbo) (by decide) | exact Nat.lt_of_le_of_lt (Nat.div_le_self _ _) (Nat.lt_trans (pkN_lt hFo hbo) (by decide)))) ?_
  refine lv_l2i (v := (nI ((pkN (rk, ri, rx, rv)) % 8))) hx hb dL_take_12 (lN_i _) ?_
  refine hp_c (v := rk) (by rw [pkN_k hFo hbo]; exact hFo.r1) ?_
  refine lv_istore (lv' := [(8, .int rk), (7, .int 0), (0, .long (lN (pkN (rk, ri, rx, rv)))), (2, .ref lf), (3, .ref la), (4, .ref lq), (5, .ref le), (6, .int 0)]) hx hb dL_take_13 hl9 (by decide) rfl (fun ls hl9 => ?_)
  refine lv_iload hx hb dL_take_15 (lv_at hl9 0 rfl) ?_
  refine lv_iconst (v := 4) hx hb dL_take_17 (by decide) ?_
  refine lv_icmp_ne (tgt := 30) hx hb dL_take_18 (by decide) (fun c1 => ?_) (fun c1 => ?_)
  · refine lv_iload hx hb dL_take_30 (lv_at hl9 0 rfl) ?_
    refine lv_if_ne (tgt := 147) hx hb dL_take_32 (by decide) (fun c2 => ?_) (fun c2 => ?_)
    · refine lv_aload hx hb dL_take_147 (lv_at hl9 6 rfl) ?_
      refine lv_iload hx hb dL_take_149 (lv_at hl9 1 rfl) ?_
      refine hp_iald B0 hw k_le (by unfold vp_in; decide) dL_take_151 ?_
      refine hp_c (v := st) (rfl) ?_
      refine lv_iconst (v := 1) hx hb dL_take_152 (by decide) ?_
      refine lv_icmp_eq (tgt := 165) hx hb dL_take_153 (by decide) (fun c3 => ?_) (fun c3 => ?_)
      · refine lv_lload_n hx hb dL_take_165 rfl (lv_at hl9 2 rfl) ?_
        refine lv_bipush (v := 36) hx hb dL_take_166 (by decide) ?_
        refine lv_lshr (v := (lN ((pkN (rk, ri, rx, rv)) / 68719476736))) hx hb dL_take_168 (shr_n (s := 36) (by first | exact pkN_lt hFo hbo | exact Nat.lt_trans (pkN_lt hFo hbo) (by decide) | exact Nat.lt_of_le_of_lt (Nat.div_le_self _ _) (Nat.lt_trans (pkN_lt hFo hbo) (by decide))) (by omega) rfl) ?_
        refine lv_l2i (v := (nI ((pkN (rk, ri, rx, rv)) / 68719476736))) hx hb dL_take_169 (lN_i _) ?_
        refine hp_c (v := ri) (by rw [pkN_i hFo hbo]; exact hFo.r2 hbo) ?_
        refine lv_aload hx hb dL_take_170 (lv_at hl9 6 rfl) ?_
        refine lv_iload hx hb dL_take_172 (lv_at hl9 1 rfl) ?_
        refine lv_iconst (v := 1) hx hb dL_take_174 (by decide) ?_
        refine lv_iadd hx hb dL_take_175 ?_
        refine hp_c (v := 1) (by decide) ?_
        refine hp_iald B0 hw k_le (by unfold vp_in; decide) dL_take_176 ?_
        refine hp_c (v := li) (rfl) ?_
        refine lv_icmp_ne (tgt := 268) hx hb dL_take_177 (by decide) (fun c4 => ?_) (fun c4 => ?_)
        · have hA : hearF ga (rk, ri, rx, rv) (st, li, sr, tm, lp, mi, ix, gq, L) = (st, li, sr, tm, lp, mi, ix, gq, L) := ((if_neg c2).trans (if_neg c1)).trans (if_neg (fun h9 => c4 h9.2))
          exact hp_vret B0 hw hS hr ⟨Nat.le_of_ble_eq_true rfl, Nat.le_of_ble_eq_true rfl⟩ dL_take_268 (⟨rfl, ⟨_, k_lf, (by rw [hA]; exact hX)⟩, (by rw [hA]; exact k_lq), (by rw [hA]; exact k_le), hEq.rf⟩)
        · refine lv_iload hx hb dL_take_180 (lv_at hl9 0 rfl) ?_
          refine lv_iconst (v := 1) hx hb dL_take_182 (by decide) ?_
          refine lv_icmp_ne (tgt := 196) hx hb dL_take_183 (by decide) (fun c5 => ?_) (fun c5 => ?_)
          · refine lv_iconst (v := 0) hx hb dL_take_196 (by decide) ?_
            refine lv_istore (lv' := [(9, .int 0), (8, .int rk), (7, .int 0), (0, .long (lN (pkN (rk, ri, rx, rv)))), (2, .ref lf), (3, .ref la), (4, .ref lq), (5, .ref le), (6, .int 0)]) hx hb dL_take_197 hl9 (by decide) rfl (fun ls hl9 => ?_)
            refine hp_for (nL := 11) (pc := 199) (fun j f9 lv9 => f9 lq = some (.inl (cI G, 12, .inl (j6r (chgN gq rv rk j) h2))) ∧ hEq [lq] f f9 ∧ lv9 = [(9, .int (nI j)), (0, .long (lN (pkN (rk, ri, rx, rv)))), (2, .ref lf), (3, .ref la), (4, .ref lq), (5, .ref le), (6, .int 0), (7, .int 0), (8, .int rk)]) 6 (fun j f9 lv9 H locs ls hj hI hw hS hl9 ih => ?_) (fun f9 lv9 H locs ls hI hw hS hl9 => ?_) 6 0 (Nat.zero_add _) f _ _ _ ls ⟨(by rw [chgN_0]; exact k_lq), hEq.rf, rfl⟩ hw hS (lv_sub hl9 [0, 3, 4, 5, 6, 7, 8, 2, 1] rfl)
            · obtain ⟨hq9, hk9, el9⟩ := hI
              rw [el9] at hl9
              refine lv_iload hx hb dL_take_199 (lv_at hl9 0 rfl) ?_
              refine lv_bipush (v := 6) hx hb dL_take_201 (by decide) ?_
              refine lv_icmp_ge (tgt := 257) hx hb dL_take_203 (by decide) (fun c9 => absurd c9 (show ¬ nI 6 ≤ nI j from nI_ge hj (by omega))) (fun _ => ?_)
              refine lv_lload_n hx hb dL_take_206 rfl (lv_at hl9 1 rfl) ?_
              refine lv_iconst (v := 3) hx hb dL_take_207 (by decide) ?_
              refine lv_iconst (v := 4) hx hb dL_take_208 (by decide) ?_
              refine lv_iload hx hb dL_take_209 (lv_at hl9 0 rfl) ?_
              refine lv_imul hx hb dL_take_211 ?_
              refine hp_c (v := (nI (4 * j))) (pk_mul 4 j) ?_
              refine lv_iadd hx hb dL_take_212 ?_
              refine hp_c (v := (nI (3 + 4 * j))) (nI_add 3 (4 * j)) ?_
              refine lv_lshr (v := (lN (pkN (rk, ri, rx, rv) / 2 ^ (3 + 4 * j)))) hx hb dL_take_213 (shr_n (s := 3 + 4 * j) (pkN_lt hFo hbo) (by omega) rfl) ?_
              refine lv_ldc2 (v := 15) hx hb B0.2.2.2.1 (B0.2.2.2.2.1 _ qK_L_79) dL_take_214 ?_
              refine hp_cl (v := lN 15) rfl ?_
              refine lv_land hx hb dL_take_217 ?_
              refine hp_cl (v := (lN ((pkN (rk, ri, rx, rv) / 2 ^ (3 + 4 * j)) % 16))) (g_mask (s := 4) (p := 16) rfl (by omega) (by first | exact pkN_lt hFo hbo | exact Nat.lt_trans (pkN_lt hFo hbo) (by decide) | exact Nat.lt_of_le_of_lt (Nat.div_le_self _ _) (Nat.lt_trans (pkN_lt hFo hbo) (by decide)))) ?_
              refine lv_l2i (v := (nI ((pkN (rk, ri, rx, rv) / 2 ^ (3 + 4 * j)) % 16))) hx hb dL_take_218 (lN_i _) ?_
              refine hp_c (v := (nI (nib (rv j)))) (congrArg nI (pkN_o hFo hbo hj)) ?_
              refine lv_istore (lv' := [(10, .int (nI (nib (rv j)))), (9, .int (nI j)), (0, .long (lN (pkN (rk, ri, rx, rv)))), (2, .ref lf), (3, .ref la), (4, .ref lq), (5, .ref le), (6, .int 0), (7, .int 0), (8, .int rk)]) hx hb dL_take_219 hl9 (by decide) rfl (fun ls hl9 => ?_)
              refine lv_iload hx hb dL_take_221 (lv_at hl9 0 rfl) ?_
              refine lv_if_le (tgt := 251) hx hb dL_take_223 (by decide) (fun c6 => ?_) (fun c6 => ?_)
              · refine lv_iinc (v := (nI (j + 1))) (lv' := [(9, .int (nI (j + 1))), (10, .int (nI (nib (rv j)))), (0, .long (lN (pkN (rk, ri, rx, rv)))), (2, .ref lf), (3, .ref la), (4, .ref lq), (5, .ref le), (6, .int 0), (7, .int 0), (8, .int rk)]) hx hb dL_take_251 hl9 (k := 1) rfl (nI_1 j) (by decide) rfl (fun ls hl9 => ?_)
                refine lv_goto (tgt := 199) hx hb dL_take_254 (by decide) ?_
                exact ih _ _ H locs ls ⟨(by rw [← chgN_k (nib_L0 (hvo j hj) c6)]; exact hq9), (show hEq [lq] f f9 from (hEq.mono hk9 (fun _ h9 => h9))), rfl⟩ hw hS (lv_sub hl9 [0, 2, 3, 4, 5, 6, 7, 8, 9] rfl)
              · refine lv_aload hx hb dL_take_226 (lv_at hl9 5 rfl) ?_
                refine lv_bipush (v := 6) hx hb dL_take_228 (by decide) ?_
                refine lv_iload hx hb dL_take_230 (lv_at hl9 7 rfl) ?_
                refine lv_imul hx hb dL_take_232 ?_
                refine hp_c (v := 0) (by decide) ?_
                refine lv_iload hx hb dL_take_233 (lv_at hl9 1 rfl) ?_
                refine lv_iadd hx hb dL_take_235 ?_
                refine hp_c (v := (nI j)) (by rw [show (0 : Int32) = nI 0 from rfl, nI_add, Nat.zero_add]) ?_
                refine lv_iload hx hb dL_take_236 (lv_at hl9 9 rfl) ?_
                refine lv_iconst (v := 2) hx hb dL_take_238 (by decide) ?_
                refine lv_icmp_ne (tgt := 249) hx hb dL_take_239 (by decide) (fun c7 => ?_) (fun c7 => ?_)
                · refine lv_iconst (v := (-1)) hx hb dL_take_249 (by decide) ?_
                  refine hp_iast B0 hw hS hq9 (vp_in_nI (show j < 12 by omega) (by omega)) dL_take_250 (fun H locs f8 ef8 hw hS => ?_)
                  rw [show (upd (j6r (chgN gq rv rk j) h2) ((nI j) : Int32).toNatClampNeg (-1) : Nat → Int32) = (j6r (chgN gq rv rk (j + 1)) h2) from (by rw [nI_clamp (by omega), j6_u0 hj, chgN_s rfl (nib_L1 (hvo j hj) c6) (if_neg c7)])] at ef8
                  have h10 : f8 lq = some (.inl (cI G, 12, .inl (j6r (chgN gq rv rk (j + 1)) h2))) := by rw [ef8, va_up_self]
                  refine lv_iinc (v := (nI (j + 1))) (lv' := [(9, .int (nI (j + 1))), (10, .int (nI (nib (rv j)))), (0, .long (lN (pkN (rk, ri, rx, rv)))), (2, .ref lf), (3, .ref la), (4, .ref lq), (5, .ref le), (6, .int 0), (7, .int 0), (8, .int rk)]) hx hb dL_take_251 hl9 (k := 1) rfl (nI_1 j) (by decide) rfl (fun ls hl9 => ?_)
                  refine lv_goto (tgt := 199) hx hb dL_take_254 (by decide) ?_
                  exact ih _ _ H locs ls ⟨h10, ((show hEq [lq] f f9 from (hEq.mono hk9 (fun _ h9 => h9))).tr (show hEq [lq] f9 f8 from (by rw [ef8]; exact hEq.up List.mem_cons_self))), rfl⟩ hw hS (lv_sub hl9 [0, 2, 3, 4, 5, 6, 7, 8, 9] rfl)
                · refine lv_iload hx hb dL_take_242 (lv_at hl9 0 rfl) ?_
                  refine lv_iconst (v := 1) hx hb dL_take_244 (by decide) ?_
                  refine lv_isub hx hb dL_take_245 ?_
                  refine hp_c (v := (rv j)) (nib_sub (hvo j hj) (nib_L1 (hvo j hj) c6)) ?_
                  refine lv_goto (tgt := 250) hx hb dL_take_246 (by decide) ?_
                  refine hp_iast B0 hw hS hq9 (vp_in_nI (show j < 12 by omega) (by omega)) dL_take_250 (fun H locs f11 ef11 hw hS => ?_)
                  rw [show (upd (j6r (chgN gq rv rk j) h2) ((nI j) : Int32).toNatClampNeg (rv j) : Nat → Int32) = (j6r (chgN gq rv rk (j + 1)) h2) from (by rw [nI_clamp (by omega), j6_u0 hj, chgN_s rfl (nib_L1 (hvo j hj) c6) (if_pos c7)])] at ef11
                  have h12 : f11 lq = some (.inl (cI G, 12, .inl (j6r (chgN gq rv rk (j + 1)) h2))) := by rw [ef11, va_up_self]
                  refine lv_iinc (v := (nI (j + 1))) (lv' := [(9, .int (nI (j + 1))), (10, .int (nI (nib (rv j)))), (0, .long (lN (pkN (rk, ri, rx, rv)))), (2, .ref lf), (3, .ref la), (4, .ref lq), (5, .ref le), (6, .int 0), (7, .int 0), (8, .int rk)]) hx hb dL_take_251 hl9 (k := 1) rfl (nI_1 j) (by decide) rfl (fun ls hl9 => ?_)
                  refine lv_goto (tgt := 199) hx hb dL_take_254 (by decide) ?_
                  exact ih _ _ H locs ls ⟨h12, ((show hEq [lq] f f9 from (hEq.mono hk9 (fun _ h9 => h9))).tr (show hEq [lq] f9 f11 from (by rw [ef11]; exact hEq.up List.mem_cons_self))), rfl⟩ hw hS (lv_sub hl9 [0, 2, 3, 4, 5, 6, 7, 8, 9] rfl)
            · obtain ⟨hq9, hk9, el9⟩ := hI
              rw [el9] at hl9
              refine lv_iload hx hb dL_take_199 (lv_at hl9 0 rfl) ?_
              refine lv_bipush (v := 6) hx hb dL_take_201 (by decide) ?_
              refine lv_icmp_ge (tgt := 257) hx hb dL_take_203 (by decide) (fun _ => ?_) (fun c9 => absurd (by decide) c9)
              refine lv_aload_n hx hb dL_take_257 rfl (lv_at hl9 2 rfl) ?_
              refine lv_aload hx hb dL_take_258 (lv_at hl9 4 rfl) ?_
              refine lv_aload hx hb dL_take_260 (lv_at hl9 5 rfl) ?_
              refine lv_iload hx hb dL_take_262 (lv_at hl9 6 rfl) ?_
              have h13 : f9 lf = some (.inl (cJ G, 64, .inr (.inl xs))) := (hEq.k hk9) _ _ k_lf (ninc (Ne.symm (hneL k_lq k_lf (Nat.ne_of_beq_eq_false rfl))) nin0)
              have h14 : f9 le = some (.inl (cI G, 16, .inl (jE (e8r st li sr tm lp mi ix (nI L.length)) F))) := (hEq.k hk9) _ _ k_le (ninc (Ne.symm (hneL k_lq k_le (Nat.ne_of_beq_eq_false rfl))) nin0)
              refine hp_S (As := [.ref lf, .ref lq, .ref le, .int 0]) (rest := []) B0 hw hS (c_L_beg_0 hl G f9 lf lq le st li sr tm lp mi ix (chgF gq rv rk) L F h2 b (SOK.gq hSo (chgF_ok hgq hvo)) hbo xs hX (Nat.lt_of_lt_of_le hn2 (by decide)) h13 hq9 h14) mS_L_beg qM_L_86 rfl rfl hl9.1 (Nat.le_of_ble_eq_true rfl) ⟨⟨Nat.le_of_ble_eq_true rfl, Nat.le_of_ble_eq_true rfl⟩, Nat.le_of_ble_eq_true rfl, Nat.le_of_ble_eq_true rfl⟩ dL_take_264 (fun E ce q9 f15 H locs hPX hw hS hce hcv hcl => ?_) (fun v f15 H locs hP hw hS => ?_)
              · exact hPX.elim
              · obtain ⟨ev9, ⟨xs16, h17, hX18⟩, h19, k20⟩ := hP
                subst ev9
                refine W.eq (g2 := F0 m 267 ls [.int (begV (st, li, sr, tm, lp, mi, ix, (chgF gq rv rk), L))]) rfl ?_
                refine lv_pop hx hb dL_take_267 rfl ?_
                have h21 : f15 lq = some (.inl (cI G, 12, .inl (j6r (chgN gq rv rk 6) h2))) := (hEq.k k20) _ _ hq9 (ninc (hneL k_lq k_lf (Nat.ne_of_beq_eq_false rfl)) (ninc (hneL k_lq k_le (Nat.ne_of_beq_eq_false rfl)) nin0))
                have hA : hearF ga (rk, ri, rx, rv) (st, li, sr, tm, lp, mi, ix, gq, L) = begS (st, li, sr, tm, lp, mi, ix, (chgF gq rv rk), L) := (((if_neg c2).trans (if_neg c1)).trans (if_pos ⟨Or.inl c3, c4⟩)).trans (if_neg c5)
                exact hp_vret B0 hw hS hr ⟨Nat.le_of_ble_eq_true rfl, Nat.le_of_ble_eq_true rfl⟩ dL_take_268 (⟨rfl, ⟨_, h17, (by rw [hA]; exact hX18)⟩, (by rw [hA]; exact (by rw [begS_gq]; exact h21)), (by rw [hA]; exact h19), ((show hEq [lf, lq, le] f f9 from (hEq.mono hk9 (sub_cons (List.mem_cons_of_mem _ List.mem_cons_self) sub_nil))).tr (show hEq [lf, lq, le] f9 f15 from (hEq.mono k20 (sub_cons List.mem_cons_self (sub_cons (List.mem_cons_of_mem _ (List.mem_cons_of_mem _ List.mem_cons_self)) sub_nil)))))⟩)
          · refine lv_aload hx hb dL_take_186 (lv_at hl9 6 rfl) ?_
            refine lv_iload hx hb dL_take_188 (lv_at hl9 1 rfl) ?_
            refine lv_dup2_11 hx hb dL_take_190 rfl rfl ?_
            refine hp_iald B0 hw k_le (by unfold vp_in; decide) dL_take_191 ?_
            refine hp_c (v := 1) (c3) ?_
            refine lv_iconst (v := 1) hx hb dL_take_192 (by decide) ?_
            refine lv_iadd hx hb dL_take_193 ?_
            refine hp_c (v := 2) (by decide) ?_
            refine hp_iast B0 hw hS k_le (by unfold vp_in; decide) dL_take_194 (fun H locs f22 ef22 hw hS => ?_)
            rw [show (upd (jE (e8r st li sr tm lp mi ix (nI L.length)) F) (0 : Int32).toNatClampNeg 2 : Nat → Int32) = (jE (e8r 2 li sr tm lp mi ix (nI L.length)) F) from (by rw [show (0 : Int32).toNatClampNeg = 0 from rfl, jE_u0 (by omega), e8_u0])] at ef22
            have h23 : f22 le = some (.inl (cI G, 16, .inl (jE (e8r 2 li sr tm lp mi ix (nI L.length)) F))) := by rw [ef22, va_up_self]
            have h24 : f22 lf = some (.inl (cJ G, 64, .inr (.inl xs))) := by rw [ef22, va_up_ne _ _ (hneL k_lf k_le (Nat.ne_of_beq_eq_false rfl))]; exact k_lf
            have h25 : f22 lq = some (.inl (cI G, 12, .inl (j6r gq h2))) := by rw [ef22, va_up_ne _ _ (hneL k_lq k_le (Nat.ne_of_beq_eq_false rfl))]; exact k_lq
            have hA : hearF ga (rk, ri, rx, rv) (st, li, sr, tm, lp, mi, ix, gq, L) = (2, li, sr, tm, lp, mi, ix, gq, L) := ((((if_neg c2).trans (if_neg c1)).trans (if_pos ⟨Or.inl c3, c4⟩)).trans (if_pos c5)).trans (congrArg (fun z9 => (z9, li, sr, tm, lp, mi, ix, gq, L)) (if_pos c3))
            exact hp_vret B0 hw hS hr ⟨Nat.le_of_ble_eq_true rfl, Nat.le_of_ble_eq_true rfl⟩ dL_take_195 (⟨rfl, ⟨_, h24, (by rw [hA]; exact hX)⟩, (by rw [hA]; exact h25), (by rw [hA]; exact h23), (show hEq [lf, lq, le] f f22 from (by rw [ef22]; exact hEq.up (List.mem_cons_of_mem _ (List.mem_cons_of_mem _ List.mem_cons_self))))⟩)
      · refine lv_aload hx hb dL_take_156 (lv_at hl9 6 rfl) ?_
        refine lv_iload hx hb dL_take_158 (lv_at hl9 1 rfl) ?_
        refine hp_iald B0 hw k_le (by unfold vp_in; decide) dL_take_160 ?_
        refine hp_c (v := st) (rfl) ?_
        refine lv_iconst (v := 3) hx hb dL_take_161 (by decide) ?_
        refine lv_icmp_ne (tgt := 268) hx hb dL_take_162 (by decide) (fun c26 => ?_) (fun c26 => ?_)
        · have hA : hearF ga (rk, ri, rx, rv) (st, li, sr, tm, lp, mi, ix, gq, L) = (st, li, sr, tm, lp, mi, ix, gq, L) := ((if_neg c2).trans (if_neg c1)).trans (if_neg (fun h9 => h9.1.elim c3 c26))
          exact hp_vret B0 hw hS hr ⟨Nat.le_of_ble_eq_true rfl, Nat.le_of_ble_eq_true rfl⟩ dL_take_268 (⟨rfl, ⟨_, k_lf, (by rw [hA]; exact hX)⟩, (by rw [hA]; exact k_lq), (by rw [hA]; exact k_le), hEq.rf⟩)
        · refine lv_lload_n hx hb dL_take_165 rfl (lv_at hl9 2 rfl) ?_
          refine lv_bipush (v := 36) hx hb dL_take_166 (by decide) ?_
          refine lv_lshr (v := (lN ((pkN (rk, ri, rx, rv)) / 68719476736))) hx hb dL_take_168 (shr_n (s := 36) (by first | exact pkN_lt hFo hbo | exact Nat.lt_trans (pkN_lt hFo hbo) (by decide) | exact Nat.lt_of_le_of_lt (Nat.div_le_self _ _) (Nat.lt_trans (pkN_lt hFo hbo) (by decide))) (by omega) rfl) ?_
          refine lv_l2i (v := (nI ((pkN (rk, ri, rx, rv)) / 68719476736))) hx hb dL_take_169 (lN_i _) ?_
          refine hp_c (v := ri) (by rw [pkN_i hFo hbo]; exact hFo.r2 hbo) ?_
          refine lv_aload hx hb dL_take_170 (lv_at hl9 6 rfl) ?_
          refine lv_iload hx hb dL_take_172 (lv_at hl9 1 rfl) ?_
          refine lv_iconst (v := 1) hx hb dL_take_174 (by decide) ?_
          refine lv_iadd hx hb dL_take_175 ?_
          refine hp_c (v := 1) (by decide) ?_
          refine hp_iald B0 hw k_le (by unfold vp_in; decide) dL_take_176 ?_
          refine hp_c (v := li) (rfl) ?_
          refine lv_icmp_ne (tgt := 268) hx hb dL_take_177 (by decide) (fun c27 => ?_) (fun c27 => ?_)
          · have hA : hearF ga (rk, ri, rx, rv) (st, li, sr, tm, lp, mi, ix, gq, L) = (st, li, sr, tm, lp, mi, ix, gq, L) := ((if_neg c2).trans (if_neg c1)).trans (if_neg (fun h9 => c27 h9.2))
            exact hp_vret B0 hw hS hr ⟨Nat.le_of_ble_eq_true rfl, Nat.le_of_ble_eq_true rfl⟩ dL_take_268 (⟨rfl, ⟨_, k_lf, (by rw [hA]; exact hX)⟩, (by rw [hA]; exact k_lq), (by rw [hA]; exact k_le), hEq.rf⟩)
          · refine lv_iload hx hb dL_take_180 (lv_at hl9 0 rfl) ?_
            refine lv_iconst (v := 1) hx hb dL_take_182 (by decide) ?_
            refine lv_icmp_ne (tgt := 196) hx hb dL_take_183 (by decide) (fun c28 => ?_) (fun c28 => ?_)
            · refine lv_iconst (v := 0) hx hb dL_take_196 (by decide) ?_
              refine lv_istore (lv' := [(9, .int 0), (8, .int rk), (7, .int 0), (0, .long (lN (pkN (rk, ri, rx, rv)))), (2, .ref lf), (3, .ref la), (4, .ref lq), (5, .ref le), (6, .int 0)]) hx hb dL_take_197 hl9 (by decide) rfl (fun ls hl9 => ?_)
              refine hp_for (nL := 11) (pc := 199) (fun j f9 lv9 => f9 lq = some (.inl (cI G, 12, .inl (j6r (chgN gq rv rk j) h2))) ∧ hEq [lq] f f9 ∧ lv9 = [(9, .int (nI j)), (0, .long (lN (pkN (rk, ri, rx, rv)))), (2, .ref lf), (3, .ref la), (4, .ref lq), (5, .ref le), (6, .int 0), (7, .int 0), (8, .int rk)]) 6 (fun j f9 lv9 H locs ls hj hI hw hS hl9 ih => ?_) (fun f9 lv9 H locs ls hI hw hS hl9 => ?_) 6 0 (Nat.zero_add _) f _ _ _ ls ⟨(by rw [chgN_0]; exact k_lq), hEq.rf, rfl⟩ hw hS (lv_sub hl9 [0, 3, 4, 5, 6, 7, 8, 2, 1] rfl)
              · obtain ⟨hq9, hk9, el9⟩ := hI
                rw [el9] at hl9
                refine lv_iload hx hb dL_take_199 (lv_at hl9 0 rfl) ?_
                refine lv_bipush (v := 6) hx hb dL_take_201 (by decide) ?_
                refine lv_icmp_ge (tgt := 257) hx hb dL_take_203 (by decide) (fun c9 => absurd c9 (show ¬ nI 6 ≤ nI j from nI_ge hj (by omega))) (fun _ => ?_)
                refine lv_lload_n hx hb dL_take_206 rfl (lv_at hl9 1 rfl) ?_
                refine lv_iconst (v := 3) hx hb dL_take_207 (by decide) ?_
                refine lv_iconst (v := 4) hx hb dL_take_208 (by decide) ?_
                refine lv_iload hx hb dL_take_209 (lv_at hl9 0 rfl) ?_
                refine lv_imul hx hb dL_take_211 ?_
                refine hp_c (v := (nI (4 * j))) (pk_mul 4 j) ?_
                refine lv_iadd hx hb dL_take_212 ?_
                refine hp_c (v := (nI (3 + 4 * j))) (nI_add 3 (4 * j)) ?_
                refine lv_lshr (v := (lN (pkN (rk, ri, rx, rv) / 2 ^ (3 + 4 * j)))) hx hb dL_take_213 (shr_n (s := 3 + 4 * j) (pkN_lt hFo hbo) (by omega) rfl) ?_
                refine lv_ldc2 (v := 15) hx hb B0.2.2.2.1 (B0.2.2.2.2.1 _ qK_L_79) dL_take_214 ?_
                refine hp_cl (v := lN 15) rfl ?_
                refine lv_land hx hb dL_take_217 ?_
                refine hp_cl (v := (lN ((pkN (rk, ri, rx, rv) / 2 ^ (3 + 4 * j)) % 16))) (g_mask (s := 4) (p := 16) rfl (by omega) (by first | exact pkN_lt hFo hbo | exact Nat.lt_trans (pkN_lt hFo hbo) (by decide) | exact Nat.lt_of_le_of_lt (Nat.div_le_self _ _) (Nat.lt_trans (pkN_lt hFo hbo) (by decide)))) ?_
                refine lv_l2i (v := (nI ((pkN (rk, ri, rx, rv) / 2 ^ (3 + 4 * j)) % 16))) hx hb dL_take_218 (lN_i _) ?_
                refine hp_c (v := (nI (nib (rv j)))) (congrArg nI (pkN_o hFo hbo hj)) ?_
                refine lv_istore (lv' := [(10, .int (nI (nib (rv j)))), (9, .int (nI j)), (0, .long (lN (pkN (rk, ri, rx, rv)))), (2, .ref lf), (3, .ref la), (4, .ref lq), (5, .ref le), (6, .int 0), (7, .int 0), (8, .int rk)]) hx hb dL_take_219 hl9 (by decide) rfl (fun ls hl9 => ?_)
                refine lv_iload hx hb dL_take_221 (lv_at hl9 0 rfl) ?_
                refine lv_if_le (tgt := 251) hx hb dL_take_223 (by decide) (fun c29 => ?_) (fun c29 => ?_)
                · refine lv_iinc (v := (nI (j + 1))) (lv' := [(9, .int (nI (j + 1))), (10, .int (nI (nib (rv j)))), (0, .long (lN (pkN (rk, ri, rx, rv)))), (2, .ref lf), (3, .ref la), (4, .ref lq), (5, .ref le), (6, .int 0), (7, .int 0), (8, .int rk)]) hx hb dL_take_251 hl9 (k := 1) rfl (nI_1 j) (by decide) rfl (fun ls hl9 => ?_)
                  refine lv_goto (tgt := 199) hx hb dL_take_254 (by decide) ?_
                  exact ih _ _ H locs ls ⟨(by rw [← chgN_k (nib_L0 (hvo j hj) c29)]; exact hq9), (show hEq [lq] f f9 from (hEq.mono hk9 (fun _ h9 => h9))), rfl⟩ hw hS (lv_sub hl9 [0, 2, 3, 4, 5, 6, 7, 8, 9] rfl)
                · refine lv_aload hx hb dL_take_226 (lv_at hl9 5 rfl) ?_
                  refine lv_bipush (v := 6) hx hb dL_take_228 (by decide) ?_
                  refine lv_iload hx hb dL_take_230 (lv_at hl9 7 rfl) ?_
                  refine lv_imul hx hb dL_take_232 ?_
                  refine hp_c (v := 0) (by decide) ?_
                  refine lv_iload hx hb dL_take_233 (lv_at hl9 1 rfl) ?_
                  refine lv_iadd hx hb dL_take_235 ?_
                  refine hp_c (v := (nI j)) (by rw [show (0 : Int32) = nI 0 from rfl, nI_add, Nat.zero_add]) ?_
                  refine lv_iload hx hb dL_take_236 (lv_at hl9 9 rfl) ?_
                  refine lv_iconst (v := 2) hx hb dL_take_238 (by decide) ?_
                  refine lv_icmp_ne (tgt := 249) hx hb dL_take_239 (by decide) (fun c30 => ?_) (fun c30 => ?_)
                  · refine lv_iconst (v := (-1)) hx hb dL_take_249 (by decide) ?_
                    refine hp_iast B0 hw hS hq9 (vp_in_nI (show j < 12 by omega) (by omega)) dL_take_250 (fun H locs f31 ef31 hw hS => ?_)
                    rw [show (upd (j6r (chgN gq rv rk j) h2) ((nI j) : Int32).toNatClampNeg (-1) : Nat → Int32) = (j6r (chgN gq rv rk (j + 1)) h2) from (by rw [nI_clamp (by omega), j6_u0 hj, chgN_s rfl (nib_L1 (hvo j hj) c29) (if_neg c30)])] at ef31
                    have h32 : f31 lq = some (.inl (cI G, 12, .inl (j6r (chgN gq rv rk (j + 1)) h2))) := by rw [ef31, va_up_self]
                    refine lv_iinc (v := (nI (j + 1))) (lv' := [(9, .int (nI (j + 1))), (10, .int (nI (nib (rv j)))), (0, .long (lN (pkN (rk, ri, rx, rv)))), (2, .ref lf), (3, .ref la), (4, .ref lq), (5, .ref le), (6, .int 0), (7, .int 0), (8, .int rk)]) hx hb dL_take_251 hl9 (k := 1) rfl (nI_1 j) (by decide) rfl (fun ls hl9 => ?_)
                    refine lv_goto (tgt := 199) hx hb dL_take_254 (by decide) ?_
                    exact ih _ _ H locs ls ⟨h32, ((show hEq [lq] f f9 from (hEq.mono hk9 (fun _ h9 => h9))).tr (show hEq [lq] f9 f31 from (by rw [ef31]; exact hEq.up List.mem_cons_self))), rfl⟩ hw hS (lv_sub hl9 [0, 2, 3, 4, 5, 6, 7, 8, 9] rfl)
                  · refine lv_iload hx hb dL_take_242 (lv_at hl9 0 rfl) ?_
                    refine lv_iconst (v := 1) hx hb dL_take_244 (by decide) ?_
                    refine lv_isub hx hb dL_take_245 ?_
                    refine hp_c (v := (rv j)) (nib_sub (hvo j hj) (nib_L1 (hvo j hj) c29)) ?_
                    refine lv_goto (tgt := 250) hx hb dL_take_246 (by decide) ?_
                    refine hp_iast B0 hw hS hq9 (vp_in_nI (show j < 12 by omega) (by omega)) dL_take_250 (fun H locs f33 ef33 hw hS => ?_)
                    rw [show (upd (j6r (chgN gq rv rk j) h2) ((nI j) : Int32).toNatClampNeg (rv j) : Nat → Int32) = (j6r (chgN gq rv rk (j + 1)) h2) from (by rw [nI_clamp (by omega), j6_u0 hj, chgN_s rfl (nib_L1 (hvo j hj) c29) (if_pos c30)])] at ef33
                    have h34 : f33 lq = some (.inl (cI G, 12, .inl (j6r (chgN gq rv rk (j + 1)) h2))) := by rw [ef33, va_up_self]
                    refine lv_iinc (v := (nI (j + 1))) (lv' := [(9, .int (nI (j + 1))), (10, .int (nI (nib (rv j)))), (0, .long (lN (pkN (rk, ri, rx, rv)))), (2, .ref lf), (3, .ref la), (4, .ref lq), (5, .ref le), (6, .int 0), (7, .int 0), (8, .int rk)]) hx hb dL_take_251 hl9 (k := 1) rfl (nI_1 j) (by decide) rfl (fun ls hl9 => ?_)
                    refine lv_goto (tgt := 199) hx hb dL_take_254 (by decide) ?_
                    exact ih _ _ H locs ls ⟨h34, ((show hEq [lq] f f9 from (hEq.mono hk9 (fun _ h9 => h9))).tr (show hEq [lq] f9 f33 from (by rw [ef33]; exact hEq.up List.mem_cons_self))), rfl⟩ hw hS (lv_sub hl9 [0, 2, 3, 4, 5, 6, 7, 8, 9] rfl)
              · obtain ⟨hq9, hk9, el9⟩ := hI
                rw [el9] at hl9
                refine lv_iload hx hb dL_take_199 (lv_at hl9 0 rfl) ?_
                refine lv_bipush (v := 6) hx hb dL_take_201 (by decide) ?_
                refine lv_icmp_ge (tgt := 257) hx hb dL_take_203 (by decide) (fun _ => ?_) (fun c9 => absurd (by decide) c9)
                refine lv_aload_n hx hb dL_take_257 rfl (lv_at hl9 2 rfl) ?_
                refine lv_aload hx hb dL_take_258 (lv_at hl9 4 rfl) ?_
                refine lv_aload hx hb dL_take_260 (lv_at hl9 5 rfl) ?_
                refine lv_iload hx hb dL_take_262 (lv_at hl9 6 rfl) ?_
                have h35 : f9 lf = some (.inl (cJ G, 64, .inr (.inl xs))) := (hEq.k hk9) _ _ k_lf (ninc (Ne.symm (hneL k_lq k_lf (Nat.ne_of_beq_eq_false rfl))) nin0)
                have h36 : f9 le = some (.inl (cI G, 16, .inl (jE (e8r st li sr tm lp mi ix (nI L.length)) F))) := (hEq.k hk9) _ _ k_le (ninc (Ne.symm (hneL k_lq k_le (Nat.ne_of_beq_eq_false rfl))) nin0)
                refine hp_S (As := [.ref lf, .ref lq, .ref le, .int 0]) (rest := []) B0 hw hS (c_L_beg_0 hl G f9 lf lq le st li sr tm lp mi ix (chgF gq rv rk) L F h2 b (SOK.gq hSo (chgF_ok hgq hvo)) hbo xs hX (Nat.lt_of_lt_of_le hn2 (by decide)) h35 hq9 h36) mS_L_beg qM_L_86 rfl rfl hl9.1 (Nat.le_of_ble_eq_true rfl) ⟨⟨Nat.le_of_ble_eq_true rfl, Nat.le_of_ble_eq_true rfl⟩, Nat.le_of_ble_eq_true rfl, Nat.le_of_ble_eq_true rfl⟩ dL_take_264 (fun E ce q9 f37 H locs hPX hw hS hce hcv hcl => ?_) (fun v f37 H locs hP hw hS => ?_)
                · exact hPX.elim
                · obtain ⟨ev9, ⟨xs38, h39, hX40⟩, h41, k42⟩ := hP
                  subst ev9
                  refine W.eq (g2 := F0 m 267 ls [.int (begV (st, li, sr, tm, lp, mi, ix, (chgF gq rv rk), L))]) rfl ?_
                  refine lv_pop hx hb dL_take_267 rfl ?_
                  have h43 : f37 lq = some (.inl (cI G, 12, .inl (j6r (chgN gq rv rk 6) h2))) := (hEq.k k42) _ _ hq9 (ninc (hneL k_lq k_lf (Nat.ne_of_beq_eq_false rfl)) (ninc (hneL k_lq k_le (Nat.ne_of_beq_eq_false rfl)) nin0))
                  have hA : hearF ga (rk, ri, rx, rv) (st, li, sr, tm, lp, mi, ix, gq, L) = begS (st, li, sr, tm, lp, mi, ix, (chgF gq rv rk), L) := (((if_neg c2).trans (if_neg c1)).trans (if_pos ⟨Or.inr c26, c27⟩)).trans (if_neg c28)
                  exact hp_vret B0 hw hS hr ⟨Nat.le_of_ble_eq_true rfl, Nat.le_of_ble_eq_true rfl⟩ dL_take_268 (⟨rfl, ⟨_, h39, (by rw [hA]; exact hX40)⟩, (by rw [hA]; exact (by rw [begS_gq]; exact h43)), (by rw [hA]; exact h41), ((show hEq [lf, lq, le] f f9 from (hEq.mono hk9 (sub_cons (List.mem_cons_of_mem _ List.mem_cons_self) sub_nil))).tr (show hEq [lf, lq, le] f9 f37 from (hEq.mono k42 (sub_cons List.mem_cons_self (sub_cons (List.mem_cons_of_mem _ (List.mem_cons_of_mem _ List.mem_cons_self)) sub_nil)))))⟩)
            · refine lv_aload hx hb dL_take_186 (lv_at hl9 6 rfl) ?_
              refine lv_iload hx hb dL_take_188 (lv_at hl9 1 rfl) ?_
              refine lv_dup2_11 hx hb dL_take_190 rfl rfl ?_
              refine hp_iald B0 hw k_le (by unfold vp_in; decide) dL_take_191 ?_
              refine hp_c (v := 3) (c26) ?_
              refine lv_iconst (v := 1) hx hb dL_take_192 (by decide) ?_
              refine lv_iadd hx hb dL_take_193 ?_
              refine hp_c (v := 4) (by decide) ?_
              refine hp_iast B0 hw hS k_le (by unfold vp_in; decide) dL_take_194 (fun H locs f44 ef44 hw hS => ?_)
              rw [show (upd (jE (e8r st li sr tm lp mi ix (nI L.length)) F) (0 : Int32).toNatClampNeg 4 : Nat → Int32) = (jE (e8r 4 li sr tm lp mi ix (nI L.length)) F) from (by rw [show (0 : Int32).toNatClampNeg = 0 from rfl, jE_u0 (by omega), e8_u0])] at ef44
              have h45 : f44 le = some (.inl (cI G, 16, .inl (jE (e8r 4 li sr tm lp mi ix (nI L.length)) F))) := by rw [ef44, va_up_self]
              have h46 : f44 lf = some (.inl (cJ G, 64, .inr (.inl xs))) := by rw [ef44, va_up_ne _ _ (hneL k_lf k_le (Nat.ne_of_beq_eq_false rfl))]; exact k_lf
              have h47 : f44 lq = some (.inl (cI G, 12, .inl (j6r gq h2))) := by rw [ef44, va_up_ne _ _ (hneL k_lq k_le (Nat.ne_of_beq_eq_false rfl))]; exact k_lq
              have hA : hearF ga (rk, ri, rx, rv) (st, li, sr, tm, lp, mi, ix, gq, L) = (4, li, sr, tm, lp, mi, ix, gq, L) := ((((if_neg c2).trans (if_neg c1)).trans (if_pos ⟨Or.inr c26, c27⟩)).trans (if_pos c28)).trans (congrArg (fun z9 => (z9, li, sr, tm, lp, mi, ix, gq, L)) (if_neg c3))
              exact hp_vret B0 hw hS hr ⟨Nat.le_of_ble_eq_true rfl, Nat.le_of_ble_eq_true rfl⟩ dL_take_195 (⟨rfl, ⟨_, h46, (by rw [hA]; exact hX)⟩, (by rw [hA]; exact h47), (by rw [hA]; exact h45), (show hEq [lf, lq, le] f f44 from (by rw [ef44]; exact hEq.up (List.mem_cons_of_mem _ (List.mem_cons_of_mem _ List.mem_cons_self))))⟩)
    · refine lv_aload hx hb dL_take_35 (lv_at hl9 6 rfl) ?_
      refine lv_iload hx hb dL_take_37 (lv_at hl9 1 rfl) ?_
      refine lv_iconst (v := 4) hx hb dL_take_39 (by decide) ?_
      refine lv_iadd hx hb dL_take_40 ?_
      refine hp_c (v := 4) (by decide) ?_
      refine lv_lload_n hx hb dL_take_41 rfl (lv_at hl9 2 rfl) ?_
      refine lv_bipush (v := 32) hx hb dL_take_42 (by decide) ?_
      refine lv_lshr (v := (lN ((pkN (rk, ri, rx, rv)) / 4294967296))) hx hb dL_take_44 (shr_n (s := 32) (by first | exact pkN_lt hFo hbo | exact Nat.lt_trans (pkN_lt hFo hbo) (by decide) | exact Nat.lt_of_le_of_lt (Nat.div_le_self _ _) (Nat.lt_trans (pkN_lt hFo hbo) (by decide))) (by omega) rfl) ?_
      refine lv_ldc2 (v := 15) hx hb B0.2.2.2.1 (B0.2.2.2.2.1 _ qK_L_79) dL_take_45 ?_
      refine hp_cl (v := lN 15) rfl ?_
      refine lv_land hx hb dL_take_48 ?_
      refine hp_cl (v := (lN (((pkN (rk, ri, rx, rv)) / 4294967296) % 16))) (g_mask (s := 4) (p := 16) rfl (by omega) (by first | exact pkN_lt hFo hbo | exact Nat.lt_trans (pkN_lt hFo hbo) (by decide) | exact Nat.lt_of_le_of_lt (Nat.div_le_self _ _) (Nat.lt_trans (pkN_lt hFo hbo) (by decide)))) ?_
      refine lv_l2i (v := (nI (((pkN (rk, ri, rx, rv)) / 4294967296) % 16))) hx hb dL_take_49 (lN_i _) ?_
      refine hp_c (v := (nI (iN rx))) (congrArg nI (pkN_x hFo hbo)) ?_
      refine hp_S (As := [.int (nI (iN rx))]) (rest := [.int 4, .ref le]) B0 hw hS (c_L_number hl G f (iN rx) (by omega)) mS_L_number qM_L_83 rfl rfl hl9.1 (Nat.le_of_ble_eq_true rfl) ⟨⟨Nat.le_of_ble_eq_true rfl, Nat.le_of_ble_eq_true rfl⟩, Nat.le_of_ble_eq_true rfl, Nat.le_of_ble_eq_true rfl⟩ dL_take_50 (fun E ce q9 f48 H locs hPX hw hS hce hcv hcl => ?_) (fun v f48 H locs hP hw hS => ?_)
      · exact hPX.elim
      · obtain ⟨ef9, ev9⟩ := hP
        rw [ef9] at hw
        rw [hFo.r3] at ev9
        subst ev9
        refine W.eq (g2 := F0 m 53 ls [.int (num rx), .int 4, .ref le]) rfl ?_
        refine lv_aload hx hb dL_take_53 (lv_at hl9 6 rfl) ?_
        refine lv_iload hx hb dL_take_55 (lv_at hl9 1 rfl) ?_
        refine lv_bipush (v := 6) hx hb dL_take_57 (by decide) ?_
        refine lv_iadd hx hb dL_take_59 ?_
        refine hp_c (v := 6) (by decide) ?_
        refine hp_iald B0 hw k_le (by unfold vp_in; decide) dL_take_60 ?_
        refine hp_c (v := (nI xx)) (hxx) ?_
        refine hp_S (As := [.int (nI xx)]) (rest := [.int (num rx), .int 4, .ref le]) B0 hw hS (c_L_number hl G f xx (by omega)) mS_L_number qM_L_83 rfl rfl hl9.1 (Nat.le_of_ble_eq_true rfl) ⟨⟨Nat.le_of_ble_eq_true rfl, Nat.le_of_ble_eq_true rfl⟩, Nat.le_of_ble_eq_true rfl, Nat.le_of_ble_eq_true rfl⟩ dL_take_61 (fun E ce q9 f49 H locs hPX hw hS hce hcv hcl => ?_) (fun v f49 H locs hP hw hS => ?_)
        · exact hPX.elim
        · obtain ⟨ef9, ev9⟩ := hP
          rw [ef9] at hw
          rw [← hxx] at ev9
          subst ev9
          refine W.eq (g2 := F0 m 64 ls [.int (num ix), .int (num rx), .int 4, .ref le]) rfl ?_
          refine lv_icmp_ne (tgt := 71) hx hb dL_take_64 (by decide) (fun c50 => ?_) (fun c50 => ?_)
          · refine lv_iconst (v := 0) hx hb dL_take_71 (by decide) ?_
            refine hp_iast B0 hw hS k_le (by unfold vp_in; decide) dL_take_72 (fun H locs f51 ef51 hw hS => ?_)
            rw [show (upd (jE (e8r st li sr tm lp mi ix (nI L.length)) F) (4 : Int32).toNatClampNeg 0 : Nat → Int32) = (jE (e8r st li sr tm 0 mi ix (nI L.length)) F) from (by rw [show (4 : Int32).toNatClampNeg = 4 from rfl, jE_u0 (by omega), e8_u4])] at ef51
            have h52 : f51 le = some (.inl (cI G, 16, .inl (jE (e8r st li sr tm 0 mi ix (nI L.length)) F))) := by rw [ef51, va_up_self]
            refine lv_aload hx hb dL_take_73 (lv_at hl9 6 rfl) ?_
            refine lv_iload hx hb dL_take_75 (lv_at hl9 1 rfl) ?_
            refine lv_iconst (v := 4) hx hb dL_take_77 (by decide) ?_
            refine lv_iadd hx hb dL_take_78 ?_
            refine hp_c (v := 4) (by decide) ?_
            refine hp_iald B0 hw h52 (by unfold vp_in; decide) dL_take_79 ?_
            refine hp_c (v := 0) (rfl) ?_
            refine lv_iconst (v := 1) hx hb dL_take_80 (by decide) ?_
            refine lv_icmp_ne (tgt := 85) hx hb dL_take_81 (by decide) (fun _ => ?_) (fun c9 => absurd c9 (by decide))
            refine lv_aload hx hb dL_take_85 (lv_at hl9 6 rfl) ?_
            refine lv_iload hx hb dL_take_87 (lv_at hl9 1 rfl) ?_
            refine hp_iald B0 hw h52 (by unfold vp_in; decide) dL_take_89 ?_
            refine hp_c (v := st) (rfl) ?_
            refine lv_if_ne (tgt := 105) hx hb dL_take_90 (by decide) (fun c53 => ?_) (fun c53 => ?_)
            · refine lv_aload hx hb dL_take_105 (lv_at hl9 6 rfl) ?_
              refine lv_iload hx hb dL_take_107 (lv_at hl9 1 rfl) ?_
              refine hp_iald B0 hw h52 (by unfold vp_in; decide) dL_take_109 ?_
              refine hp_c (v := st) (rfl) ?_
              refine lv_iconst (v := 4) hx hb dL_take_110 (by decide) ?_
              refine lv_icmp_ne (tgt := 134) hx hb dL_take_111 (by decide) (fun c54 => ?_) (fun c54 => ?_)
              · refine lv_lload_n hx hb dL_take_134 rfl (lv_at hl9 2 rfl) ?_
                refine lv_aload_n hx hb dL_take_135 rfl (lv_at hl9 3 rfl) ?_
                refine lv_aload_n hx hb dL_take_136 rfl (lv_at hl9 4 rfl) ?_
                refine lv_aload hx hb dL_take_137 (lv_at hl9 6 rfl) ?_
                refine lv_iload hx hb dL_take_139 (lv_at hl9 7 rfl) ?_
                have h55 : f51 lf = some (.inl (cJ G, 64, .inr (.inl xs))) := by rw [ef51, va_up_ne _ _ (hneL k_lf k_le (Nat.ne_of_beq_eq_false rfl))]; exact k_lf
                have h56 : f51 la = some (.inl (cI G, 12, .inl (j6r ga g2))) := by rw [ef51, va_up_ne _ _ (hneL k_la k_le (Nat.ne_of_beq_eq_false rfl))]; exact k_la
                refine hp_S (As := [.long (lN (pkN (rk, ri, rx, rv))), .ref lf, .ref la, .ref le, .int 0]) (rest := []) B0 hw hS (c_L_answer_0 hl G f51 lf la le st li sr tm 0 mi ix gq L F ga g2 b (SOK.lp (l := 0) hSo (Or.inl rfl)) hbo rk ri rx rv hFo hga c53 xs hX (Nat.lt_of_lt_of_le hn2 (by decide)) h55 h56 h52) mS_L_answer qM_L_90 rfl rfl hl9.1 (Nat.le_of_ble_eq_true rfl) ⟨⟨Nat.le_of_ble_eq_true rfl, Nat.le_of_ble_eq_true rfl⟩, Nat.le_of_ble_eq_true rfl, Nat.le_of_ble_eq_true rfl⟩ dL_take_141 (fun E ce q9 f57 H locs hPX hw hS hce hcv hcl => ?_) (fun v f57 H locs hP hw hS => ?_)
                · exact hPX.elim
                · obtain ⟨ev9, ⟨xs58, h59, hX60⟩, h61, k62⟩ := hP
                  subst ev9
                  refine W.eq (g2 := F0 m 144 ls []) rfl ?_
                  refine lv_goto (tgt := 268) hx hb dL_take_144 (by decide) ?_
                  have h63 : f51 lq = some (.inl (cI G, 12, .inl (j6r gq h2))) := by rw [ef51, va_up_ne _ _ (hneL k_lq k_le (Nat.ne_of_beq_eq_false rfl))]; exact k_lq
                  have h64 : f57 lq = some (.inl (cI G, 12, .inl (j6r gq h2))) := (hEq.k k62) _ _ h63 (ninc (hneL k_lq k_lf (Nat.ne_of_beq_eq_false rfl)) (ninc (hneL k_lq k_le (Nat.ne_of_beq_eq_false rfl)) nin0))
                  have hA : hearF ga (rk, ri, rx, rv) (st, li, sr, tm, lp, mi, ix, gq, L) = ansS ga (rk, ri, rx, rv) (st, li, sr, tm, 0, mi, ix, gq, L) := (((if_pos c2).trans (if_neg c50)).trans (if_neg c53)).trans (if_neg c54)
                  exact hp_vret B0 hw hS hr ⟨Nat.le_of_ble_eq_true rfl, Nat.le_of_ble_eq_true rfl⟩ dL_take_268 (⟨rfl, ⟨_, h59, (by rw [hA]; exact hX60)⟩, (by rw [hA]; exact h64), (by rw [hA]; exact h61), ((show hEq [lf, lq, le] f f51 from (by rw [ef51]; exact hEq.up (List.mem_cons_of_mem _ (List.mem_cons_of_mem _ List.mem_cons_self)))).tr (show hEq [lf, lq, le] f51 f57 from (hEq.mono k62 (sub_cons List.mem_cons_self (sub_cons (List.mem_cons_of_mem _ (List.mem_cons_of_mem _ List.mem_cons_self)) sub_nil)))))⟩)
              · refine lv_aload hx hb dL_take_114 (lv_at hl9 6 rfl) ?_
                refine lv_iload hx hb dL_take_116 (lv_at hl9 1 rfl) ?_
                refine lv_iconst (v := 1) hx hb dL_take_118 (by decide) ?_
                refine hp_iast B0 hw hS h52 (by unfold vp_in; decide) dL_take_119 (fun H locs f65 ef65 hw hS => ?_)
                rw [show (upd (jE (e8r st li sr tm 0 mi ix (nI L.length)) F) (0 : Int32).toNatClampNeg 1 : Nat → Int32) = (jE (e8r 1 li sr tm 0 mi ix (nI L.length)) F) from (by rw [show (0 : Int32).toNatClampNeg = 0 from rfl, jE_u0 (by omega), e8_u0])] at ef65
                have e66 : f65 = va_up f le (some (.inl (cI G, 16, .inl (jE (e8r 1 li sr tm 0 mi ix (nI L.length)) F)))) := by rw [ef65, ef51, bx_uu]
                have h67 : f65 le = some (.inl (cI G, 16, .inl (jE (e8r 1 li sr tm 0 mi ix (nI L.length)) F))) := by rw [ef65, va_up_self]
                refine lv_aload_n hx hb dL_take_120 rfl (lv_at hl9 3 rfl) ?_
                refine lv_aload hx hb dL_take_121 (lv_at hl9 5 rfl) ?_
                refine lv_aload hx hb dL_take_123 (lv_at hl9 6 rfl) ?_
                refine lv_iload hx hb dL_take_125 (lv_at hl9 7 rfl) ?_
                have h68 : f65 lf = some (.inl (cJ G, 64, .inr (.inl xs))) := by rw [e66, va_up_ne _ _ (hneL k_lf k_le (Nat.ne_of_beq_eq_false rfl))]; exact k_lf
                have h69 : f65 lq = some (.inl (cI G, 12, .inl (j6r gq h2))) := by rw [e66, va_up_ne _ _ (hneL k_lq k_le (Nat.ne_of_beq_eq_false rfl))]; exact k_lq
                refine hp_S (As := [.ref lf, .ref lq, .ref le, .int 0]) (rest := []) B0 hw hS (c_L_beg_0 hl G f65 lf lq le 1 li sr tm 0 mi ix gq L F h2 b (SOK.st1 (SOK.lp (l := 0) hSo (Or.inl rfl))) hbo xs hX (Nat.lt_of_lt_of_le hn2 (by decide)) h68 h69 h67) mS_L_beg qM_L_86 rfl rfl hl9.1 (Nat.le_of_ble_eq_true rfl) ⟨⟨Nat.le_of_ble_eq_true rfl, Nat.le_of_ble_eq_true rfl⟩, Nat.le_of_ble_eq_true rfl, Nat.le_of_ble_eq_true rfl⟩ dL_take_127 (fun E ce q9 f70 H locs hPX hw hS hce hcv hcl => ?_) (fun v f70 H locs hP hw hS => ?_)
                · exact hPX.elim
                · obtain ⟨ev9, ⟨xs71, h72, hX73⟩, h74, k75⟩ := hP
                  by_cases c76 : sr < 10
                  · rw [show begV (1, li, sr, tm, 0, mi, ix, gq, L) = 1 from if_pos c76] at ev9
                    subst ev9
                    rw [show begS (1, li, sr, tm, 0, mi, ix, gq, L) = (1, (li + 1), (sr + 1), 3, 0, mi, ix, gq, (L ++ [(0, li + 1, ix, gq)])) from if_pos c76] at hX73 h74
                    have h74 : f70 le = some (.inl (cI G, 16, .inl (jE (e8r 1 (li + 1) (sr + 1) 3 0 mi ix (nI (L ++ [(0, li + 1, ix, gq)]).length)) F))) := h74
                    refine W.eq (g2 := F0 m 130 ls [.int 1]) rfl ?_
                    refine lv_if_ne (tgt := 134) hx hb dL_take_130 (by decide) (fun _ => ?_) (fun c9 => absurd c9 (by decide))
                    refine lv_lload_n hx hb dL_take_134 rfl (lv_at hl9 2 rfl) ?_
                    refine lv_aload_n hx hb dL_take_135 rfl (lv_at hl9 3 rfl) ?_
                    refine lv_aload_n hx hb dL_take_136 rfl (lv_at hl9 4 rfl) ?_
                    refine lv_aload hx hb dL_take_137 (lv_at hl9 6 rfl) ?_
                    refine lv_iload hx hb dL_take_139 (lv_at hl9 7 rfl) ?_
                    have h77 : f65 la = some (.inl (cI G, 12, .inl (j6r ga g2))) := by rw [e66, va_up_ne _ _ (hneL k_la k_le (Nat.ne_of_beq_eq_false rfl))]; exact k_la
                    have h78 : f70 la = some (.inl (cI G, 12, .inl (j6r ga g2))) := (hEq.k k75) _ _ h77 (ninc (hneL k_la k_lf (Nat.ne_of_beq_eq_false rfl)) (ninc (hneL k_la k_le (Nat.ne_of_beq_eq_false rfl)) nin0))
                    refine hp_S (As := [.long (lN (pkN (rk, ri, rx, rv))), .ref lf, .ref la, .ref le, .int 0]) (rest := []) B0 hw hS (c_L_answer_0 hl G f70 lf la le 1 (li + 1) (sr + 1) 3 0 mi ix gq (L ++ [(0, li + 1, ix, gq)]) F ga g2 (b + 1) (by rw [← show begS (1, li, sr, tm, 0, mi, ix, gq, L) = (1, (li + 1), (sr + 1), 3, 0, mi, ix, gq, (L ++ [(0, li + 1, ix, gq)])) from if_pos c76]; exact SOK.beg (SOK.st1 (SOK.lp (l := 0) hSo (Or.inl rfl))) hbo) hb2 rk ri rx rv (hFo.mono (by omega)) hga (by decide) xs71 hX73 (by rw [List.length_append]; show L.length + 1 < 64; omega) h72 h78 h74) mS_L_answer qM_L_90 rfl rfl hl9.1 (Nat.le_of_ble_eq_true rfl) ⟨⟨Nat.le_of_ble_eq_true rfl, Nat.le_of_ble_eq_true rfl⟩, Nat.le_of_ble_eq_true rfl, Nat.le_of_ble_eq_true rfl⟩ dL_take_141 (fun E ce q9 f79 H locs hPX hw hS hce hcv hcl => ?_) (fun v f79 H locs hP hw hS => ?_)
                    · exact hPX.elim
                    · obtain ⟨ev9, ⟨xs80, h81, hX82⟩, h83, k84⟩ := hP
                      subst ev9
                      refine W.eq (g2 := F0 m 144 ls []) rfl ?_
                      refine lv_goto (tgt := 268) hx hb dL_take_144 (by decide) ?_
                      have h85 : f70 lq = some (.inl (cI G, 12, .inl (j6r gq h2))) := (hEq.k k75) _ _ h69 (ninc (hneL k_lq k_lf (Nat.ne_of_beq_eq_false rfl)) (ninc (hneL k_lq k_le (Nat.ne_of_beq_eq_false rfl)) nin0))
                      have h86 : f79 lq = some (.inl (cI G, 12, .inl (j6r gq h2))) := (hEq.k k84) _ _ h85 (ninc (hneL k_lq k_lf (Nat.ne_of_beq_eq_false rfl)) (ninc (hneL k_lq k_le (Nat.ne_of_beq_eq_false rfl)) nin0))
                      have hA : hearF ga (rk, ri, rx, rv) (st, li, sr, tm, lp, mi, ix, gq, L) = ansS ga (rk, ri, rx, rv) (1, (li + 1), (sr + 1), 3, 0, mi, ix, gq, (L ++ [(0, li + 1, ix, gq)])) := (((((if_pos c2).trans (if_neg c50)).trans (if_neg c53)).trans (if_pos c54)).trans (if_pos c76)).trans (by rw [show begS (lpS (st, li, sr, tm, lp, mi, ix, gq, L) 0) = _ from if_pos c76]; try rfl)
                      exact hp_vret B0 hw hS hr ⟨Nat.le_of_ble_eq_true rfl, Nat.le_of_ble_eq_true rfl⟩ dL_take_268 (⟨rfl, ⟨_, h81, (by rw [hA]; exact hX82)⟩, (by rw [hA]; exact h86), (by rw [hA]; exact h83), ((show hEq [lf, lq, le] f f65 from (by rw [e66]; exact hEq.up (List.mem_cons_of_mem _ (List.mem_cons_of_mem _ List.mem_cons_self)))).tr ((show hEq [lf, lq, le] f65 f70 from (hEq.mono k75 (sub_cons List.mem_cons_self (sub_cons (List.mem_cons_of_mem _ (List.mem_cons_of_mem _ List.mem_cons_self)) sub_nil)))).tr (show hEq [lf, lq, le] f70 f79 from (hEq.mono k84 (sub_cons List.mem_cons_self (sub_cons (List.mem_cons_of_mem _ (List.mem_cons_of_mem _ List.mem_cons_self)) sub_nil))))))⟩)
                  · rw [show begV (1, li, sr, tm, 0, mi, ix, gq, L) = 0 from if_neg c76] at ev9
                    subst ev9
                    rw [show begS (1, li, sr, tm, 0, mi, ix, gq, L) = (0, li, sr, tm, 0, mi, ix, gq, L) from if_neg c76] at hX73 h74
                    have h74 : f70 le = some (.inl (cI G, 16, .inl (jE (e8r 0 li sr tm 0 mi ix (nI L.length)) F))) := h74
                    refine W.eq (g2 := F0 m 130 ls [.int 0]) rfl ?_
                    refine lv_if_ne (tgt := 134) hx hb dL_take_130 (by decide) (fun c9 => absurd (by decide) c9) (fun _ => ?_)
                    have h87 : f70 lq = some (.inl (cI G, 12, .inl (j6r gq h2))) := (hEq.k k75) _ _ h69 (ninc (hneL k_lq k_lf (Nat.ne_of_beq_eq_false rfl)) (ninc (hneL k_lq k_le (Nat.ne_of_beq_eq_false rfl)) nin0))
                    have hA : hearF ga (rk, ri, rx, rv) (st, li, sr, tm, lp, mi, ix, gq, L) = (0, li, sr, tm, 0, mi, ix, gq, L) := ((((if_pos c2).trans (if_neg c50)).trans (if_neg c53)).trans (if_pos c54)).trans (if_neg c76)
                    exact hp_vret B0 hw hS hr ⟨Nat.le_of_ble_eq_true rfl, Nat.le_of_ble_eq_true rfl⟩ dL_take_133 (⟨rfl, ⟨_, h72, (by rw [hA]; exact hX73)⟩, (by rw [hA]; exact h87), (by rw [hA]; exact h74), ((show hEq [lf, lq, le] f f65 from (by rw [e66]; exact hEq.up (List.mem_cons_of_mem _ (List.mem_cons_of_mem _ List.mem_cons_self)))).tr (show hEq [lf, lq, le] f65 f70 from (hEq.mono k75 (sub_cons List.mem_cons_self (sub_cons (List.mem_cons_of_mem _ (List.mem_cons_of_mem _ List.mem_cons_self)) sub_nil)))))⟩)
            · refine lv_aload_n hx hb dL_take_93 rfl (lv_at hl9 3 rfl) ?_
              refine lv_aload hx hb dL_take_94 (lv_at hl9 6 rfl) ?_
              refine lv_iload hx hb dL_take_96 (lv_at hl9 7 rfl) ?_
              refine lv_iconst (v := 4) hx hb dL_take_98 (by decide) ?_
              refine lv_iconst (v := 0) hx hb dL_take_99 (by decide) ?_
              refine lv_lconst (v := lN 0) hx hb dL_take_100 rfl ?_
              have h88 : f51 lf = some (.inl (cJ G, 64, .inr (.inl xs))) := by rw [ef51, va_up_ne _ _ (hneL k_lf k_le (Nat.ne_of_beq_eq_false rfl))]; exact k_lf
              refine hp_S (As := [.ref lf, .ref le, .int 0, .int 4, .int 0, .long (lN 0)]) (rest := []) B0 hw hS (c_L_post_0 hl G f51 lf le xs (jE (e8r st li sr tm 0 mi ix (nI L.length)) F) h88 h52 4 0 0 xx L.length (by omega) (by omega) (show (jE (e8r st li sr tm 0 mi ix (nI L.length)) F) 6 = nI xx from hxx) (by omega) (show (jE (e8r st li sr tm 0 mi ix (nI L.length)) F) 7 = nI L.length from rfl) (by omega)) mS_L_post qM_L_73 rfl rfl hl9.1 (Nat.le_of_ble_eq_true rfl) ⟨⟨Nat.le_of_ble_eq_true rfl, Nat.le_of_ble_eq_true rfl⟩, Nat.le_of_ble_eq_true rfl, Nat.le_of_ble_eq_true rfl⟩ dL_take_101 (fun E ce q9 f89 H locs hPX hw hS hce hcv hcl => ?_) (fun v f89 H locs hP hw hS => ?_)
              · exact hPX.elim
              · obtain ⟨ev9, h90, h91, k92⟩ := hP
                subst ev9
                rw [show (upd (jE (e8r st li sr tm 0 mi ix (nI L.length)) F) 7 (nI (L.length + 1)) : Nat → Int32) = (jE (e8r st li sr tm 0 mi ix (nI (L.length + 1))) F) from (by rw [jE_u0 (by omega), e8_u7])] at h91
                refine W.eq (g2 := F0 m 104 ls []) rfl ?_
                have h93 : f51 lq = some (.inl (cI G, 12, .inl (j6r gq h2))) := by rw [ef51, va_up_ne _ _ (hneL k_lq k_le (Nat.ne_of_beq_eq_false rfl))]; exact k_lq
                have h94 : f89 lq = some (.inl (cI G, 12, .inl (j6r gq h2))) := (hEq.k k92) _ _ h93 (ninc (hneL k_lq k_lf (Nat.ne_of_beq_eq_false rfl)) (ninc (hneL k_lq k_le (Nat.ne_of_beq_eq_false rfl)) nin0))
                have hpk := stop_pk hxx hx4
                rw [hpk] at h90
                have hA : hearF ga (rk, ri, rx, rv) (st, li, sr, tm, lp, mi, ix, gq, L) = (st, li, sr, tm, 0, mi, ix, gq, L ++ [(4, 0, ix, N6)]) := ((if_pos c2).trans (if_neg c50)).trans (if_pos c53)
                exact hp_vret B0 hw hS hr ⟨Nat.le_of_ble_eq_true rfl, Nat.le_of_ble_eq_true rfl⟩ dL_take_104 (⟨rfl, ⟨_, h90, (by rw [hA]; exact (hX.app _ rfl))⟩, (by rw [hA]; exact h94), (by rw [hA]; exact (by rw [← eS_app (gq := gq)]; exact h91)), ((show hEq [lf, lq, le] f f51 from (by rw [ef51]; exact hEq.up (List.mem_cons_of_mem _ (List.mem_cons_of_mem _ List.mem_cons_self)))).tr (show hEq [lf, lq, le] f51 f89 from (hEq.mono k92 (sub_cons List.mem_cons_self (sub_cons (List.mem_cons_of_mem _ (List.mem_cons_of_mem _ List.mem_cons_self)) sub_nil)))))⟩)
          · refine lv_iconst (v := 1) hx hb dL_take_67 (by decide) ?_
            refine lv_goto (tgt := 72) hx hb dL_take_68 (by decide) ?_
            refine hp_iast B0 hw hS k_le (by unfold vp_in; decide) dL_take_72 (fun H locs f95 ef95 hw hS => ?_)
            rw [show (upd (jE (e8r st li sr tm lp mi ix (nI L.length)) F) (4 : Int32).toNatClampNeg 1 : Nat → Int32) = (jE (e8r st li sr tm 1 mi ix (nI L.length)) F) from (by rw [show (4 : Int32).toNatClampNeg = 4 from rfl, jE_u0 (by omega), e8_u4])] at ef95
            have h96 : f95 le = some (.inl (cI G, 16, .inl (jE (e8r st li sr tm 1 mi ix (nI L.length)) F))) := by rw [ef95, va_up_self]
            refine lv_aload hx hb dL_take_73 (lv_at hl9 6 rfl) ?_
            refine lv_iload hx hb dL_take_75 (lv_at hl9 1 rfl) ?_
            refine lv_iconst (v := 4) hx hb dL_take_77 (by decide) ?_
            refine lv_iadd hx hb dL_take_78 ?_
            refine hp_c (v := 4) (by decide) ?_
            refine hp_iald B0 hw h96 (by unfold vp_in; decide) dL_take_79 ?_
            refine hp_c (v := 1) (rfl) ?_
            refine lv_iconst (v := 1) hx hb dL_take_80 (by decide) ?_
            refine lv_icmp_ne (tgt := 85) hx hb dL_take_81 (by decide) (fun c9 => absurd (by decide) c9) (fun _ => ?_)
            have h97 : f95 lf = some (.inl (cJ G, 64, .inr (.inl xs))) := by rw [ef95, va_up_ne _ _ (hneL k_lf k_le (Nat.ne_of_beq_eq_false rfl))]; exact k_lf
            have h98 : f95 lq = some (.inl (cI G, 12, .inl (j6r gq h2))) := by rw [ef95, va_up_ne _ _ (hneL k_lq k_le (Nat.ne_of_beq_eq_false rfl))]; exact k_lq
            have hA : hearF ga (rk, ri, rx, rv) (st, li, sr, tm, lp, mi, ix, gq, L) = (st, li, sr, tm, 1, mi, ix, gq, L) := (if_pos c2).trans (if_pos c50)
            exact hp_vret B0 hw hS hr ⟨Nat.le_of_ble_eq_true rfl, Nat.le_of_ble_eq_true rfl⟩ dL_take_84 (⟨rfl, ⟨_, h97, (by rw [hA]; exact hX)⟩, (by rw [hA]; exact h98), (by rw [hA]; exact h96), (show hEq [lf, lq, le] f f95 from (by rw [ef95]; exact hEq.up (List.mem_cons_of_mem _ (List.mem_cons_of_mem _ List.mem_cons_self))))⟩)
  · refine lv_aload hx hb dL_take_21 (lv_at hl9 6 rfl) ?_
    refine lv_iload hx hb dL_take_23 (lv_at hl9 1 rfl) ?_
    refine lv_iconst (v := 0) hx hb dL_take_25 (by decide) ?_
    refine hp_iast B0 hw hS k_le (by unfold vp_in; decide) dL_take_26 (fun H locs f99 ef99 hw hS => ?_)
    rw [show (upd (jE (e8r st li sr tm lp mi ix (nI L.length)) F) (0 : Int32).toNatClampNeg 0 : Nat → Int32) = (jE (e8r 0 li sr tm lp mi ix (nI L.length)) F) from (by rw [show (0 : Int32).toNatClampNeg = 0 from rfl, jE_u0 (by omega), e8_u0])] at ef99
    have h100 : f99 le = some (.inl (cI G, 16, .inl (jE (e8r 0 li sr tm lp mi ix (nI L.length)) F))) := by rw [ef99, va_up_self]
    refine lv_goto (tgt := 268) hx hb dL_take_27 (by decide) ?_
    have h101 : f99 lf = some (.inl (cJ G, 64, .inr (.inl xs))) := by rw [ef99, va_up_ne _ _ (hneL k_lf k_le (Nat.ne_of_beq_eq_false rfl))]; exact k_lf
    have h102 : f99 lq = some (.inl (cI G, 12, .inl (j6r gq h2))) := by rw [ef99, va_up_ne _ _ (hneL k_lq k_le (Nat.ne_of_beq_eq_false rfl))]; exact k_lq
    have hA : hearF ga (rk, ri, rx, rv) (st, li, sr, tm, lp, mi, ix, gq, L) = (0, li, sr, tm, lp, mi, ix, gq, L) := (if_neg (show ¬ rk = 0 from by rw [c1]; decide)).trans (if_pos c1)
    exact hp_vret B0 hw hS hr ⟨Nat.le_of_ble_eq_true rfl, Nat.le_of_ble_eq_true rfl⟩ dL_take_268 (⟨rfl, ⟨_, h101, (by rw [hA]; exact hX)⟩, (by rw [hA]; exact h102), (by rw [hA]; exact h100), (show hEq [lf, lq, le] f f99 from (by rw [ef99]; exact hEq.up (List.mem_cons_of_mem _ (List.mem_cons_of_mem _ List.mem_cons_self))))⟩)

set_option maxHeartbeats 4000000 in
set_option maxRecDepth 100000 in
theorem c_L_take_1 {l : Launch} (hl : l.stackTraces = false) (G : hG) (f : hM) (lf la lq le : Nat) (st li sr tm lp mi ix : Int32) (gq : Nat → Int32) (L : List Fr) (F ga g2 h2 : Nat → Int32) (b : Nat) (hSo : SOK b (st, li, sr, tm, lp, mi, ix, gq, L)) (hb2 : b + 1 ≤ 1000000) (rk ri rx : Int32) (rv : Nat → Int32) (hFo : FOK b (rk, ri, rx, rv)) (hga : ∀ j, j < 6 → AOK (ga j)) (haq : la ≠ lq) (xs : Nat → Int64) (hX : XS xs L) (hn2 : L.length < 60) (k_lf : f lf = some (.inl (cJ G, 64, .inr (.inl xs)))) (k_la : f la = some (.inl (cI G, 12, .inl (j6r g2 ga)))) (k_lq : f lq = some (.inl (cI G, 12, .inl (j6r h2 gq)))) (k_le : f le = some (.inl (cI G, 16, .inl (jE F (e8r st li sr tm lp mi ix (nI L.length)))))) : CT l yL_take (.code yL_take cL_take 11 none) 2 61 0 0 G [.long (lN (pkN (rk, ri, rx, rv))), .ref lf, .ref la, .ref lq, .ref le, .int 1] f (fun v f1 => v = none ∧ (∃ xs1 : Nat → Int64, f1 lf = some (.inl (cJ G, 64, .inr (.inl xs1))) ∧ XS xs1 (hearF ga (rk, ri, rx, rv) (st, li, sr, tm, lp, mi, ix, gq, L)).2.2.2.2.2.2.2.2) ∧ f1 lq = some (.inl (cI G, 12, .inl (j6r h2 ((hearF ga (rk, ri, rx, rv) (st, li, sr, tm, lp, mi, ix, gq, L)).2.2.2.2.2.2.2.1)))) ∧ f1 le = some (.inl (cI G, 16, .inl (jE F (eSt (hearF ga (rk, ri, rx, rv) (st, li, sr, tm, lp, mi, ix, gq, L)))))) ∧ hEq [lf, lq, le] f f1) (fun E f1 => False) := by
  refine hp_start hl (own := RL) (by decide) rfl (Nat.le_of_ble_eq_true rfl) ?_
  intro p e s m args below meth c B0 hr hnm hout hw hS ls hl9
  have hx := B0.1
  have hb := B0.2.1
  have hl9 : lv_has ls 11 [(0, .long (lN (pkN (rk, ri, rx, rv)))), (2, .ref lf), (3, .ref la), (4, .ref lq), (5, .ref le), (6, .int 1)] := hl9
  have hbo : b ≤ 1000000 := by omega
  obtain ⟨⟨s9, hs9, hs4⟩, ⟨mm, hm, hmb⟩, ⟨q, hq, hq10⟩, hlp, ⟨xx, hxx, hx4⟩, hgq, hfr⟩ := id hSo
  have hs9 : st = nI s9 := hs9
  have hm : li + 1 = nI mm := hm
  have hq : sr = nI q := hq
  have hlp : lp = 0 ∨ lp = 1 := hlp
  have hxx : ix = nI xx := hxx
  have hgq : ∀ j, j < 6 → VOK (gq j) := hgq
  have hfr : ∀ r ∈ L, FOK b r := hfr
  have hvo : ∀ j, j < 6 → VOK (rv j) := hFo.2.2.2
  have hrx := (hFo.n hbo).2.2.1
  refine lv_bipush (v := 8) hx hb dL_take_0 (by decide) ?_
  refine lv_iload hx hb dL_take_2 (lv_at hl9 5 rfl) ?_
  refine lv_imul hx hb dL_take_4 ?_
  refine hp_c (v := 8) (by decide) ?_
  refine lv_istore (lv' := [(7, .int 8), (0, .long (lN (pkN (rk, ri, rx, rv)))), (2, .ref lf), (3, .ref la), (4, .ref lq), (5, .ref le), (6, .int 1)]) hx hb dL_take_5 hl9 (by decide) rfl (fun ls hl9 => ?_)
  refine lv_lload_n hx hb dL_take_7 rfl (lv_at hl9 1 rfl) ?_
  refine lv_ldc2 (v := 7) hx hb B0.2.2.2.1 (B0.2.2.2.2.1 _ qK_L_81) dL_take_8 ?_
  refine hp_cl (v := lN 7) rfl ?_
  refine lv_land hx hb dL_take_11 ?_
  refine hp_cl (v := (lN ((pkN (rk, ri, rx, rv)) % 8))) (g_mask (s := 3) (p := 8) rfl (by omega) (by first | exact pkN_lt hFo hbo | exact Nat.lt_trans (pkN_lt hFo hbo) (by decide) | exact Nat.lt_of_le_of_lt (Nat.div_le_self _ _) (Nat.lt_trans (pkN_lt hFo hbo) (by decide)))) ?_
  refine lv_l2i (v := (nI ((pkN (rk, ri, rx, rv)) % 8))) hx hb dL_take_12 (lN_i _) ?_
  refine hp_c (v := rk) (by rw [pkN_k hFo hbo]; exact hFo.r1) ?_
  refine lv_istore (lv' := [(8, .int rk), (7, .int 8), (0, .long (lN (pkN (rk, ri, rx, rv)))), (2, .ref lf), (3, .ref la), (4, .ref lq), (5, .ref le), (6, .int 1)]) hx hb dL_take_13 hl9 (by decide) rfl (fun ls hl9 => ?_)
  refine lv_iload hx hb dL_take_15 (lv_at hl9 0 rfl) ?_
  refine lv_iconst (v := 4) hx hb dL_take_17 (by decide) ?_
  refine lv_icmp_ne (tgt := 30) hx hb dL_take_18 (by decide) (fun c1 => ?_) (fun c1 => ?_)
  · refine lv_iload hx hb dL_take_30 (lv_at hl9 0 rfl) ?_
    refine lv_if_ne (tgt := 147) hx hb dL_take_32 (by decide) (fun c2 => ?_) (fun c2 => ?_)
    · refine lv_aload hx hb dL_take_147 (lv_at hl9 6 rfl) ?_
      refine lv_iload hx hb dL_take_149 (lv_at hl9 1 rfl) ?_
      refine hp_iald B0 hw k_le (by unfold vp_in; decide) dL_take_151 ?_
      refine hp_c (v := st) (rfl) ?_
      refine lv_iconst (v := 1) hx hb dL_take_152 (by decide) ?_
      refine lv_icmp_eq (tgt := 165) hx hb dL_take_153 (by decide) (fun c3 => ?_) (fun c3 => ?_)
      · refine lv_lload_n hx hb dL_take_165 rfl (lv_at hl9 2 rfl) ?_
        refine lv_bipush (v := 36) hx hb dL_take_166 (by decide) ?_
        refine lv_lshr (v := (lN ((pkN (rk, ri, rx, rv)) / 68719476736))) hx hb dL_take_168 (shr_n (s := 36) (by first | exact pkN_lt hFo hbo | exact Nat.lt_trans (pkN_lt hFo hbo) (by decide) | exact Nat.lt_of_le_of_lt (Nat.div_le_self _ _) (Nat.lt_trans (pkN_lt hFo hbo) (by decide))) (by omega) rfl) ?_
        refine lv_l2i (v := (nI ((pkN (rk, ri, rx, rv)) / 68719476736))) hx hb dL_take_169 (lN_i _) ?_
        refine hp_c (v := ri) (by rw [pkN_i hFo hbo]; exact hFo.r2 hbo) ?_
        refine lv_aload hx hb dL_take_170 (lv_at hl9 6 rfl) ?_
        refine lv_iload hx hb dL_take_172 (lv_at hl9 1 rfl) ?_
        refine lv_iconst (v := 1) hx hb dL_take_174 (by decide) ?_
        refine lv_iadd hx hb dL_take_175 ?_
        refine hp_c (v := 9) (by decide) ?_
        refine hp_iald B0 hw k_le (by unfold vp_in; decide) dL_take_176 ?_
        refine hp_c (v := li) (rfl) ?_
        refine lv_icmp_ne (tgt := 268) hx hb dL_take_177 (by decide) (fun c4 => ?_) (fun c4 => ?_)
        · have hA : hearF ga (rk, ri, rx, rv) (st, li, sr, tm, lp, mi, ix, gq, L) = (st, li, sr, tm, lp, mi, ix, gq, L) := ((if_neg c2).trans (if_neg c1)).trans (if_neg (fun h9 => c4 h9.2))
          exact hp_vret B0 hw hS hr ⟨Nat.le_of_ble_eq_true rfl, Nat.le_of_ble_eq_true rfl⟩ dL_take_268 (⟨rfl, ⟨_, k_lf, (by rw [hA]; exact hX)⟩, (by rw [hA]; exact k_lq), (by rw [hA]; exact k_le), hEq.rf⟩)
        · refine lv_iload hx hb dL_take_180 (lv_at hl9 0 rfl) ?_
          refine lv_iconst (v := 1) hx hb dL_take_182 (by decide) ?_
          refine lv_icmp_ne (tgt := 196) hx hb dL_take_183 (by decide) (fun c5 => ?_) (fun c5 => ?_)
          · refine lv_iconst (v := 0) hx hb dL_take_196 (by decide) ?_
            refine lv_istore (lv' := [(9, .int 0), (8, .int rk), (7, .int 8), (0, .long (lN (pkN (rk, ri, rx, rv)))), (2, .ref lf), (3, .ref la), (4, .ref lq), (5, .ref le), (6, .int 1)]) hx hb dL_take_197 hl9 (by decide) rfl (fun ls hl9 => ?_)
            refine hp_for (nL := 11) (pc := 199) (fun j f9 lv9 => f9 lq = some (.inl (cI G, 12, .inl (j6r h2 (chgN gq rv rk j)))) ∧ hEq [lq] f f9 ∧ lv9 = [(9, .int (nI j)), (0, .long (lN (pkN (rk, ri, rx, rv)))), (2, .ref lf), (3, .ref la), (4, .ref lq), (5, .ref le), (6, .int 1), (7, .int 8), (8, .int rk)]) 6 (fun j f9 lv9 H locs ls hj hI hw hS hl9 ih => ?_) (fun f9 lv9 H locs ls hI hw hS hl9 => ?_) 6 0 (Nat.zero_add _) f _ _ _ ls ⟨(by rw [chgN_0]; exact k_lq), hEq.rf, rfl⟩ hw hS (lv_sub hl9 [0, 3, 4, 5, 6, 7, 8, 2, 1] rfl)
            · obtain ⟨hq9, hk9, el9⟩ := hI
              rw [el9] at hl9
              refine lv_iload hx hb dL_take_199 (lv_at hl9 0 rfl) ?_
              refine lv_bipush (v := 6) hx hb dL_take_201 (by decide) ?_
              refine lv_icmp_ge (tgt := 257) hx hb dL_take_203 (by decide) (fun c9 => absurd c9 (show ¬ nI 6 ≤ nI j from nI_ge hj (by omega))) (fun _ => ?_)
              refine lv_lload_n hx hb dL_take_206 rfl (lv_at hl9 1 rfl) ?_
              refine lv_iconst (v := 3) hx hb dL_take_207 (by decide) ?_
              refine lv_iconst (v := 4) hx hb dL_take_208 (by decide) ?_
              refine lv_iload hx hb dL_take_209 (lv_at hl9 0 rfl) ?_
              refine lv_imul hx hb dL_take_211 ?_
              refine hp_c (v := (nI (4 * j))) (pk_mul 4 j) ?_
              refine lv_iadd hx hb dL_take_212 ?_
              refine hp_c (v := (nI (3 + 4 * j))) (nI_add 3 (4 * j)) ?_
              refine lv_lshr (v := (lN (pkN (rk, ri, rx, rv) / 2 ^ (3 + 4 * j)))) hx hb dL_take_213 (shr_n (s := 3 + 4 * j) (pkN_lt hFo hbo) (by omega) rfl) ?_
              refine lv_ldc2 (v := 15) hx hb B0.2.2.2.1 (B0.2.2.2.2.1 _ qK_L_79) dL_take_214 ?_
              refine hp_cl (v := lN 15) rfl ?_
              refine lv_land hx hb dL_take_217 ?_
              refine hp_cl (v := (lN ((pkN (rk, ri, rx, rv) / 2 ^ (3 + 4 * j)) % 16))) (g_mask (s := 4) (p := 16) rfl (by omega) (by first | exact pkN_lt hFo hbo | exact Nat.lt_trans (pkN_lt hFo hbo) (by decide) | exact Nat.lt_of_le_of_lt (Nat.div_le_self _ _) (Nat.lt_trans (pkN_lt hFo hbo) (by decide)))) ?_
              refine lv_l2i (v := (nI ((pkN (rk, ri, rx, rv) / 2 ^ (3 + 4 * j)) % 16))) hx hb dL_take_218 (lN_i _) ?_
              refine hp_c (v := (nI (nib (rv j)))) (congrArg nI (pkN_o hFo hbo hj)) ?_
              refine lv_istore (lv' := [(10, .int (nI (nib (rv j)))), (9, .int (nI j)), (0, .long (lN (pkN (rk, ri, rx, rv)))), (2, .ref lf), (3, .ref la), (4, .ref lq), (5, .ref le), (6, .int 1), (7, .int 8), (8, .int rk)]) hx hb dL_take_219 hl9 (by decide) rfl (fun ls hl9 => ?_)
              refine lv_iload hx hb dL_take_221 (lv_at hl9 0 rfl) ?_
              refine lv_if_le (tgt := 251) hx hb dL_take_223 (by decide) (fun c6 => ?_) (fun c6 => ?_)
              · refine lv_iinc (v := (nI (j + 1))) (lv' := [(9, .int (nI (j + 1))), (10, .int (nI (nib (rv j)))), (0, .long (lN (pkN (rk, ri, rx, rv)))), (2, .ref lf), (3, .ref la), (4, .ref lq), (5, .ref le), (6, .int 1), (7, .int 8), (8, .int rk)]) hx hb dL_take_251 hl9 (k := 1) rfl (nI_1 j) (by decide) rfl (fun ls hl9 => ?_)
                refine lv_goto (tgt := 199) hx hb dL_take_254 (by decide) ?_
                exact ih _ _ H locs ls ⟨(by rw [← chgN_k (nib_L0 (hvo j hj) c6)]; exact hq9), (show hEq [lq] f f9 from (hEq.mono hk9 (fun _ h9 => h9))), rfl⟩ hw hS (lv_sub hl9 [0, 2, 3, 4, 5, 6, 7, 8, 9] rfl)
              · refine lv_aload hx hb dL_take_226 (lv_at hl9 5 rfl) ?_
                refine lv_bipush (v := 6) hx hb dL_take_228 (by decide) ?_
                refine lv_iload hx hb dL_take_230 (lv_at hl9 7 rfl) ?_
                refine lv_imul hx hb dL_take_232 ?_
                refine hp_c (v := 6) (by decide) ?_
                refine lv_iload hx hb dL_take_233 (lv_at hl9 1 rfl) ?_
                refine lv_iadd hx hb dL_take_235 ?_
                refine hp_c (v := (nI (6 + j))) (nI_add 6 j) ?_
                refine lv_iload hx hb dL_take_236 (lv_at hl9 9 rfl) ?_
                refine lv_iconst (v := 2) hx hb dL_take_238 (by decide) ?_
                refine lv_icmp_ne (tgt := 249) hx hb dL_take_239 (by decide) (fun c7 => ?_) (fun c7 => ?_)
                · refine lv_iconst (v := (-1)) hx hb dL_take_249 (by decide) ?_
                  refine hp_iast B0 hw hS hq9 (vp_in_nI (show 6 + j < 12 by omega) (by omega)) dL_take_250 (fun H locs f8 ef8 hw hS => ?_)
                  rw [show (upd (j6r h2 (chgN gq rv rk j)) ((nI (6 + j)) : Int32).toNatClampNeg (-1) : Nat → Int32) = (j6r h2 (chgN gq rv rk (j + 1))) from (by rw [nI_clamp (by omega), j6_u1, chgN_s rfl (nib_L1 (hvo j hj) c6) (if_neg c7)])] at ef8
                  have h10 : f8 lq = some (.inl (cI G, 12, .inl (j6r h2 (chgN gq rv rk (j + 1))))) := by rw [ef8, va_up_self]
                  refine lv_iinc (v := (nI (j + 1))) (lv' := [(9, .int (nI (j + 1))), (10, .int (nI (nib (rv j)))), (0, .long (lN (pkN (rk, ri, rx, rv)))), (2, .ref lf), (3, .ref la), (4, .ref lq), (5, .ref le), (6, .int 1), (7, .int 8), (8, .int rk)]) hx hb dL_take_251 hl9 (k := 1) rfl (nI_1 j) (by decide) rfl (fun ls hl9 => ?_)
                  refine lv_goto (tgt := 199) hx hb dL_take_254 (by decide) ?_
                  exact ih _ _ H locs ls ⟨h10, ((show hEq [lq] f f9 from (hEq.mono hk9 (fun _ h9 => h9))).tr (show hEq [lq] f9 f8 from (by rw [ef8]; exact hEq.up List.mem_cons_self))), rfl⟩ hw hS (lv_sub hl9 [0, 2, 3, 4, 5, 6, 7, 8, 9] rfl)
                · refine lv_iload hx hb dL_take_242 (lv_at hl9 0 rfl) ?_
                  refine lv_iconst (v := 1) hx hb dL_take_244 (by decide) ?_
                  refine lv_isub hx hb dL_take_245 ?_
                  refine hp_c (v := (rv j)) (nib_sub (hvo j hj) (nib_L1 (hvo j hj) c6)) ?_
                  refine lv_goto (tgt := 250) hx hb dL_take_246 (by decide) ?_
                  refine hp_iast B0 hw hS hq9 (vp_in_nI (show 6 + j < 12 by omega) (by omega)) dL_take_250 (fun H locs f11 ef11 hw hS => ?_)
                  rw [show (upd (j6r h2 (chgN gq rv rk j)) ((nI (6 + j)) : Int32).toNatClampNeg (rv j) : Nat → Int32) = (j6r h2 (chgN gq rv rk (j + 1))) from (by rw [nI_clamp (by omega), j6_u1, chgN_s rfl (nib_L1 (hvo j hj) c6) (if_pos c7)])] at ef11
                  have h12 : f11 lq = some (.inl (cI G, 12, .inl (j6r h2 (chgN gq rv rk (j + 1))))) := by rw [ef11, va_up_self]
                  refine lv_iinc (v := (nI (j + 1))) (lv' := [(9, .int (nI (j + 1))), (10, .int (nI (nib (rv j)))), (0, .long (lN (pkN (rk, ri, rx, rv)))), (2, .ref lf), (3, .ref la), (4, .ref lq), (5, .ref le), (6, .int 1), (7, .int 8), (8, .int rk)]) hx hb dL_take_251 hl9 (k := 1) rfl (nI_1 j) (by decide) rfl (fun ls hl9 => ?_)
                  refine lv_goto (tgt := 199) hx hb dL_take_254 (by decide) ?_
                  exact ih _ _ H locs ls ⟨h12, ((show hEq [lq] f f9 from (hEq.mono hk9 (fun _ h9 => h9))).tr (show hEq [lq] f9 f11 from (by rw [ef11]; exact hEq.up List.mem_cons_self))), rfl⟩ hw hS (lv_sub hl9 [0, 2, 3, 4, 5, 6, 7, 8, 9] rfl)
            · obtain ⟨hq9, hk9, el9⟩ := hI
              rw [el9] at hl9
              refine lv_iload hx hb dL_take_199 (lv_at hl9 0 rfl) ?_
              refine lv_bipush (v := 6) hx hb dL_take_201 (by decide) ?_
              refine lv_icmp_ge (tgt := 257) hx hb dL_take_203 (by decide) (fun _ => ?_) (fun c9 => absurd (by decide) c9)
              refine lv_aload_n hx hb dL_take_257 rfl (lv_at hl9 2 rfl) ?_
              refine lv_aload hx hb dL_take_258 (lv_at hl9 4 rfl) ?_
              refine lv_aload hx hb dL_take_260 (lv_at hl9 5 rfl) ?_
              refine lv_iload hx hb dL_take_262 (lv_at hl9 6 rfl) ?_
              have h13 : f9 lf = some (.inl (cJ G, 64, .inr (.inl xs))) := (hEq.k hk9) _ _ k_lf (ninc (Ne.symm (hneL k_lq k_lf (Nat.ne_of_beq_eq_false rfl))) nin0)
              have h14 : f9 le = some (.inl (cI G, 16, .inl (jE F (e8r st li sr tm lp mi ix (nI L.length))))) := (hEq.k hk9) _ _ k_le (ninc (Ne.symm (hneL k_lq k_le (Nat.ne_of_beq_eq_false rfl))) nin0)
              refine hp_S (As := [.ref lf, .ref lq, .ref le, .int 1]) (rest := []) B0 hw hS (c_L_beg_1 hl G f9 lf lq le st li sr tm lp mi ix (chgF gq rv rk) L F h2 b (SOK.gq hSo (chgF_ok hgq hvo)) hbo xs hX (Nat.lt_of_lt_of_le hn2 (by decide)) h13 hq9 h14) mS_L_beg qM_L_86 rfl rfl hl9.1 (Nat.le_of_ble_eq_true rfl) ⟨⟨Nat.le_of_ble_eq_true rfl, Nat.le_of_ble_eq_true rfl⟩, Nat.le_of_ble_eq_true rfl, Nat.le_of_ble_eq_true rfl⟩ dL_take_264 (fun E ce q9 f15 H locs hPX hw hS hce hcv hcl => ?_) (fun v f15 H locs hP hw hS => ?_)
              · exact hPX.elim
              · obtain ⟨ev9, ⟨xs16, h17, hX18⟩, h19, k20⟩ := hP
                subst ev9
                refine W.eq (g2 := F0 m 267 ls [.int (begV (st, li, sr, tm, lp, mi, ix, (chgF gq rv rk), L))]) rfl ?_
                refine lv_pop hx hb dL_take_267 rfl ?_
                have h21 : f15 lq = some (.inl (cI G, 12, .inl (j6r h2 (chgN gq rv rk 6)))) := (hEq.k k20) _ _ hq9 (ninc (hneL k_lq k_lf (Nat.ne_of_beq_eq_false rfl)) (ninc (hneL k_lq k_le (Nat.ne_of_beq_eq_false rfl)) nin0))
                have hA : hearF ga (rk, ri, rx, rv) (st, li, sr, tm, lp, mi, ix, gq, L) = begS (st, li, sr, tm, lp, mi, ix, (chgF gq rv rk), L) := (((if_neg c2).trans (if_neg c1)).trans (if_pos ⟨Or.inl c3, c4⟩)).trans (if_neg c5)
                exact hp_vret B0 hw hS hr ⟨Nat.le_of_ble_eq_true rfl, Nat.le_of_ble_eq_true rfl⟩ dL_take_268 (⟨rfl, ⟨_, h17, (by rw [hA]; exact hX18)⟩, (by rw [hA]; exact (by rw [begS_gq]; exact h21)), (by rw [hA]; exact h19), ((show hEq [lf, lq, le] f f9 from (hEq.mono hk9 (sub_cons (List.mem_cons_of_mem _ List.mem_cons_self) sub_nil))).tr (show hEq [lf, lq, le] f9 f15 from (hEq.mono k20 (sub_cons List.mem_cons_self (sub_cons (List.mem_cons_of_mem _ (List.mem_cons_of_mem _ List.mem_cons_self)) sub_nil)))))⟩)
          · refine lv_aload hx hb dL_take_186 (lv_at hl9 6 rfl) ?_
            refine lv_iload hx hb dL_take_188 (lv_at hl9 1 rfl) ?_
            refine lv_dup2_11 hx hb dL_take_190 rfl rfl ?_
            refine hp_iald B0 hw k_le (by unfold vp_in; decide) dL_take_191 ?_
            refine hp_c (v := 1) (c3) ?_
            refine lv_iconst (v := 1) hx hb dL_take_192 (by decide) ?_
            refine lv_iadd hx hb dL_take_193 ?_
            refine hp_c (v := 2) (by decide) ?_
            refine hp_iast B0 hw hS k_le (by unfold vp_in; decide) dL_take_194 (fun H locs f22 ef22 hw hS => ?_)
            rw [show (upd (jE F (e8r st li sr tm lp mi ix (nI L.length))) (8 : Int32).toNatClampNeg 2 : Nat → Int32) = (jE F (e8r 2 li sr tm lp mi ix (nI L.length))) from (by rw [show (8 : Int32).toNatClampNeg = 8 + 0 from rfl, jE_u1, e8_u0])] at ef22
            have h23 : f22 le = some (.inl (cI G, 16, .inl (jE F (e8r 2 li sr tm lp mi ix (nI L.length))))) := by rw [ef22, va_up_self]
            have h24 : f22 lf = some (.inl (cJ G, 64, .inr (.inl xs))) := by rw [ef22, va_up_ne _ _ (hneL k_lf k_le (Nat.ne_of_beq_eq_false rfl))]; exact k_lf
            have h25 : f22 lq = some (.inl (cI G, 12, .inl (j6r h2 gq))) := by rw [ef22, va_up_ne _ _ (hneL k_lq k_le (Nat.ne_of_beq_eq_false rfl))]; exact k_lq
            have hA : hearF ga (rk, ri, rx, rv) (st, li, sr, tm, lp, mi, ix, gq, L) = (2, li, sr, tm, lp, mi, ix, gq, L) := ((((if_neg c2).trans (if_neg c1)).trans (if_pos ⟨Or.inl c3, c4⟩)).trans (if_pos c5)).trans (congrArg (fun z9 => (z9, li, sr, tm, lp, mi, ix, gq, L)) (if_pos c3))
            exact hp_vret B0 hw hS hr ⟨Nat.le_of_ble_eq_true rfl, Nat.le_of_ble_eq_true rfl⟩ dL_take_195 (⟨rfl, ⟨_, h24, (by rw [hA]; exact hX)⟩, (by rw [hA]; exact h25), (by rw [hA]; exact h23), (show hEq [lf, lq, le] f f22 from (by rw [ef22]; exact hEq.up (List.mem_cons_of_mem _ (List.mem_cons_of_mem _ List.mem_cons_self))))⟩)
      · refine lv_aload hx hb dL_take_156 (lv_at hl9 6 rfl) ?_
        refine lv_iload hx hb dL_take_158 (lv_at hl9 1 rfl) ?_
        refine hp_iald B0 hw k_le (by unfold vp_in; decide) dL_take_160 ?_
        refine hp_c (v := st) (rfl) ?_
        refine lv_iconst (v := 3) hx hb dL_take_161 (by decide) ?_
        refine lv_icmp_ne (tgt := 268) hx hb dL_take_162 (by decide) (fun c26 => ?_) (fun c26 => ?_)
        · have hA : hearF ga (rk, ri, rx, rv) (st, li, sr, tm, lp, mi, ix, gq, L) = (st, li, sr, tm, lp, mi, ix, gq, L) := ((if_neg c2).trans (if_neg c1)).trans (if_neg (fun h9 => h9.1.elim c3 c26))
          exact hp_vret B0 hw hS hr ⟨Nat.le_of_ble_eq_true rfl, Nat.le_of_ble_eq_true rfl⟩ dL_take_268 (⟨rfl, ⟨_, k_lf, (by rw [hA]; exact hX)⟩, (by rw [hA]; exact k_lq), (by rw [hA]; exact k_le), hEq.rf⟩)
        · refine lv_lload_n hx hb dL_take_165 rfl (lv_at hl9 2 rfl) ?_
          refine lv_bipush (v := 36) hx hb dL_take_166 (by decide) ?_
          refine lv_lshr (v := (lN ((pkN (rk, ri, rx, rv)) / 68719476736))) hx hb dL_take_168 (shr_n (s := 36) (by first | exact pkN_lt hFo hbo | exact Nat.lt_trans (pkN_lt hFo hbo) (by decide) | exact Nat.lt_of_le_of_lt (Nat.div_le_self _ _) (Nat.lt_trans (pkN_lt hFo hbo) (by decide))) (by omega) rfl) ?_
          refine lv_l2i (v := (nI ((pkN (rk, ri, rx, rv)) / 68719476736))) hx hb dL_take_169 (lN_i _) ?_
          refine hp_c (v := ri) (by rw [pkN_i hFo hbo]; exact hFo.r2 hbo) ?_
          refine lv_aload hx hb dL_take_170 (lv_at hl9 6 rfl) ?_
          refine lv_iload hx hb dL_take_172 (lv_at hl9 1 rfl) ?_
          refine lv_iconst (v := 1) hx hb dL_take_174 (by decide) ?_
          refine lv_iadd hx hb dL_take_175 ?_
          refine hp_c (v := 9) (by decide) ?_
          refine hp_iald B0 hw k_le (by unfold vp_in; decide) dL_take_176 ?_
          refine hp_c (v := li) (rfl) ?_
          refine lv_icmp_ne (tgt := 268) hx hb dL_take_177 (by decide) (fun c27 => ?_) (fun c27 => ?_)
          · have hA : hearF ga (rk, ri, rx, rv) (st, li, sr, tm, lp, mi, ix, gq, L) = (st, li, sr, tm, lp, mi, ix, gq, L) := ((if_neg c2).trans (if_neg c1)).trans (if_neg (fun h9 => c27 h9.2))
            exact hp_vret B0 hw hS hr ⟨Nat.le_of_ble_eq_true rfl, Nat.le_of_ble_eq_true rfl⟩ dL_take_268 (⟨rfl, ⟨_, k_lf, (by rw [hA]; exact hX)⟩, (by rw [hA]; exact k_lq), (by rw [hA]; exact k_le), hEq.rf⟩)
          · refine lv_iload hx hb dL_take_180 (lv_at hl9 0 rfl) ?_
            refine lv_iconst (v := 1) hx hb dL_take_182 (by decide) ?_
            refine lv_icmp_ne (tgt := 196) hx hb dL_take_183 (by decide) (fun c28 => ?_) (fun c28 => ?_)
            · refine lv_iconst (v := 0) hx hb dL_take_196 (by decide) ?_
              refine lv_istore (lv' := [(9, .int 0), (8, .int rk), (7, .int 8), (0, .long (lN (pkN (rk, ri, rx, rv)))), (2, .ref lf), (3, .ref la), (4, .ref lq), (5, .ref le), (6, .int 1)]) hx hb dL_take_197 hl9 (by decide) rfl (fun ls hl9 => ?_)
              refine hp_for (nL := 11) (pc := 199) (fun j f9 lv9 => f9 lq = some (.inl (cI G, 12, .inl (j6r h2 (chgN gq rv rk j)))) ∧ hEq [lq] f f9 ∧ lv9 = [(9, .int (nI j)), (0, .long (lN (pkN (rk, ri, rx, rv)))), (2, .ref lf), (3, .ref la), (4, .ref lq), (5, .ref le), (6, .int 1), (7, .int 8), (8, .int rk)]) 6 (fun j f9 lv9 H locs ls hj hI hw hS hl9 ih => ?_) (fun f9 lv9 H locs ls hI hw hS hl9 => ?_) 6 0 (Nat.zero_add _) f _ _ _ ls ⟨(by rw [chgN_0]; exact k_lq), hEq.rf, rfl⟩ hw hS (lv_sub hl9 [0, 3, 4, 5, 6, 7, 8, 2, 1] rfl)
              · obtain ⟨hq9, hk9, el9⟩ := hI
                rw [el9] at hl9
                refine lv_iload hx hb dL_take_199 (lv_at hl9 0 rfl) ?_
                refine lv_bipush (v := 6) hx hb dL_take_201 (by decide) ?_
                refine lv_icmp_ge (tgt := 257) hx hb dL_take_203 (by decide) (fun c9 => absurd c9 (show ¬ nI 6 ≤ nI j from nI_ge hj (by omega))) (fun _ => ?_)
                refine lv_lload_n hx hb dL_take_206 rfl (lv_at hl9 1 rfl) ?_
                refine lv_iconst (v := 3) hx hb dL_take_207 (by decide) ?_
                refine lv_iconst (v := 4) hx hb dL_take_208 (by decide) ?_
                refine lv_iload hx hb dL_take_209 (lv_at hl9 0 rfl) ?_
                refine lv_imul hx hb dL_take_211 ?_
                refine hp_c (v := (nI (4 * j))) (pk_mul 4 j) ?_
                refine lv_iadd hx hb dL_take_212 ?_
                refine hp_c (v := (nI (3 + 4 * j))) (nI_add 3 (4 * j)) ?_
                refine lv_lshr (v := (lN (pkN (rk, ri, rx, rv) / 2 ^ (3 + 4 * j)))) hx hb dL_take_213 (shr_n (s := 3 + 4 * j) (pkN_lt hFo hbo) (by omega) rfl) ?_
                refine lv_ldc2 (v := 15) hx hb B0.2.2.2.1 (B0.2.2.2.2.1 _ qK_L_79) dL_take_214 ?_
                refine hp_cl (v := lN 15) rfl ?_
                refine lv_land hx hb dL_take_217 ?_
                refine hp_cl (v := (lN ((pkN (rk, ri, rx, rv) / 2 ^ (3 + 4 * j)) % 16))) (g_mask (s := 4) (p := 16) rfl (by omega) (by first | exact pkN_lt hFo hbo | exact Nat.lt_trans (pkN_lt hFo hbo) (by decide) | exact Nat.lt_of_le_of_lt (Nat.div_le_self _ _) (Nat.lt_trans (pkN_lt hFo hbo) (by decide)))) ?_
                refine lv_l2i (v := (nI ((pkN (rk, ri, rx, rv) / 2 ^ (3 + 4 * j)) % 16))) hx hb dL_take_218 (lN_i _) ?_
                refine hp_c (v := (nI (nib (rv j)))) (congrArg nI (pkN_o hFo hbo hj)) ?_
                refine lv_istore (lv' := [(10, .int (nI (nib (rv j)))), (9, .int (nI j)), (0, .long (lN (pkN (rk, ri, rx, rv)))), (2, .ref lf), (3, .ref la), (4, .ref lq), (5, .ref le), (6, .int 1), (7, .int 8), (8, .int rk)]) hx hb dL_take_219 hl9 (by decide) rfl (fun ls hl9 => ?_)
                refine lv_iload hx hb dL_take_221 (lv_at hl9 0 rfl) ?_
                refine lv_if_le (tgt := 251) hx hb dL_take_223 (by decide) (fun c29 => ?_) (fun c29 => ?_)
                · refine lv_iinc (v := (nI (j + 1))) (lv' := [(9, .int (nI (j + 1))), (10, .int (nI (nib (rv j)))), (0, .long (lN (pkN (rk, ri, rx, rv)))), (2, .ref lf), (3, .ref la), (4, .ref lq), (5, .ref le), (6, .int 1), (7, .int 8), (8, .int rk)]) hx hb dL_take_251 hl9 (k := 1) rfl (nI_1 j) (by decide) rfl (fun ls hl9 => ?_)
                  refine lv_goto (tgt := 199) hx hb dL_take_254 (by decide) ?_
                  exact ih _ _ H locs ls ⟨(by rw [← chgN_k (nib_L0 (hvo j hj) c29)]; exact hq9), (show hEq [lq] f f9 from (hEq.mono hk9 (fun _ h9 => h9))), rfl⟩ hw hS (lv_sub hl9 [0, 2, 3, 4, 5, 6, 7, 8, 9] rfl)
                · refine lv_aload hx hb dL_take_226 (lv_at hl9 5 rfl) ?_
                  refine lv_bipush (v := 6) hx hb dL_take_228 (by decide) ?_
                  refine lv_iload hx hb dL_take_230 (lv_at hl9 7 rfl) ?_
                  refine lv_imul hx hb dL_take_232 ?_
                  refine hp_c (v := 6) (by decide) ?_
                  refine lv_iload hx hb dL_take_233 (lv_at hl9 1 rfl) ?_
                  refine lv_iadd hx hb dL_take_235 ?_
                  refine hp_c (v := (nI (6 + j))) (nI_add 6 j) ?_
                  refine lv_iload hx hb dL_take_236 (lv_at hl9 9 rfl) ?_
                  refine lv_iconst (v := 2) hx hb dL_take_238 (by decide) ?_
                  refine lv_icmp_ne (tgt := 249) hx hb dL_take_239 (by decide) (fun c30 => ?_) (fun c30 => ?_)
                  · refine lv_iconst (v := (-1)) hx hb dL_take_249 (by decide) ?_
                    refine hp_iast B0 hw hS hq9 (vp_in_nI (show 6 + j < 12 by omega) (by omega)) dL_take_250 (fun H locs f31 ef31 hw hS => ?_)
                    rw [show (upd (j6r h2 (chgN gq rv rk j)) ((nI (6 + j)) : Int32).toNatClampNeg (-1) : Nat → Int32) = (j6r h2 (chgN gq rv rk (j + 1))) from (by rw [nI_clamp (by omega), j6_u1, chgN_s rfl (nib_L1 (hvo j hj) c29) (if_neg c30)])] at ef31
                    have h32 : f31 lq = some (.inl (cI G, 12, .inl (j6r h2 (chgN gq rv rk (j + 1))))) := by rw [ef31, va_up_self]
                    refine lv_iinc (v := (nI (j + 1))) (lv' := [(9, .int (nI (j + 1))), (10, .int (nI (nib (rv j)))), (0, .long (lN (pkN (rk, ri, rx, rv)))), (2, .ref lf), (3, .ref la), (4, .ref lq), (5, .ref le), (6, .int 1), (7, .int 8), (8, .int rk)]) hx hb dL_take_251 hl9 (k := 1) rfl (nI_1 j) (by decide) rfl (fun ls hl9 => ?_)
                    refine lv_goto (tgt := 199) hx hb dL_take_254 (by decide) ?_
                    exact ih _ _ H locs ls ⟨h32, ((show hEq [lq] f f9 from (hEq.mono hk9 (fun _ h9 => h9))).tr (show hEq [lq] f9 f31 from (by rw [ef31]; exact hEq.up List.mem_cons_self))), rfl⟩ hw hS (lv_sub hl9 [0, 2, 3, 4, 5, 6, 7, 8, 9] rfl)
                  · refine lv_iload hx hb dL_take_242 (lv_at hl9 0 rfl) ?_
                    refine lv_iconst (v := 1) hx hb dL_take_244 (by decide) ?_
                    refine lv_isub hx hb dL_take_245 ?_
                    refine hp_c (v := (rv j)) (nib_sub (hvo j hj) (nib_L1 (hvo j hj) c29)) ?_
                    refine lv_goto (tgt := 250) hx hb dL_take_246 (by decide) ?_
                    refine hp_iast B0 hw hS hq9 (vp_in_nI (show 6 + j < 12 by omega) (by omega)) dL_take_250 (fun H locs f33 ef33 hw hS => ?_)
                    rw [show (upd (j6r h2 (chgN gq rv rk j)) ((nI (6 + j)) : Int32).toNatClampNeg (rv j) : Nat → Int32) = (j6r h2 (chgN gq rv rk (j + 1))) from (by rw [nI_clamp (by omega), j6_u1, chgN_s rfl (nib_L1 (hvo j hj) c29) (if_pos c30)])] at ef33
                    have h34 : f33 lq = some (.inl (cI G, 12, .inl (j6r h2 (chgN gq rv rk (j + 1))))) := by rw [ef33, va_up_self]
                    refine lv_iinc (v := (nI (j + 1))) (lv' := [(9, .int (nI (j + 1))), (10, .int (nI (nib (rv j)))), (0, .long (lN (pkN (rk, ri, rx, rv)))), (2, .ref lf), (3, .ref la), (4, .ref lq), (5, .ref le), (6, .int 1), (7, .int 8), (8, .int rk)]) hx hb dL_take_251 hl9 (k := 1) rfl (nI_1 j) (by decide) rfl (fun ls hl9 => ?_)
                    refine lv_goto (tgt := 199) hx hb dL_take_254 (by decide) ?_
                    exact ih _ _ H locs ls ⟨h34, ((show hEq [lq] f f9 from (hEq.mono hk9 (fun _ h9 => h9))).tr (show hEq [lq] f9 f33 from (by rw [ef33]; exact hEq.up List.mem_cons_self))), rfl⟩ hw hS (lv_sub hl9 [0, 2, 3, 4, 5, 6, 7, 8, 9] rfl)
              · obtain ⟨hq9, hk9, el9⟩ := hI
                rw [el9] at hl9
                refine lv_iload hx hb dL_take_199 (lv_at hl9 0 rfl) ?_
                refine lv_bipush (v := 6) hx hb dL_take_201 (by decide) ?_
                refine lv_icmp_ge (tgt := 257) hx hb dL_take_203 (by decide) (fun _ => ?_) (fun c9 => absurd (by decide) c9)
                refine lv_aload_n hx hb dL_take_257 rfl (lv_at hl9 2 rfl) ?_
                refine lv_aload hx hb dL_take_258 (lv_at hl9 4 rfl) ?_
                refine lv_aload hx hb dL_take_260 (lv_at hl9 5 rfl) ?_
                refine lv_iload hx hb dL_take_262 (lv_at hl9 6 rfl) ?_
                have h35 : f9 lf = some (.inl (cJ G, 64, .inr (.inl xs))) := (hEq.k hk9) _ _ k_lf (ninc (Ne.symm (hneL k_lq k_lf (Nat.ne_of_beq_eq_false rfl))) nin0)
                have h36 : f9 le = some (.inl (cI G, 16, .inl (jE F (e8r st li sr tm lp mi ix (nI L.length))))) := (hEq.k hk9) _ _ k_le (ninc (Ne.symm (hneL k_lq k_le (Nat.ne_of_beq_eq_false rfl))) nin0)
                refine hp_S (As := [.ref lf, .ref lq, .ref le, .int 1]) (rest := []) B0 hw hS (c_L_beg_1 hl G f9 lf lq le st li sr tm lp mi ix (chgF gq rv rk) L F h2 b (SOK.gq hSo (chgF_ok hgq hvo)) hbo xs hX (Nat.lt_of_lt_of_le hn2 (by decide)) h35 hq9 h36) mS_L_beg qM_L_86 rfl rfl hl9.1 (Nat.le_of_ble_eq_true rfl) ⟨⟨Nat.le_of_ble_eq_true rfl, Nat.le_of_ble_eq_true rfl⟩, Nat.le_of_ble_eq_true rfl, Nat.le_of_ble_eq_true rfl⟩ dL_take_264 (fun E ce q9 f37 H locs hPX hw hS hce hcv hcl => ?_) (fun v f37 H locs hP hw hS => ?_)
                · exact hPX.elim
                · obtain ⟨ev9, ⟨xs38, h39, hX40⟩, h41, k42⟩ := hP
                  subst ev9
                  refine W.eq (g2 := F0 m 267 ls [.int (begV (st, li, sr, tm, lp, mi, ix, (chgF gq rv rk), L))]) rfl ?_
                  refine lv_pop hx hb dL_take_267 rfl ?_
                  have h43 : f37 lq = some (.inl (cI G, 12, .inl (j6r h2 (chgN gq rv rk 6)))) := (hEq.k k42) _ _ hq9 (ninc (hneL k_lq k_lf (Nat.ne_of_beq_eq_false rfl)) (ninc (hneL k_lq k_le (Nat.ne_of_beq_eq_false rfl)) nin0))
                  have hA : hearF ga (rk, ri, rx, rv) (st, li, sr, tm, lp, mi, ix, gq, L) = begS (st, li, sr, tm, lp, mi, ix, (chgF gq rv rk), L) := (((if_neg c2).trans (if_neg c1)).trans (if_pos ⟨Or.inr c26, c27⟩)).trans (if_neg c28)
                  exact hp_vret B0 hw hS hr ⟨Nat.le_of_ble_eq_true rfl, Nat.le_of_ble_eq_true rfl⟩ dL_take_268 (⟨rfl, ⟨_, h39, (by rw [hA]; exact hX40)⟩, (by rw [hA]; exact (by rw [begS_gq]; exact h43)), (by rw [hA]; exact h41), ((show hEq [lf, lq, le] f f9 from (hEq.mono hk9 (sub_cons (List.mem_cons_of_mem _ List.mem_cons_self) sub_nil))).tr (show hEq [lf, lq, le] f9 f37 from (hEq.mono k42 (sub_cons List.mem_cons_self (sub_cons (List.mem_cons_of_mem _ (List.mem_cons_of_mem _ List.mem_cons_self)) sub_nil)))))⟩)
            · refine lv_aload hx hb dL_take_186 (lv_at hl9 6 rfl) ?_
              refine lv_iload hx hb dL_take_188 (lv_at hl9 1 rfl) ?_
              refine lv_dup2_11 hx hb dL_take_190 rfl rfl ?_
              refine hp_iald B0 hw k_le (by unfold vp_in; decide) dL_take_191 ?_
              refine hp_c (v := 3) (c26) ?_
              refine lv_iconst (v := 1) hx hb dL_take_192 (by decide) ?_
              refine lv_iadd hx hb dL_take_193 ?_
              refine hp_c (v := 4) (by decide) ?_
              refine hp_iast B0 hw hS k_le (by unfold vp_in; decide) dL_take_194 (fun H locs f44 ef44 hw hS => ?_)
              rw [show (upd (jE F (e8r st li sr tm lp mi ix (nI L.length))) (8 : Int32).toNatClampNeg 4 : Nat → Int32) = (jE F (e8r 4 li sr tm lp mi ix (nI L.length))) from (by rw [show (8 : Int32).toNatClampNeg = 8 + 0 from rfl, jE_u1, e8_u0])] at ef44
              have h45 : f44 le = some (.inl (cI G, 16, .inl (jE F (e8r 4 li sr tm lp mi ix (nI L.length))))) := by rw [ef44, va_up_self]
              have h46 : f44 lf = some (.inl (cJ G, 64, .inr (.inl xs))) := by rw [ef44, va_up_ne _ _ (hneL k_lf k_le (Nat.ne_of_beq_eq_false rfl))]; exact k_lf
              have h47 : f44 lq = some (.inl (cI G, 12, .inl (j6r h2 gq))) := by rw [ef44, va_up_ne _ _ (hneL k_lq k_le (Nat.ne_of_beq_eq_false rfl))]; exact k_lq
              have hA : hearF ga (rk, ri, rx, rv) (st, li, sr, tm, lp, mi, ix, gq, L) = (4, li, sr, tm, lp, mi, ix, gq, L) := ((((if_neg c2).trans (if_neg c1)).trans (if_pos ⟨Or.inr c26, c27⟩)).trans (if_pos c28)).trans (congrArg (fun z9 => (z9, li, sr, tm, lp, mi, ix, gq, L)) (if_neg c3))
              exact hp_vret B0 hw hS hr ⟨Nat.le_of_ble_eq_true rfl, Nat.le_of_ble_eq_true rfl⟩ dL_take_195 (⟨rfl, ⟨_, h46, (by rw [hA]; exact hX)⟩, (by rw [hA]; exact h47), (by rw [hA]; exact h45), (show hEq [lf, lq, le] f f44 from (by rw [ef44]; exact hEq.up (List.mem_cons_of_mem _ (List.mem_cons_of_mem _ List.mem_cons_self))))⟩)
    · refine lv_aload hx hb dL_take_35 (lv_at hl9 6 rfl) ?_
      refine lv_iload hx hb dL_take_37 (lv_at hl9 1 rfl) ?_
      refine lv_iconst (v := 4) hx hb dL_take_39 (by decide) ?_
      refine lv_iadd hx hb dL_take_40 ?_
      refine hp_c (v := 12) (by decide) ?_
      refine lv_lload_n hx hb dL_take_41 rfl (lv_at hl9 2 rfl) ?_
      refine lv_bipush (v := 32) hx hb dL_take_42 (by decide) ?_
      refine lv_lshr (v := (lN ((pkN (rk, ri, rx, rv)) / 4294967296))) hx hb dL_take_44 (shr_n (s := 32) (by first | exact pkN_lt hFo hbo | exact Nat.lt_trans (pkN_lt hFo hbo) (by decide) | exact Nat.lt_of_le_of_lt (Nat.div_le_self _ _) (Nat.lt_trans (pkN_lt hFo hbo) (by decide))) (by omega) rfl) ?_
      refine lv_ldc2 (v := 15) hx hb B0.2.2.2.1 (B0.2.2.2.2.1 _ qK_L_79) dL_take_45 ?_
      refine hp_cl (v := lN 15) rfl ?_
      refine lv_land hx hb dL_take_48 ?_
      refine hp_cl (v := (lN (((pkN (rk, ri, rx, rv)) / 4294967296) % 16))) (g_mask (s := 4) (p := 16) rfl (by omega) (by first | exact pkN_lt hFo hbo | exact Nat.lt_trans (pkN_lt hFo hbo) (by decide) | exact Nat.lt_of_le_of_lt (Nat.div_le_self _ _) (Nat.lt_trans (pkN_lt hFo hbo) (by decide)))) ?_
      refine lv_l2i (v := (nI (((pkN (rk, ri, rx, rv)) / 4294967296) % 16))) hx hb dL_take_49 (lN_i _) ?_
      refine hp_c (v := (nI (iN rx))) (congrArg nI (pkN_x hFo hbo)) ?_
      refine hp_S (As := [.int (nI (iN rx))]) (rest := [.int 12, .ref le]) B0 hw hS (c_L_number hl G f (iN rx) (by omega)) mS_L_number qM_L_83 rfl rfl hl9.1 (Nat.le_of_ble_eq_true rfl) ⟨⟨Nat.le_of_ble_eq_true rfl, Nat.le_of_ble_eq_true rfl⟩, Nat.le_of_ble_eq_true rfl, Nat.le_of_ble_eq_true rfl⟩ dL_take_50 (fun E ce q9 f48 H locs hPX hw hS hce hcv hcl => ?_) (fun v f48 H locs hP hw hS => ?_)
      · exact hPX.elim
      · obtain ⟨ef9, ev9⟩ := hP
        rw [ef9] at hw
        rw [hFo.r3] at ev9
        subst ev9
        refine W.eq (g2 := F0 m 53 ls [.int (num rx), .int 12, .ref le]) rfl ?_
        refine lv_aload hx hb dL_take_53 (lv_at hl9 6 rfl) ?_
        refine lv_iload hx hb dL_take_55 (lv_at hl9 1 rfl) ?_
        refine lv_bipush (v := 6) hx hb dL_take_57 (by decide) ?_
        refine lv_iadd hx hb dL_take_59 ?_
        refine hp_c (v := 14) (by decide) ?_
        refine hp_iald B0 hw k_le (by unfold vp_in; decide) dL_take_60 ?_
        refine hp_c (v := (nI xx)) (hxx) ?_
        refine hp_S (As := [.int (nI xx)]) (rest := [.int (num rx), .int 12, .ref le]) B0 hw hS (c_L_number hl G f xx (by omega)) mS_L_number qM_L_83 rfl rfl hl9.1 (Nat.le_of_ble_eq_true rfl) ⟨⟨Nat.le_of_ble_eq_true rfl, Nat.le_of_ble_eq_true rfl⟩, Nat.le_of_ble_eq_true rfl, Nat.le_of_ble_eq_true rfl⟩ dL_take_61 (fun E ce q9 f49 H locs hPX hw hS hce hcv hcl => ?_) (fun v f49 H locs hP hw hS => ?_)
        · exact hPX.elim
        · obtain ⟨ef9, ev9⟩ := hP
          rw [ef9] at hw
          rw [← hxx] at ev9
          subst ev9
          refine W.eq (g2 := F0 m 64 ls [.int (num ix), .int (num rx), .int 12, .ref le]) rfl ?_
          refine lv_icmp_ne (tgt := 71) hx hb dL_take_64 (by decide) (fun c50 => ?_) (fun c50 => ?_)
          · refine lv_iconst (v := 0) hx hb dL_take_71 (by decide) ?_
            refine hp_iast B0 hw hS k_le (by unfold vp_in; decide) dL_take_72 (fun H locs f51 ef51 hw hS => ?_)
            rw [show (upd (jE F (e8r st li sr tm lp mi ix (nI L.length))) (12 : Int32).toNatClampNeg 0 : Nat → Int32) = (jE F (e8r st li sr tm 0 mi ix (nI L.length))) from (by rw [show (12 : Int32).toNatClampNeg = 8 + 4 from rfl, jE_u1, e8_u4])] at ef51
            have h52 : f51 le = some (.inl (cI G, 16, .inl (jE F (e8r st li sr tm 0 mi ix (nI L.length))))) := by rw [ef51, va_up_self]
            refine lv_aload hx hb dL_take_73 (lv_at hl9 6 rfl) ?_
            refine lv_iload hx hb dL_take_75 (lv_at hl9 1 rfl) ?_
            refine lv_iconst (v := 4) hx hb dL_take_77 (by decide) ?_
            refine lv_iadd hx hb dL_take_78 ?_
            refine hp_c (v := 12) (by decide) ?_
            refine hp_iald B0 hw h52 (by unfold vp_in; decide) dL_take_79 ?_
            refine hp_c (v := 0) (rfl) ?_
            refine lv_iconst (v := 1) hx hb dL_take_80 (by decide) ?_
            refine lv_icmp_ne (tgt := 85) hx hb dL_take_81 (by decide) (fun _ => ?_) (fun c9 => absurd c9 (by decide))
            refine lv_aload hx hb dL_take_85 (lv_at hl9 6 rfl) ?_
            refine lv_iload hx hb dL_take_87 (lv_at hl9 1 rfl) ?_
            refine hp_iald B0 hw h52 (by unfold vp_in; decide) dL_take_89 ?_
            refine hp_c (v := st) (rfl) ?_
            refine lv_if_ne (tgt := 105) hx hb dL_take_90 (by decide) (fun c53 => ?_) (fun c53 => ?_)
            · refine lv_aload hx hb dL_take_105 (lv_at hl9 6 rfl) ?_
              refine lv_iload hx hb dL_take_107 (lv_at hl9 1 rfl) ?_
              refine hp_iald B0 hw h52 (by unfold vp_in; decide) dL_take_109 ?_
              refine hp_c (v := st) (rfl) ?_
              refine lv_iconst (v := 4) hx hb dL_take_110 (by decide) ?_
              refine lv_icmp_ne (tgt := 134) hx hb dL_take_111 (by decide) (fun c54 => ?_) (fun c54 => ?_)
              · refine lv_lload_n hx hb dL_take_134 rfl (lv_at hl9 2 rfl) ?_
                refine lv_aload_n hx hb dL_take_135 rfl (lv_at hl9 3 rfl) ?_
                refine lv_aload_n hx hb dL_take_136 rfl (lv_at hl9 4 rfl) ?_
                refine lv_aload hx hb dL_take_137 (lv_at hl9 6 rfl) ?_
                refine lv_iload hx hb dL_take_139 (lv_at hl9 7 rfl) ?_
                have h55 : f51 lf = some (.inl (cJ G, 64, .inr (.inl xs))) := by rw [ef51, va_up_ne _ _ (hneL k_lf k_le (Nat.ne_of_beq_eq_false rfl))]; exact k_lf
                have h56 : f51 la = some (.inl (cI G, 12, .inl (j6r g2 ga))) := by rw [ef51, va_up_ne _ _ (hneL k_la k_le (Nat.ne_of_beq_eq_false rfl))]; exact k_la
                refine hp_S (As := [.long (lN (pkN (rk, ri, rx, rv))), .ref lf, .ref la, .ref le, .int 1]) (rest := []) B0 hw hS (c_L_answer_1 hl G f51 lf la le st li sr tm 0 mi ix gq L F ga g2 b (SOK.lp (l := 0) hSo (Or.inl rfl)) hbo rk ri rx rv hFo hga c53 xs hX (Nat.lt_of_lt_of_le hn2 (by decide)) h55 h56 h52) mS_L_answer qM_L_90 rfl rfl hl9.1 (Nat.le_of_ble_eq_true rfl) ⟨⟨Nat.le_of_ble_eq_true rfl, Nat.le_of_ble_eq_true rfl⟩, Nat.le_of_ble_eq_true rfl, Nat.le_of_ble_eq_true rfl⟩ dL_take_141 (fun E ce q9 f57 H locs hPX hw hS hce hcv hcl => ?_) (fun v f57 H locs hP hw hS => ?_)
                · exact hPX.elim
                · obtain ⟨ev9, ⟨xs58, h59, hX60⟩, h61, k62⟩ := hP
                  subst ev9
                  refine W.eq (g2 := F0 m 144 ls []) rfl ?_
                  refine lv_goto (tgt := 268) hx hb dL_take_144 (by decide) ?_
                  have h63 : f51 lq = some (.inl (cI G, 12, .inl (j6r h2 gq))) := by rw [ef51, va_up_ne _ _ (hneL k_lq k_le (Nat.ne_of_beq_eq_false rfl))]; exact k_lq
                  have h64 : f57 lq = some (.inl (cI G, 12, .inl (j6r h2 gq))) := (hEq.k k62) _ _ h63 (ninc (hneL k_lq k_lf (Nat.ne_of_beq_eq_false rfl)) (ninc (hneL k_lq k_le (Nat.ne_of_beq_eq_false rfl)) nin0))
                  have hA : hearF ga (rk, ri, rx, rv) (st, li, sr, tm, lp, mi, ix, gq, L) = ansS ga (rk, ri, rx, rv) (st, li, sr, tm, 0, mi, ix, gq, L) := (((if_pos c2).trans (if_neg c50)).trans (if_neg c53)).trans (if_neg c54)
                  exact hp_vret B0 hw hS hr ⟨Nat.le_of_ble_eq_true rfl, Nat.le_of_ble_eq_true rfl⟩ dL_take_268 (⟨rfl, ⟨_, h59, (by rw [hA]; exact hX60)⟩, (by rw [hA]; exact h64), (by rw [hA]; exact h61), ((show hEq [lf, lq, le] f f51 from (by rw [ef51]; exact hEq.up (List.mem_cons_of_mem _ (List.mem_cons_of_mem _ List.mem_cons_self)))).tr (show hEq [lf, lq, le] f51 f57 from (hEq.mono k62 (sub_cons List.mem_cons_self (sub_cons (List.mem_cons_of_mem _ (List.mem_cons_of_mem _ List.mem_cons_self)) sub_nil)))))⟩)
              · refine lv_aload hx hb dL_take_114 (lv_at hl9 6 rfl) ?_
                refine lv_iload hx hb dL_take_116 (lv_at hl9 1 rfl) ?_
                refine lv_iconst (v := 1) hx hb dL_take_118 (by decide) ?_
                refine hp_iast B0 hw hS h52 (by unfold vp_in; decide) dL_take_119 (fun H locs f65 ef65 hw hS => ?_)
                rw [show (upd (jE F (e8r st li sr tm 0 mi ix (nI L.length))) (8 : Int32).toNatClampNeg 1 : Nat → Int32) = (jE F (e8r 1 li sr tm 0 mi ix (nI L.length))) from (by rw [show (8 : Int32).toNatClampNeg = 8 + 0 from rfl, jE_u1, e8_u0])] at ef65
                have e66 : f65 = va_up f le (some (.inl (cI G, 16, .inl (jE F (e8r 1 li sr tm 0 mi ix (nI L.length)))))) := by rw [ef65, ef51, bx_uu]
                have h67 : f65 le = some (.inl (cI G, 16, .inl (jE F (e8r 1 li sr tm 0 mi ix (nI L.length))))) := by rw [ef65, va_up_self]
                refine lv_aload_n hx hb dL_take_120 rfl (lv_at hl9 3 rfl) ?_
                refine lv_aload hx hb dL_take_121 (lv_at hl9 5 rfl) ?_
                refine lv_aload hx hb dL_take_123 (lv_at hl9 6 rfl) ?_
                refine lv_iload hx hb dL_take_125 (lv_at hl9 7 rfl) ?_
                have h68 : f65 lf = some (.inl (cJ G, 64, .inr (.inl xs))) := by rw [e66, va_up_ne _ _ (hneL k_lf k_le (Nat.ne_of_beq_eq_false rfl))]; exact k_lf
                have h69 : f65 lq = some (.inl (cI G, 12, .inl (j6r h2 gq))) := by rw [e66, va_up_ne _ _ (hneL k_lq k_le (Nat.ne_of_beq_eq_false rfl))]; exact k_lq
                refine hp_S (As := [.ref lf, .ref lq, .ref le, .int 1]) (rest := []) B0 hw hS (c_L_beg_1 hl G f65 lf lq le 1 li sr tm 0 mi ix gq L F h2 b (SOK.st1 (SOK.lp (l := 0) hSo (Or.inl rfl))) hbo xs hX (Nat.lt_of_lt_of_le hn2 (by decide)) h68 h69 h67) mS_L_beg qM_L_86 rfl rfl hl9.1 (Nat.le_of_ble_eq_true rfl) ⟨⟨Nat.le_of_ble_eq_true rfl, Nat.le_of_ble_eq_true rfl⟩, Nat.le_of_ble_eq_true rfl, Nat.le_of_ble_eq_true rfl⟩ dL_take_127 (fun E ce q9 f70 H locs hPX hw hS hce hcv hcl => ?_) (fun v f70 H locs hP hw hS => ?_)
                · exact hPX.elim
                · obtain ⟨ev9, ⟨xs71, h72, hX73⟩, h74, k75⟩ := hP
                  by_cases c76 : sr < 10
                  · rw [show begV (1, li, sr, tm, 0, mi, ix, gq, L) = 1 from if_pos c76] at ev9
                    subst ev9
                    rw [show begS (1, li, sr, tm, 0, mi, ix, gq, L) = (1, (li + 1), (sr + 1), 3, 0, mi, ix, gq, (L ++ [(0, li + 1, ix, gq)])) from if_pos c76] at hX73 h74
                    have h74 : f70 le = some (.inl (cI G, 16, .inl (jE F (e8r 1 (li + 1) (sr + 1) 3 0 mi ix (nI (L ++ [(0, li + 1, ix, gq)]).length))))) := h74
                    refine W.eq (g2 := F0 m 130 ls [.int 1]) rfl ?_
                    refine lv_if_ne (tgt := 134) hx hb dL_take_130 (by decide) (fun _ => ?_) (fun c9 => absurd c9 (by decide))
                    refine lv_lload_n hx hb dL_take_134 rfl (lv_at hl9 2 rfl) ?_
                    refine lv_aload_n hx hb dL_take_135 rfl (lv_at hl9 3 rfl) ?_
                    refine lv_aload_n hx hb dL_take_136 rfl (lv_at hl9 4 rfl) ?_
                    refine lv_aload hx hb dL_take_137 (lv_at hl9 6 rfl) ?_
                    refine lv_iload hx hb dL_take_139 (lv_at hl9 7 rfl) ?_
                    have h77 : f65 la = some (.inl (cI G, 12, .inl (j6r g2 ga))) := by rw [e66, va_up_ne _ _ (hneL k_la k_le (Nat.ne_of_beq_eq_false rfl))]; exact k_la
                    have h78 : f70 la = some (.inl (cI G, 12, .inl (j6r g2 ga))) := (hEq.k k75) _ _ h77 (ninc (hneL k_la k_lf (Nat.ne_of_beq_eq_false rfl)) (ninc (hneL k_la k_le (Nat.ne_of_beq_eq_false rfl)) nin0))
                    refine hp_S (As := [.long (lN (pkN (rk, ri, rx, rv))), .ref lf, .ref la, .ref le, .int 1]) (rest := []) B0 hw hS (c_L_answer_1 hl G f70 lf la le 1 (li + 1) (sr + 1) 3 0 mi ix gq (L ++ [(0, li + 1, ix, gq)]) F ga g2 (b + 1) (by rw [← show begS (1, li, sr, tm, 0, mi, ix, gq, L) = (1, (li + 1), (sr + 1), 3, 0, mi, ix, gq, (L ++ [(0, li + 1, ix, gq)])) from if_pos c76]; exact SOK.beg (SOK.st1 (SOK.lp (l := 0) hSo (Or.inl rfl))) hbo) hb2 rk ri rx rv (hFo.mono (by omega)) hga (by decide) xs71 hX73 (by rw [List.length_append]; show L.length + 1 < 64; omega) h72 h78 h74) mS_L_answer qM_L_90 rfl rfl hl9.1 (Nat.le_of_ble_eq_true rfl) ⟨⟨Nat.le_of_ble_eq_true rfl, Nat.le_of_ble_eq_true rfl⟩, Nat.le_of_ble_eq_true rfl, Nat.le_of_ble_eq_true rfl⟩ dL_take_141 (fun E ce q9 f79 H locs hPX hw hS hce hcv hcl => ?_) (fun v f79 H locs hP hw hS => ?_)
                    · exact hPX.elim
                    · obtain ⟨ev9, ⟨xs80, h81, hX82⟩, h83, k84⟩ := hP
                      subst ev9
                      refine W.eq (g2 := F0 m 144 ls []) rfl ?_
                      refine lv_goto (tgt := 268) hx hb dL_take_144 (by decide) ?_
                      have h85 : f70 lq = some (.inl (cI G, 12, .inl (j6r h2 gq))) := (hEq.k k75) _ _ h69 (ninc (hneL k_lq k_lf (Nat.ne_of_beq_eq_false rfl)) (ninc (hneL k_lq k_le (Nat.ne_of_beq_eq_false rfl)) nin0))
                      have h86 : f79 lq = some (.inl (cI G, 12, .inl (j6r h2 gq))) := (hEq.k k84) _ _ h85 (ninc (hneL k_lq k_lf (Nat.ne_of_beq_eq_false rfl)) (ninc (hneL k_lq k_le (Nat.ne_of_beq_eq_false rfl)) nin0))
                      have hA : hearF ga (rk, ri, rx, rv) (st, li, sr, tm, lp, mi, ix, gq, L) = ansS ga (rk, ri, rx, rv) (1, (li + 1), (sr + 1), 3, 0, mi, ix, gq, (L ++ [(0, li + 1, ix, gq)])) := (((((if_pos c2).trans (if_neg c50)).trans (if_neg c53)).trans (if_pos c54)).trans (if_pos c76)).trans (by rw [show begS (lpS (st, li, sr, tm, lp, mi, ix, gq, L) 0) = _ from if_pos c76]; try rfl)
                      exact hp_vret B0 hw hS hr ⟨Nat.le_of_ble_eq_true rfl, Nat.le_of_ble_eq_true rfl⟩ dL_take_268 (⟨rfl, ⟨_, h81, (by rw [hA]; exact hX82)⟩, (by rw [hA]; exact h86), (by rw [hA]; exact h83), ((show hEq [lf, lq, le] f f65 from (by rw [e66]; exact hEq.up (List.mem_cons_of_mem _ (List.mem_cons_of_mem _ List.mem_cons_self)))).tr ((show hEq [lf, lq, le] f65 f70 from (hEq.mono k75 (sub_cons List.mem_cons_self (sub_cons (List.mem_cons_of_mem _ (List.mem_cons_of_mem _ List.mem_cons_self)) sub_nil)))).tr (show hEq [lf, lq, le] f70 f79 from (hEq.mono k84 (sub_cons List.mem_cons_self (sub_cons (List.mem_cons_of_mem _ (List.mem_cons_of_mem _ List.mem_cons_self)) sub_nil))))))⟩)
                  · rw [show begV (1, li, sr, tm, 0, mi, ix, gq, L) = 0 from if_neg c76] at ev9
                    subst ev9
                    rw [show begS (1, li, sr, tm, 0, mi, ix, gq, L) = (0, li, sr, tm, 0, mi, ix, gq, L) from if_neg c76] at hX73 h74
                    have h74 : f70 le = some (.inl (cI G, 16, .inl (jE F (e8r 0 li sr tm 0 mi ix (nI L.length))))) := h74
                    refine W.eq (g2 := F0 m 130 ls [.int 0]) rfl ?_
                    refine lv_if_ne (tgt := 134) hx hb dL_take_130 (by decide) (fun c9 => absurd (by decide) c9) (fun _ => ?_)
                    have h87 : f70 lq = some (.inl (cI G, 12, .inl (j6r h2 gq))) := (hEq.k k75) _ _ h69 (ninc (hneL k_lq k_lf (Nat.ne_of_beq_eq_false rfl)) (ninc (hneL k_lq k_le (Nat.ne_of_beq_eq_false rfl)) nin0))
                    have hA : hearF ga (rk, ri, rx, rv) (st, li, sr, tm, lp, mi, ix, gq, L) = (0, li, sr, tm, 0, mi, ix, gq, L) := ((((if_pos c2).trans (if_neg c50)).trans (if_neg c53)).trans (if_pos c54)).trans (if_neg c76)
                    exact hp_vret B0 hw hS hr ⟨Nat.le_of_ble_eq_true rfl, Nat.le_of_ble_eq_true rfl⟩ dL_take_133 (⟨rfl, ⟨_, h72, (by rw [hA]; exact hX73)⟩, (by rw [hA]; exact h87), (by rw [hA]; exact h74), ((show hEq [lf, lq, le] f f65 from (by rw [e66]; exact hEq.up (List.mem_cons_of_mem _ (List.mem_cons_of_mem _ List.mem_cons_self)))).tr (show hEq [lf, lq, le] f65 f70 from (hEq.mono k75 (sub_cons List.mem_cons_self (sub_cons (List.mem_cons_of_mem _ (List.mem_cons_of_mem _ List.mem_cons_self)) sub_nil)))))⟩)
            · refine lv_aload_n hx hb dL_take_93 rfl (lv_at hl9 3 rfl) ?_
              refine lv_aload hx hb dL_take_94 (lv_at hl9 6 rfl) ?_
              refine lv_iload hx hb dL_take_96 (lv_at hl9 7 rfl) ?_
              refine lv_iconst (v := 4) hx hb dL_take_98 (by decide) ?_
              refine lv_iconst (v := 0) hx hb dL_take_99 (by decide) ?_
              refine lv_lconst (v := lN 0) hx hb dL_take_100 rfl ?_
              have h88 : f51 lf = some (.inl (cJ G, 64, .inr (.inl xs))) := by rw [ef51, va_up_ne _ _ (hneL k_lf k_le (Nat.ne_of_beq_eq_false rfl))]; exact k_lf
              refine hp_S (As := [.ref lf, .ref le, .int 1, .int 4, .int 0, .long (lN 0)]) (rest := []) B0 hw hS (c_L_post_1 hl G f51 lf le xs (jE F (e8r st li sr tm 0 mi ix (nI L.length))) h88 h52 4 0 0 xx L.length (by omega) (by omega) (show (jE F (e8r st li sr tm 0 mi ix (nI L.length))) 14 = nI xx from hxx) (by omega) (show (jE F (e8r st li sr tm 0 mi ix (nI L.length))) 15 = nI L.length from rfl) (by omega)) mS_L_post qM_L_73 rfl rfl hl9.1 (Nat.le_of_ble_eq_true rfl) ⟨⟨Nat.le_of_ble_eq_true rfl, Nat.le_of_ble_eq_true rfl⟩, Nat.le_of_ble_eq_true rfl, Nat.le_of_ble_eq_true rfl⟩ dL_take_101 (fun E ce q9 f89 H locs hPX hw hS hce hcv hcl => ?_) (fun v f89 H locs hP hw hS => ?_)
              · exact hPX.elim
              · obtain ⟨ev9, h90, h91, k92⟩ := hP
                subst ev9
                rw [show (upd (jE F (e8r st li sr tm 0 mi ix (nI L.length))) 15 (nI (L.length + 1)) : Nat → Int32) = (jE F (e8r st li sr tm 0 mi ix (nI (L.length + 1)))) from (by rw [show 15 = 8 + 7 from rfl, jE_u1, e8_u7])] at h91
                refine W.eq (g2 := F0 m 104 ls []) rfl ?_
                have h93 : f51 lq = some (.inl (cI G, 12, .inl (j6r h2 gq))) := by rw [ef51, va_up_ne _ _ (hneL k_lq k_le (Nat.ne_of_beq_eq_false rfl))]; exact k_lq
                have h94 : f89 lq = some (.inl (cI G, 12, .inl (j6r h2 gq))) := (hEq.k k92) _ _ h93 (ninc (hneL k_lq k_lf (Nat.ne_of_beq_eq_false rfl)) (ninc (hneL k_lq k_le (Nat.ne_of_beq_eq_false rfl)) nin0))
                have hpk := stop_pk hxx hx4
                rw [hpk] at h90
                have hA : hearF ga (rk, ri, rx, rv) (st, li, sr, tm, lp, mi, ix, gq, L) = (st, li, sr, tm, 0, mi, ix, gq, L ++ [(4, 0, ix, N6)]) := ((if_pos c2).trans (if_neg c50)).trans (if_pos c53)
                exact hp_vret B0 hw hS hr ⟨Nat.le_of_ble_eq_true rfl, Nat.le_of_ble_eq_true rfl⟩ dL_take_104 (⟨rfl, ⟨_, h90, (by rw [hA]; exact (hX.app _ rfl))⟩, (by rw [hA]; exact h94), (by rw [hA]; exact (by rw [← eS_app (gq := gq)]; exact h91)), ((show hEq [lf, lq, le] f f51 from (by rw [ef51]; exact hEq.up (List.mem_cons_of_mem _ (List.mem_cons_of_mem _ List.mem_cons_self)))).tr (show hEq [lf, lq, le] f51 f89 from (hEq.mono k92 (sub_cons List.mem_cons_self (sub_cons (List.mem_cons_of_mem _ (List.mem_cons_of_mem _ List.mem_cons_self)) sub_nil)))))⟩)
          · refine lv_iconst (v := 1) hx hb dL_take_67 (by decide) ?_
            refine lv_goto (tgt := 72) hx hb dL_take_68 (by decide) ?_
            refine hp_iast B0 hw hS k_le (by unfold vp_in; decide) dL_take_72 (fun H locs f95 ef95 hw hS => ?_)
            rw [show (upd (jE F (e8r st li sr tm lp mi ix (nI L.length))) (12 : Int32).toNatClampNeg 1 : Nat → Int32) = (jE F (e8r st li sr tm 1 mi ix (nI L.length))) from (by rw [show (12 : Int32).toNatClampNeg = 8 + 4 from rfl, jE_u1, e8_u4])] at ef95
            have h96 : f95 le = some (.inl (cI G, 16, .inl (jE F (e8r st li sr tm 1 mi ix (nI L.length))))) := by rw [ef95, va_up_self]
            refine lv_aload hx hb dL_take_73 (lv_at hl9 6 rfl) ?_
            refine lv_iload hx hb dL_take_75 (lv_at hl9 1 rfl) ?_
            refine lv_iconst (v := 4) hx hb dL_take_77 (by decide) ?_
            refine lv_iadd hx hb dL_take_78 ?_
            refine hp_c (v := 12) (by decide) ?_
            refine hp_iald B0 hw h96 (by unfold vp_in; decide) dL_take_79 ?_
            refine hp_c (v := 1) (rfl) ?_
            refine lv_iconst (v := 1) hx hb dL_take_80 (by decide) ?_
            refine lv_icmp_ne (tgt := 85) hx hb dL_take_81 (by decide) (fun c9 => absurd (by decide) c9) (fun _ => ?_)
            have h97 : f95 lf = some (.inl (cJ G, 64, .inr (.inl xs))) := by rw [ef95, va_up_ne _ _ (hneL k_lf k_le (Nat.ne_of_beq_eq_false rfl))]; exact k_lf
            have h98 : f95 lq = some (.inl (cI G, 12, .inl (j6r h2 gq))) := by rw [ef95, va_up_ne _ _ (hneL k_lq k_le (Nat.ne_of_beq_eq_false rfl))]; exact k_lq
            have hA : hearF ga (rk, ri, rx, rv) (st, li, sr, tm, lp, mi, ix, gq, L) = (st, li, sr, tm, 1, mi, ix, gq, L) := (if_pos c2).trans (if_pos c50)
            exact hp_vret B0 hw hS hr ⟨Nat.le_of_ble_eq_true rfl, Nat.le_of_ble_eq_true rfl⟩ dL_take_84 (⟨rfl, ⟨_, h97, (by rw [hA]; exact hX)⟩, (by rw [hA]; exact h98), (by rw [hA]; exact h96), (show hEq [lf, lq, le] f f95 from (by rw [ef95]; exact hEq.up (List.mem_cons_of_mem _ (List.mem_cons_of_mem _ List.mem_cons_self))))⟩)
  · refine lv_aload hx hb dL_take_21 (lv_at hl9 6 rfl) ?_
    refine lv_iload hx hb dL_take_23 (lv_at hl9 1 rfl) ?_
    refine lv_iconst (v := 0) hx hb dL_take_25 (by decide) ?_
    refine hp_iast B0 hw hS k_le (by unfold vp_in; decide) dL_take_26 (fun H locs f99 ef99 hw hS => ?_)
    rw [show (upd (jE F (e8r st li sr tm lp mi ix (nI L.length))) (8 : Int32).toNatClampNeg 0 : Nat → Int32) = (jE F (e8r 0 li sr tm lp mi ix (nI L.length))) from (by rw [show (8 : Int32).toNatClampNeg = 8 + 0 from rfl, jE_u1, e8_u0])] at ef99
    have h100 : f99 le = some (.inl (cI G, 16, .inl (jE F (e8r 0 li sr tm lp mi ix (nI L.length))))) := by rw [ef99, va_up_self]
    refine lv_goto (tgt := 268) hx hb dL_take_27 (by decide) ?_
    have h101 : f99 lf = some (.inl (cJ G, 64, .inr (.inl xs))) := by rw [ef99, va_up_ne _ _ (hneL k_lf k_le (Nat.ne_of_beq_eq_false rfl))]; exact k_lf
    have h102 : f99 lq = some (.inl (cI G, 12, .inl (j6r h2 gq))) := by rw [ef99, va_up_ne _ _ (hneL k_lq k_le (Nat.ne_of_beq_eq_false rfl))]; exact k_lq
    have hA : hearF ga (rk, ri, rx, rv) (st, li, sr, tm, lp, mi, ix, gq, L) = (0, li, sr, tm, lp, mi, ix, gq, L) := (if_neg (show ¬ rk = 0 from by rw [c1]; decide)).trans (if_pos c1)
    exact hp_vret B0 hw hS hr ⟨Nat.le_of_ble_eq_true rfl, Nat.le_of_ble_eq_true rfl⟩ dL_take_268 (⟨rfl, ⟨_, h101, (by rw [hA]; exact hX)⟩, (by rw [hA]; exact h102), (by rw [hA]; exact h100), (show hEq [lf, lq, le] f f99 from (by rw [ef99]; exact hEq.up (List.mem_cons_of_mem _ (List.mem_cons_of_mem _ List.mem_cons_self))))⟩)

def stepH (k : Nat) (z : ES × ES × Int32) : ES × ES × Int32 := if k % 2 = 0 then (tickS z.1, z.2.1, z.2.2 + tickV z.1) else (z.1, tickS z.2.1, z.2.2 + tickV z.2.1)
def runH : Nat → Nat → ES × ES × Int32 → ES × ES × Int32
  | 0, _, z => z
  | n + 1, k, z => runH n (k + 1) (stepH k z)
theorem runH_p : ∀ n i z, runH (2 * n) (2 * i) z = passF n z := by
  intro n
  induction n with
  | zero => intro i z; rfl
  | succ n ih =>
    intro i z
    have e1 : stepH (2 * i) z = (tickS z.1, z.2.1, z.2.2 + tickV z.1) := if_pos (by omega)
    have e2 : ∀ w, stepH (2 * i + 1) w = (w.1, tickS w.2.1, w.2.2 + tickV w.2.1) := fun w => if_neg (by omega)
    show runH (2 * n) (2 * i + 1 + 1) (stepH (2 * i + 1) (stepH (2 * i) z)) = passF n (tickS z.1, tickS z.2.1, z.2.2 + tickV z.1 + tickV z.2.1)
    rw [e1, e2, show 2 * i + 1 + 1 = 2 * (i + 1) by omega]
    exact ih (i + 1) _
theorem tickS_gq (S : ES) : (tickS S).2.2.2.2.2.2.2.1 = S.2.2.2.2.2.2.2.1 := by
  unfold tickS
  split
  · rfl
  · split
    · rw [begS_gq]; rfl
    · rfl
def pot (S : ES) : Nat := S.2.2.2.2.2.2.2.2.length + (10 - iN S.2.2.1)
theorem pot_beg {b : Nat} {S : ES} (h : SOK b S) : pot (begS S) ≤ pot S := by
  obtain ⟨-, -, ⟨q, hq, hq10⟩, -⟩ := h
  unfold pot begS
  by_cases c : S.2.2.1 < (10 : Int32)
  · rw [if_pos c]
    show (S.2.2.2.2.2.2.2.2 ++ [_]).length + (10 - iN (S.2.2.1 + 1)) ≤ _
    rw [hq] at c ⊢
    have := (nI_ltI (show q < 2 ^ 31 by omega) (show 10 < 2 ^ 31 by omega)).mp c
    rw [nI_1, iN_nI (by omega), iN_nI (by omega), List.length_append]
    show _ + 1 + _ ≤ _
    omega
  · rw [if_neg c]
    exact Nat.le_refl _
theorem pot_tick {b : Nat} {S : ES} (h : SOK b S) : pot (tickS S) ≤ pot S := by
  unfold tickS
  split
  · exact Nat.le_refl _
  · split
    · obtain ⟨⟨s, hs, hs4⟩, h2⟩ := h.tm (t := S.2.2.2.1 - 1)
      refine pot_beg (b := b) (S := ((if S.1 = 2 then 1 else S.1), (tmS S (S.2.2.2.1 - 1)).2)) ⟨?_, h2⟩
      show ∃ s1, (if S.1 = 2 then (1 : Int32) else S.1) = nI s1 ∧ s1 ≤ 4
      split
      · exact ⟨1, rfl, by omega⟩
      · exact ⟨s, hs, hs4⟩
    · exact Nat.le_refl _
theorem passF_ok : ∀ n b (z : ES × ES × Int32), SOK b z.1 → SOK b z.2.1 → b + n ≤ 1000000 → SOK (b + n) (passF n z).1 ∧ SOK (b + n) (passF n z).2.1 := by
  intro n
  induction n with
  | zero => intro b z h1 h2 _; exact ⟨h1, h2⟩
  | succ n ih =>
    intro b z h1 h2 h3
    have := ih (b + 1) (tickS z.1, tickS z.2.1, z.2.2 + tickV z.1 + tickV z.2.1) (h1.tick (by omega)) (h2.tick (by omega)) (by omega)
    rw [show b + (n + 1) = b + 1 + n by omega]
    exact this
theorem passF_pot : ∀ n b (z : ES × ES × Int32), SOK b z.1 → SOK b z.2.1 → b + n ≤ 1000000 → pot (passF n z).1 ≤ pot z.1 ∧ pot (passF n z).2.1 ≤ pot z.2.1 := by
  intro n
  induction n with
  | zero => intro b z h1 h2 _; exact ⟨Nat.le_refl _, Nat.le_refl _⟩
  | succ n ih =>
    intro b z h1 h2 h3
    have h4 := ih (b + 1) (tickS z.1, tickS z.2.1, z.2.2 + tickV z.1 + tickV z.2.1) (h1.tick (by omega)) (h2.tick (by omega)) (by omega)
    exact ⟨Nat.le_trans h4.1 (pot_tick h1), Nat.le_trans h4.2 (pot_tick h2)⟩
theorem pot_len (S : ES) : S.2.2.2.2.2.2.2.2.length ≤ pot S := Nat.le_add_right _ _
set_option maxHeartbeats 4000000 in
set_option maxRecDepth 100000 in
theorem c_L_goBy {l : Launch} (hl : l.stackTraces = false) (G : hG) (f : hM) (lx ly lq le : Nat) (S0 S1 : ES) (b : Nat) (hSo0 : SOK b S0) (hSo1 : SOK b S1) (hbo : b + 200 ≤ 1000000) (hpo0 : pot S0 ≤ 62) (hpo1 : pot S1 ≤ 62) (T : Nat) (hT1 : 1 ≤ T) (hT2 : T ≤ 50) (hxy : lx ≠ ly) (xs0 xs1 : Nat → Int64) (hX0 : XS xs0 S0.2.2.2.2.2.2.2.2) (hX1 : XS xs1 S1.2.2.2.2.2.2.2.2) (k_lx : f lx = some (.inl (cJ G, 64, .inr (.inl xs0)))) (k_ly : f ly = some (.inl (cJ G, 64, .inr (.inl xs1)))) (k_lq : f lq = some (.inl (cI G, 12, .inl (j6r S0.2.2.2.2.2.2.2.1 S1.2.2.2.2.2.2.2.1)))) (k_le : f le = some (.inl (cI G, 16, .inl (jE (eSt S0) (eSt S1))))) : CT l yL_goBy (.code yL_goBy cL_goBy 8 (some .int)) 2 53 0 0 G [.int (nI T), .ref lx, .ref ly, .ref lq, .ref le] f (fun v f1 => v = some (.int (passF T (S0, S1, 0)).2.2) ∧ (∃ xs : Nat → Int64, f1 lx = some (.inl (cJ G, 64, .inr (.inl xs))) ∧ XS xs (passF T (S0, S1, 0)).1.2.2.2.2.2.2.2.2) ∧ (∃ ys : Nat → Int64, f1 ly = some (.inl (cJ G, 64, .inr (.inl ys))) ∧ XS ys (passF T (S0, S1, 0)).2.1.2.2.2.2.2.2.2.2) ∧ f1 lq = some (.inl (cI G, 12, .inl (j6r (passF T (S0, S1, 0)).1.2.2.2.2.2.2.2.1 (passF T (S0, S1, 0)).2.1.2.2.2.2.2.2.2.1))) ∧ f1 le = some (.inl (cI G, 16, .inl (jE (eSt (passF T (S0, S1, 0)).1) (eSt (passF T (S0, S1, 0)).2.1)))) ∧ hEq [lx, ly, le] f f1) (fun E f1 => False) := by
  refine hp_start hl (own := RL) (by decide) rfl (Nat.le_of_ble_eq_true rfl) ?_
  intro p e s m args below meth c B0 hr hnm hout hw hS ls hl9
  have hx := B0.1
  have hb := B0.2.1
  have hl9 : lv_has ls 8 [(0, .int (nI T)), (1, .ref lx), (2, .ref ly), (3, .ref lq), (4, .ref le)] := hl9
  have n_lx_le : lx ≠ le := hneL k_lx k_le (Nat.ne_of_beq_eq_false rfl)
  have n_ly_le : ly ≠ le := hneL k_ly k_le (Nat.ne_of_beq_eq_false rfl)
  have n_lq_le : lq ≠ le := hneL k_lq k_le (Nat.ne_of_beq_eq_false rfl)
  have n_lq_lx : lq ≠ lx := hneL k_lq k_lx (Nat.ne_of_beq_eq_false rfl)
  have n_lq_ly : lq ≠ ly := hneL k_lq k_ly (Nat.ne_of_beq_eq_false rfl)
  refine lv_iconst (v := 0) hx hb dL_goBy_0 (by decide) ?_
  refine lv_istore (lv' := [(5, .int 0), (0, .int (nI T)), (1, .ref lx), (2, .ref ly), (3, .ref lq), (4, .ref le)]) hx hb dL_goBy_1 hl9 (by decide) rfl (fun ls hl9 => ?_)
  refine lv_iconst (v := 0) hx hb dL_goBy_3 (by decide) ?_
  refine lv_istore (lv' := [(6, .int 0), (5, .int 0), (0, .int (nI T)), (1, .ref lx), (2, .ref ly), (3, .ref lq), (4, .ref le)]) hx hb dL_goBy_4 hl9 (by decide) rfl (fun ls hl9 => ?_)
  refine hp_for (nL := 8) (pc := 6) (fun jj f9 lv9 => ∃ (S2 S3 : ES) (n9 : Int32), runH (2 * T - jj) jj (S2, S3, n9) = runH (2 * T) 0 (S0, S1, 0) ∧ SOK (b + jj) S2 ∧ SOK (b + jj) S3 ∧ pot S2 ≤ pot S0 ∧ pot S3 ≤ pot S1 ∧ (∃ xs : Nat → Int64, f9 lx = some (.inl (cJ G, 64, .inr (.inl xs))) ∧ XS xs S2.2.2.2.2.2.2.2.2) ∧ (∃ ys : Nat → Int64, f9 ly = some (.inl (cJ G, 64, .inr (.inl ys))) ∧ XS ys S3.2.2.2.2.2.2.2.2) ∧ f9 lq = some (.inl (cI G, 12, .inl (j6r S2.2.2.2.2.2.2.2.1 S3.2.2.2.2.2.2.2.1))) ∧ f9 le = some (.inl (cI G, 16, .inl (jE (eSt S2) (eSt S3)))) ∧ hEq [lx, ly, le] f f9 ∧ lv9 = [(6, .int (nI jj)), (5, .int n9), (0, .int (nI T)), (1, .ref lx), (2, .ref ly), (3, .ref lq), (4, .ref le)]) (2 * T) (fun jj f9 lv9 H locs ls hjj hI hw hS hl9 ih => ?_) (fun f9 lv9 H locs ls hI hw hS hl9 => ?_) (2 * T) 0 (Nat.zero_add _) f _ _ _ ls ⟨S0, S1, 0, rfl, hSo0, hSo1, Nat.le_refl _, Nat.le_refl _, ⟨_, k_lx, hX0⟩, ⟨_, k_ly, hX1⟩, k_lq, k_le, hEq.rf, rfl⟩ hw hS (lv_sub hl9 [0, 1, 2, 3, 4, 5, 6] rfl)
  · obtain ⟨S2, S3, n9, hr9, hs2, hs3, hp2, hp3, ⟨xs, hx9, hX⟩, ⟨ys, hy9, hY⟩, hq9, he9, hk9, el9⟩ := hI
    rw [el9] at hl9
    refine lv_iload hx hb dL_goBy_6 (lv_at hl9 0 rfl) ?_
    refine lv_iconst (v := 2) hx hb dL_goBy_8 (by decide) ?_
    refine lv_iload_n hx hb dL_goBy_9 rfl (lv_at hl9 2 rfl) ?_
    refine lv_imul hx hb dL_goBy_10 ?_
    refine hp_c (v := (nI (2 * T))) (pk_mul 2 T) ?_
    refine lv_icmp_ge (tgt := 115) hx hb dL_goBy_11 (by decide) (fun c9 => absurd c9 (nI_ge hjj (by omega))) (fun _ => ?_)
    rcases Nat.mod_two_eq_zero_or_one jj with hpar | hpar
    · have he9 : f9 le = some (.inl (cI G, 16, .inl (jE (e8r S2.1 S2.2.1 S2.2.2.1 S2.2.2.2.1 S2.2.2.2.2.1 S2.2.2.2.2.2.1 S2.2.2.2.2.2.2.1 (nI S2.2.2.2.2.2.2.2.2.length)) (eSt S3)))) := he9
      refine lv_bipush (v := 8) hx hb dL_goBy_14 (by decide) ?_
      refine lv_iload hx hb dL_goBy_16 (lv_at hl9 0 rfl) ?_
      refine lv_iconst (v := 2) hx hb dL_goBy_18 (by decide) ?_
      refine lv_irem hx hb dL_goBy_19 (by decide) ?_
      refine hp_c (v := 0) ((pk_rem (a := jj) (d := 2) (by omega) (by omega) (by omega)).trans (by rw [hpar]; rfl)) ?_
      refine lv_imul hx hb dL_goBy_20 ?_
      refine hp_c (v := 0) (by decide) ?_
      refine lv_istore (lv' := [(7, .int 0), (6, .int (nI jj)), (5, .int n9), (0, .int (nI T)), (1, .ref lx), (2, .ref ly), (3, .ref lq), (4, .ref le)]) hx hb dL_goBy_21 hl9 (by decide) rfl (fun ls hl9 => ?_)
      refine lv_aload hx hb dL_goBy_23 (lv_at hl9 7 rfl) ?_
      refine lv_iload hx hb dL_goBy_25 (lv_at hl9 0 rfl) ?_
      refine hp_iald B0 hw he9 (by unfold vp_in; decide) dL_goBy_27 ?_
      refine hp_c (v := S2.1) (rfl) ?_
      refine lv_if_eq (tgt := 109) hx hb dL_goBy_28 (by decide) (fun c1 => ?_) (fun c1 => ?_)
      · refine lv_iinc (v := (nI (jj + 1))) (lv' := [(6, .int (nI (jj + 1))), (7, .int 0), (5, .int n9), (0, .int (nI T)), (1, .ref lx), (2, .ref ly), (3, .ref lq), (4, .ref le)]) hx hb dL_goBy_109 hl9 (k := 1) rfl (nI_1 jj) (by decide) rfl (fun ls hl9 => ?_)
        refine lv_goto (tgt := 6) hx hb dL_goBy_112 (by decide) ?_
        have hA : tickS S2 = S2 := if_pos (Or.inl c1)
        have hV : tickV S2 = 0 := if_pos (Or.inl c1)
        have hn9 : n9 = n9 + tickV S2 := by rw [hV, Int32.add_zero]
        rw [show (Value.int n9) = Value.int (n9 + tickV S2) from congrArg Value.int hn9] at hl9
        exact ih _ _ H locs ls ⟨(tickS S2), S3, n9 + tickV S2, (by rw [← hr9, show 2 * T - jj = (2 * T - (jj + 1)) + 1 by omega]; show _ = runH (2 * T - (jj + 1)) (jj + 1) (stepH jj (S2, S3, n9)); rw [show stepH jj (S2, S3, n9) = (tickS S2, S3, n9 + tickV S2) from if_pos hpar]), hs2.tick (by omega), hs3.mono (by omega), Nat.le_trans (pot_tick hs2) hp2, hp3, ⟨_, hx9, (by rw [hA]; exact hX)⟩, ⟨_, hy9, hY⟩, (by rw [tickS_gq]; exact hq9), (by rw [hA]; exact he9), hk9.tr hEq.rf, rfl⟩ hw hS (lv_sub hl9 [0, 2, 3, 4, 5, 6, 7] rfl)
      · refine lv_aload hx hb dL_goBy_31 (lv_at hl9 7 rfl) ?_
        refine lv_iload hx hb dL_goBy_33 (lv_at hl9 0 rfl) ?_
        refine hp_iald B0 hw he9 (by unfold vp_in; decide) dL_goBy_35 ?_
        refine hp_c (v := S2.1) (rfl) ?_
        refine lv_iconst (v := 4) hx hb dL_goBy_36 (by decide) ?_
        refine lv_icmp_ne (tgt := 43) hx hb dL_goBy_37 (by decide) (fun c2 => ?_) (fun c2 => ?_)
        · refine lv_aload hx hb dL_goBy_43 (lv_at hl9 7 rfl) ?_
          refine lv_iload hx hb dL_goBy_45 (lv_at hl9 0 rfl) ?_
          refine lv_iconst (v := 3) hx hb dL_goBy_47 (by decide) ?_
          refine lv_iadd hx hb dL_goBy_48 ?_
          refine hp_c (v := 3) (by decide) ?_
          refine lv_dup2_11 hx hb dL_goBy_49 rfl rfl ?_
          refine hp_iald B0 hw he9 (by unfold vp_in; decide) dL_goBy_50 ?_
          refine hp_c (v := S2.2.2.2.1) (rfl) ?_
          refine lv_iconst (v := 1) hx hb dL_goBy_51 (by decide) ?_
          refine lv_isub hx hb dL_goBy_52 ?_
          refine hp_iast B0 hw hS he9 (by unfold vp_in; decide) dL_goBy_53 (fun H locs f3 ef3 hw hS => ?_)
          rw [show (upd (jE (e8r S2.1 S2.2.1 S2.2.2.1 S2.2.2.2.1 S2.2.2.2.2.1 S2.2.2.2.2.2.1 S2.2.2.2.2.2.2.1 (nI S2.2.2.2.2.2.2.2.2.length)) (eSt S3)) (3 : Int32).toNatClampNeg (S2.2.2.2.1 - 1) : Nat → Int32) = (jE (e8r S2.1 S2.2.1 S2.2.2.1 (S2.2.2.2.1 - 1) S2.2.2.2.2.1 S2.2.2.2.2.2.1 S2.2.2.2.2.2.2.1 (nI S2.2.2.2.2.2.2.2.2.length)) (eSt S3)) from (by rw [show (3 : Int32).toNatClampNeg = 3 from rfl, jE_u0 (by omega), e8_u3])] at ef3
          have h4 : f3 le = some (.inl (cI G, 16, .inl (jE (e8r S2.1 S2.2.1 S2.2.2.1 (S2.2.2.2.1 - 1) S2.2.2.2.2.1 S2.2.2.2.2.2.1 S2.2.2.2.2.2.2.1 (nI S2.2.2.2.2.2.2.2.2.length)) (eSt S3)))) := by rw [ef3, va_up_self]
          refine lv_aload hx hb dL_goBy_54 (lv_at hl9 7 rfl) ?_
          refine lv_iload hx hb dL_goBy_56 (lv_at hl9 0 rfl) ?_
          refine lv_iconst (v := 3) hx hb dL_goBy_58 (by decide) ?_
          refine lv_iadd hx hb dL_goBy_59 ?_
          refine hp_c (v := 3) (by decide) ?_
          refine hp_iald B0 hw h4 (by unfold vp_in; decide) dL_goBy_60 ?_
          refine hp_c (v := (S2.2.2.2.1 - 1)) (rfl) ?_
          refine lv_if_le (tgt := 67) hx hb dL_goBy_61 (by decide) (fun c5 => ?_) (fun c5 => ?_)
          · refine lv_aload hx hb dL_goBy_67 (lv_at hl9 7 rfl) ?_
            refine lv_iload hx hb dL_goBy_69 (lv_at hl9 0 rfl) ?_
            refine hp_iald B0 hw h4 (by unfold vp_in; decide) dL_goBy_71 ?_
            refine hp_c (v := S2.1) (rfl) ?_
            refine lv_iconst (v := 2) hx hb dL_goBy_72 (by decide) ?_
            refine lv_icmp_ne (tgt := 82) hx hb dL_goBy_73 (by decide) (fun c6 => ?_) (fun c6 => ?_)
            · refine lv_iload hx hb dL_goBy_82 (lv_at hl9 2 rfl) ?_
              refine lv_iload hx hb dL_goBy_84 (lv_at hl9 1 rfl) ?_
              refine lv_iconst (v := 2) hx hb dL_goBy_86 (by decide) ?_
              refine lv_irem hx hb dL_goBy_87 (by decide) ?_
              refine hp_c (v := 0) ((pk_rem (a := jj) (d := 2) (by omega) (by omega) (by omega)).trans (by rw [hpar]; rfl)) ?_
              refine lv_if_ne (tgt := 95) hx hb dL_goBy_88 (by decide) (fun c9 => absurd (by decide) c9) (fun _ => ?_)
              refine lv_aload_n hx hb dL_goBy_91 rfl (lv_at hl9 4 rfl) ?_
              refine lv_goto (tgt := 96) hx hb dL_goBy_92 (by decide) ?_
              refine lv_aload_n hx hb dL_goBy_96 rfl (lv_at hl9 6 rfl) ?_
              refine lv_aload hx hb dL_goBy_97 (lv_at hl9 7 rfl) ?_
              refine lv_iload hx hb dL_goBy_99 (lv_at hl9 1 rfl) ?_
              refine lv_iconst (v := 2) hx hb dL_goBy_101 (by decide) ?_
              refine lv_irem hx hb dL_goBy_102 (by decide) ?_
              refine hp_c (v := 0) ((pk_rem (a := jj) (d := 2) (by omega) (by omega) (by omega)).trans (by rw [hpar]; rfl)) ?_
              have h7 : f3 lx = some (.inl (cJ G, 64, .inr (.inl xs))) := by rw [ef3, va_up_ne _ _ n_lx_le]; exact hx9
              have h8 : f3 lq = some (.inl (cI G, 12, .inl (j6r S2.2.2.2.2.2.2.2.1 S3.2.2.2.2.2.2.2.1))) := by rw [ef3, va_up_ne _ _ n_lq_le]; exact hq9
              refine hp_S (As := [.ref lx, .ref lq, .ref le, .int 0]) (rest := [.int n9]) B0 hw hS (c_L_beg_0 hl G f3 lx lq le S2.1 S2.2.1 S2.2.2.1 (S2.2.2.2.1 - 1) S2.2.2.2.2.1 S2.2.2.2.2.2.1 S2.2.2.2.2.2.2.1 S2.2.2.2.2.2.2.2.1 S2.2.2.2.2.2.2.2.2 (eSt S3) S3.2.2.2.2.2.2.2.1 (b + jj) (show SOK (b + jj) (S2.1, S2.2.1, S2.2.2.1, (S2.2.2.2.1 - 1), S2.2.2.2.2.1, S2.2.2.2.2.2.1, S2.2.2.2.2.2.2.1, S2.2.2.2.2.2.2.2.1, S2.2.2.2.2.2.2.2.2) from (SOK.tm hs2)) (by omega) xs hX (Nat.lt_of_le_of_lt (Nat.le_trans (pot_len S2) hp2) (by omega)) h7 h8 h4) mS_L_beg qM_L_86 rfl rfl hl9.1 (Nat.le_of_ble_eq_true rfl) ⟨⟨Nat.le_of_ble_eq_true rfl, Nat.le_of_ble_eq_true rfl⟩, Nat.le_of_ble_eq_true rfl, Nat.le_of_ble_eq_true rfl⟩ dL_goBy_103 (fun E ce q9 f10 H locs hPX hw hS hce hcv hcl => ?_) (fun v f10 H locs hP hw hS => ?_)
              · exact hPX.elim
              · obtain ⟨ev9, ⟨xs11, h12, hX13⟩, h14, k15⟩ := hP
                subst ev9
                refine W.eq (g2 := F0 m 106 ls [.int (begV (S2.1, S2.2.1, S2.2.2.1, (S2.2.2.2.1 - 1), S2.2.2.2.2.1, S2.2.2.2.2.2.1, S2.2.2.2.2.2.2.1, S2.2.2.2.2.2.2.2.1, S2.2.2.2.2.2.2.2.2)), .int n9]) rfl ?_
                refine lv_iadd hx hb dL_goBy_106 ?_
                refine lv_istore (lv' := [(5, .int (n9 + (begV (S2.1, S2.2.1, S2.2.2.1, (S2.2.2.2.1 - 1), S2.2.2.2.2.1, S2.2.2.2.2.2.1, S2.2.2.2.2.2.2.1, S2.2.2.2.2.2.2.2.1, S2.2.2.2.2.2.2.2.2)))), (7, .int 0), (6, .int (nI jj)), (0, .int (nI T)), (1, .ref lx), (2, .ref ly), (3, .ref lq), (4, .ref le)]) hx hb dL_goBy_107 hl9 (by decide) rfl (fun ls hl9 => ?_)
                refine lv_iinc (v := (nI (jj + 1))) (lv' := [(6, .int (nI (jj + 1))), (5, .int (n9 + (begV (S2.1, S2.2.1, S2.2.2.1, (S2.2.2.2.1 - 1), S2.2.2.2.2.1, S2.2.2.2.2.2.1, S2.2.2.2.2.2.2.1, S2.2.2.2.2.2.2.2.1, S2.2.2.2.2.2.2.2.2)))), (7, .int 0), (0, .int (nI T)), (1, .ref lx), (2, .ref ly), (3, .ref lq), (4, .ref le)]) hx hb dL_goBy_109 hl9 (k := 2) rfl (nI_1 jj) (by decide) rfl (fun ls hl9 => ?_)
                refine lv_goto (tgt := 6) hx hb dL_goBy_112 (by decide) ?_
                have h16 : f3 ly = some (.inl (cJ G, 64, .inr (.inl ys))) := by rw [ef3, va_up_ne _ _ n_ly_le]; exact hy9
                have h17 : f10 ly = some (.inl (cJ G, 64, .inr (.inl ys))) := (hEq.k k15) _ _ h16 (ninc (Ne.symm hxy) (ninc n_ly_le nin0))
                have h18 : f10 lq = some (.inl (cI G, 12, .inl (j6r S2.2.2.2.2.2.2.2.1 S3.2.2.2.2.2.2.2.1))) := (hEq.k k15) _ _ h8 (ninc n_lq_lx (ninc n_lq_le nin0))
                have hA : tickS S2 = begS (S2.1, S2.2.1, S2.2.2.1, (S2.2.2.2.1 - 1), S2.2.2.2.2.1, S2.2.2.2.2.2.1, S2.2.2.2.2.2.2.1, S2.2.2.2.2.2.2.2.1, S2.2.2.2.2.2.2.2.2) := ((if_neg (fun h9 => h9.elim c1 c2)).trans (if_pos c5)).trans (by rw [if_neg c6]; rfl)
                have hV : tickV S2 = begV (S2.1, S2.2.1, S2.2.2.1, (S2.2.2.2.1 - 1), S2.2.2.2.2.1, S2.2.2.2.2.2.1, S2.2.2.2.2.2.2.1, S2.2.2.2.2.2.2.2.1, S2.2.2.2.2.2.2.2.2) := ((if_neg (fun h9 => h9.elim c1 c2)).trans (if_pos c5)).trans (by rfl)
                have hn9 : (n9 + (begV (S2.1, S2.2.1, S2.2.2.1, (S2.2.2.2.1 - 1), S2.2.2.2.2.1, S2.2.2.2.2.2.1, S2.2.2.2.2.2.2.1, S2.2.2.2.2.2.2.2.1, S2.2.2.2.2.2.2.2.2))) = n9 + tickV S2 := by rw [hV]
                rw [hn9] at hl9
                exact ih _ _ H locs ls ⟨(tickS S2), S3, n9 + tickV S2, (by rw [← hr9, show 2 * T - jj = (2 * T - (jj + 1)) + 1 by omega]; show _ = runH (2 * T - (jj + 1)) (jj + 1) (stepH jj (S2, S3, n9)); rw [show stepH jj (S2, S3, n9) = (tickS S2, S3, n9 + tickV S2) from if_pos hpar]), hs2.tick (by omega), hs3.mono (by omega), Nat.le_trans (pot_tick hs2) hp2, hp3, ⟨_, h12, (by rw [hA]; exact hX13)⟩, ⟨_, h17, hY⟩, (by rw [tickS_gq]; exact h18), (by rw [hA]; exact h14), hk9.tr ((show hEq [lx, ly, le] f9 f3 from (by rw [ef3]; exact hEq.up (List.mem_cons_of_mem _ (List.mem_cons_of_mem _ List.mem_cons_self)))).tr (show hEq [lx, ly, le] f3 f10 from (hEq.mono k15 (sub_cons List.mem_cons_self (sub_cons (List.mem_cons_of_mem _ (List.mem_cons_of_mem _ List.mem_cons_self)) sub_nil))))), rfl⟩ hw hS (lv_sub hl9 [0, 1, 3, 4, 5, 6, 7] rfl)
            · refine lv_aload hx hb dL_goBy_76 (lv_at hl9 7 rfl) ?_
              refine lv_iload hx hb dL_goBy_78 (lv_at hl9 0 rfl) ?_
              refine lv_iconst (v := 1) hx hb dL_goBy_80 (by decide) ?_
              refine hp_iast B0 hw hS h4 (by unfold vp_in; decide) dL_goBy_81 (fun H locs f19 ef19 hw hS => ?_)
              rw [show (upd (jE (e8r S2.1 S2.2.1 S2.2.2.1 (S2.2.2.2.1 - 1) S2.2.2.2.2.1 S2.2.2.2.2.2.1 S2.2.2.2.2.2.2.1 (nI S2.2.2.2.2.2.2.2.2.length)) (eSt S3)) (0 : Int32).toNatClampNeg 1 : Nat → Int32) = (jE (e8r 1 S2.2.1 S2.2.2.1 (S2.2.2.2.1 - 1) S2.2.2.2.2.1 S2.2.2.2.2.2.1 S2.2.2.2.2.2.2.1 (nI S2.2.2.2.2.2.2.2.2.length)) (eSt S3)) from (by rw [show (0 : Int32).toNatClampNeg = 0 from rfl, jE_u0 (by omega), e8_u0])] at ef19
              have e20 : f19 = va_up f9 le (some (.inl (cI G, 16, .inl (jE (e8r 1 S2.2.1 S2.2.2.1 (S2.2.2.2.1 - 1) S2.2.2.2.2.1 S2.2.2.2.2.2.1 S2.2.2.2.2.2.2.1 (nI S2.2.2.2.2.2.2.2.2.length)) (eSt S3))))) := by rw [ef19, ef3, bx_uu]
              have h21 : f19 le = some (.inl (cI G, 16, .inl (jE (e8r 1 S2.2.1 S2.2.2.1 (S2.2.2.2.1 - 1) S2.2.2.2.2.1 S2.2.2.2.2.2.1 S2.2.2.2.2.2.2.1 (nI S2.2.2.2.2.2.2.2.2.length)) (eSt S3)))) := by rw [ef19, va_up_self]
              refine lv_iload hx hb dL_goBy_82 (lv_at hl9 2 rfl) ?_
              refine lv_iload hx hb dL_goBy_84 (lv_at hl9 1 rfl) ?_
              refine lv_iconst (v := 2) hx hb dL_goBy_86 (by decide) ?_
              refine lv_irem hx hb dL_goBy_87 (by decide) ?_
              refine hp_c (v := 0) ((pk_rem (a := jj) (d := 2) (by omega) (by omega) (by omega)).trans (by rw [hpar]; rfl)) ?_
              refine lv_if_ne (tgt := 95) hx hb dL_goBy_88 (by decide) (fun c9 => absurd (by decide) c9) (fun _ => ?_)
              refine lv_aload_n hx hb dL_goBy_91 rfl (lv_at hl9 4 rfl) ?_
              refine lv_goto (tgt := 96) hx hb dL_goBy_92 (by decide) ?_
              refine lv_aload_n hx hb dL_goBy_96 rfl (lv_at hl9 6 rfl) ?_
              refine lv_aload hx hb dL_goBy_97 (lv_at hl9 7 rfl) ?_
              refine lv_iload hx hb dL_goBy_99 (lv_at hl9 1 rfl) ?_
              refine lv_iconst (v := 2) hx hb dL_goBy_101 (by decide) ?_
              refine lv_irem hx hb dL_goBy_102 (by decide) ?_
              refine hp_c (v := 0) ((pk_rem (a := jj) (d := 2) (by omega) (by omega) (by omega)).trans (by rw [hpar]; rfl)) ?_
              have h22 : f19 lx = some (.inl (cJ G, 64, .inr (.inl xs))) := by rw [e20, va_up_ne _ _ n_lx_le]; exact hx9
              have h23 : f19 lq = some (.inl (cI G, 12, .inl (j6r S2.2.2.2.2.2.2.2.1 S3.2.2.2.2.2.2.2.1))) := by rw [e20, va_up_ne _ _ n_lq_le]; exact hq9
              refine hp_S (As := [.ref lx, .ref lq, .ref le, .int 0]) (rest := [.int n9]) B0 hw hS (c_L_beg_0 hl G f19 lx lq le 1 S2.2.1 S2.2.2.1 (S2.2.2.2.1 - 1) S2.2.2.2.2.1 S2.2.2.2.2.2.1 S2.2.2.2.2.2.2.1 S2.2.2.2.2.2.2.2.1 S2.2.2.2.2.2.2.2.2 (eSt S3) S3.2.2.2.2.2.2.2.1 (b + jj) (show SOK (b + jj) (1, S2.2.1, S2.2.2.1, (S2.2.2.2.1 - 1), S2.2.2.2.2.1, S2.2.2.2.2.2.1, S2.2.2.2.2.2.2.1, S2.2.2.2.2.2.2.2.1, S2.2.2.2.2.2.2.2.2) from (SOK.st1 (SOK.tm hs2))) (by omega) xs hX (Nat.lt_of_le_of_lt (Nat.le_trans (pot_len S2) hp2) (by omega)) h22 h23 h21) mS_L_beg qM_L_86 rfl rfl hl9.1 (Nat.le_of_ble_eq_true rfl) ⟨⟨Nat.le_of_ble_eq_true rfl, Nat.le_of_ble_eq_true rfl⟩, Nat.le_of_ble_eq_true rfl, Nat.le_of_ble_eq_true rfl⟩ dL_goBy_103 (fun E ce q9 f24 H locs hPX hw hS hce hcv hcl => ?_) (fun v f24 H locs hP hw hS => ?_)
              · exact hPX.elim
              · obtain ⟨ev9, ⟨xs25, h26, hX27⟩, h28, k29⟩ := hP
                subst ev9
                refine W.eq (g2 := F0 m 106 ls [.int (begV (1, S2.2.1, S2.2.2.1, (S2.2.2.2.1 - 1), S2.2.2.2.2.1, S2.2.2.2.2.2.1, S2.2.2.2.2.2.2.1, S2.2.2.2.2.2.2.2.1, S2.2.2.2.2.2.2.2.2)), .int n9]) rfl ?_
                refine lv_iadd hx hb dL_goBy_106 ?_
                refine lv_istore (lv' := [(5, .int (n9 + (begV (1, S2.2.1, S2.2.2.1, (S2.2.2.2.1 - 1), S2.2.2.2.2.1, S2.2.2.2.2.2.1, S2.2.2.2.2.2.2.1, S2.2.2.2.2.2.2.2.1, S2.2.2.2.2.2.2.2.2)))), (7, .int 0), (6, .int (nI jj)), (0, .int (nI T)), (1, .ref lx), (2, .ref ly), (3, .ref lq), (4, .ref le)]) hx hb dL_goBy_107 hl9 (by decide) rfl (fun ls hl9 => ?_)
                refine lv_iinc (v := (nI (jj + 1))) (lv' := [(6, .int (nI (jj + 1))), (5, .int (n9 + (begV (1, S2.2.1, S2.2.2.1, (S2.2.2.2.1 - 1), S2.2.2.2.2.1, S2.2.2.2.2.2.1, S2.2.2.2.2.2.2.1, S2.2.2.2.2.2.2.2.1, S2.2.2.2.2.2.2.2.2)))), (7, .int 0), (0, .int (nI T)), (1, .ref lx), (2, .ref ly), (3, .ref lq), (4, .ref le)]) hx hb dL_goBy_109 hl9 (k := 2) rfl (nI_1 jj) (by decide) rfl (fun ls hl9 => ?_)
                refine lv_goto (tgt := 6) hx hb dL_goBy_112 (by decide) ?_
                have h30 : f19 ly = some (.inl (cJ G, 64, .inr (.inl ys))) := by rw [e20, va_up_ne _ _ n_ly_le]; exact hy9
                have h31 : f24 ly = some (.inl (cJ G, 64, .inr (.inl ys))) := (hEq.k k29) _ _ h30 (ninc (Ne.symm hxy) (ninc n_ly_le nin0))
                have h32 : f24 lq = some (.inl (cI G, 12, .inl (j6r S2.2.2.2.2.2.2.2.1 S3.2.2.2.2.2.2.2.1))) := (hEq.k k29) _ _ h23 (ninc n_lq_lx (ninc n_lq_le nin0))
                have hA : tickS S2 = begS (1, S2.2.1, S2.2.2.1, (S2.2.2.2.1 - 1), S2.2.2.2.2.1, S2.2.2.2.2.2.1, S2.2.2.2.2.2.2.1, S2.2.2.2.2.2.2.2.1, S2.2.2.2.2.2.2.2.2) := ((if_neg (fun h9 => h9.elim c1 c2)).trans (if_pos c5)).trans (by rw [if_pos c6]; rfl)
                have hV : tickV S2 = begV (1, S2.2.1, S2.2.2.1, (S2.2.2.2.1 - 1), S2.2.2.2.2.1, S2.2.2.2.2.2.1, S2.2.2.2.2.2.2.1, S2.2.2.2.2.2.2.2.1, S2.2.2.2.2.2.2.2.2) := ((if_neg (fun h9 => h9.elim c1 c2)).trans (if_pos c5)).trans (by rfl)
                have hn9 : (n9 + (begV (1, S2.2.1, S2.2.2.1, (S2.2.2.2.1 - 1), S2.2.2.2.2.1, S2.2.2.2.2.2.1, S2.2.2.2.2.2.2.1, S2.2.2.2.2.2.2.2.1, S2.2.2.2.2.2.2.2.2))) = n9 + tickV S2 := by rw [hV]
                rw [hn9] at hl9
                exact ih _ _ H locs ls ⟨(tickS S2), S3, n9 + tickV S2, (by rw [← hr9, show 2 * T - jj = (2 * T - (jj + 1)) + 1 by omega]; show _ = runH (2 * T - (jj + 1)) (jj + 1) (stepH jj (S2, S3, n9)); rw [show stepH jj (S2, S3, n9) = (tickS S2, S3, n9 + tickV S2) from if_pos hpar]), hs2.tick (by omega), hs3.mono (by omega), Nat.le_trans (pot_tick hs2) hp2, hp3, ⟨_, h26, (by rw [hA]; exact hX27)⟩, ⟨_, h31, hY⟩, (by rw [tickS_gq]; exact h32), (by rw [hA]; exact h28), hk9.tr ((show hEq [lx, ly, le] f9 f19 from (by rw [e20]; exact hEq.up (List.mem_cons_of_mem _ (List.mem_cons_of_mem _ List.mem_cons_self)))).tr (show hEq [lx, ly, le] f19 f24 from (hEq.mono k29 (sub_cons List.mem_cons_self (sub_cons (List.mem_cons_of_mem _ (List.mem_cons_of_mem _ List.mem_cons_self)) sub_nil))))), rfl⟩ hw hS (lv_sub hl9 [0, 1, 3, 4, 5, 6, 7] rfl)
          · refine lv_goto (tgt := 109) hx hb dL_goBy_64 (by decide) ?_
            refine lv_iinc (v := (nI (jj + 1))) (lv' := [(6, .int (nI (jj + 1))), (7, .int 0), (5, .int n9), (0, .int (nI T)), (1, .ref lx), (2, .ref ly), (3, .ref lq), (4, .ref le)]) hx hb dL_goBy_109 hl9 (k := 1) rfl (nI_1 jj) (by decide) rfl (fun ls hl9 => ?_)
            refine lv_goto (tgt := 6) hx hb dL_goBy_112 (by decide) ?_
            have h33 : f3 lx = some (.inl (cJ G, 64, .inr (.inl xs))) := by rw [ef3, va_up_ne _ _ n_lx_le]; exact hx9
            have h34 : f3 ly = some (.inl (cJ G, 64, .inr (.inl ys))) := by rw [ef3, va_up_ne _ _ n_ly_le]; exact hy9
            have h35 : f3 lq = some (.inl (cI G, 12, .inl (j6r S2.2.2.2.2.2.2.2.1 S3.2.2.2.2.2.2.2.1))) := by rw [ef3, va_up_ne _ _ n_lq_le]; exact hq9
            have hA : tickS S2 = (S2.1, S2.2.1, S2.2.2.1, (S2.2.2.2.1 - 1), S2.2.2.2.2.1, S2.2.2.2.2.2.1, S2.2.2.2.2.2.2.1, S2.2.2.2.2.2.2.2.1, S2.2.2.2.2.2.2.2.2) := (if_neg (fun h9 => h9.elim c1 c2)).trans (if_neg c5)
            have hV : tickV S2 = 0 := (if_neg (fun h9 => h9.elim c1 c2)).trans (if_neg c5)
            have hn9 : n9 = n9 + tickV S2 := by rw [hV, Int32.add_zero]
            rw [show (Value.int n9) = Value.int (n9 + tickV S2) from congrArg Value.int hn9] at hl9
            exact ih _ _ H locs ls ⟨(tickS S2), S3, n9 + tickV S2, (by rw [← hr9, show 2 * T - jj = (2 * T - (jj + 1)) + 1 by omega]; show _ = runH (2 * T - (jj + 1)) (jj + 1) (stepH jj (S2, S3, n9)); rw [show stepH jj (S2, S3, n9) = (tickS S2, S3, n9 + tickV S2) from if_pos hpar]), hs2.tick (by omega), hs3.mono (by omega), Nat.le_trans (pot_tick hs2) hp2, hp3, ⟨_, h33, (by rw [hA]; exact hX)⟩, ⟨_, h34, hY⟩, (by rw [tickS_gq]; exact h35), (by rw [hA]; exact h4), hk9.tr (show hEq [lx, ly, le] f9 f3 from (by rw [ef3]; exact hEq.up (List.mem_cons_of_mem _ (List.mem_cons_of_mem _ List.mem_cons_self)))), rfl⟩ hw hS (lv_sub hl9 [0, 2, 3, 4, 5, 6, 7] rfl)
        · refine lv_goto (tgt := 109) hx hb dL_goBy_40 (by decide) ?_
          refine lv_iinc (v := (nI (jj + 1))) (lv' := [(6, .int (nI (jj + 1))), (7, .int 0), (5, .int n9), (0, .int (nI T)), (1, .ref lx), (2, .ref ly), (3, .ref lq), (4, .ref le)]) hx hb dL_goBy_109 hl9 (k := 1) rfl (nI_1 jj) (by decide) rfl (fun ls hl9 => ?_)
          refine lv_goto (tgt := 6) hx hb dL_goBy_112 (by decide) ?_
          have hA : tickS S2 = S2 := if_pos (Or.inr c2)
          have hV : tickV S2 = 0 := if_pos (Or.inr c2)
          have hn9 : n9 = n9 + tickV S2 := by rw [hV, Int32.add_zero]
          rw [show (Value.int n9) = Value.int (n9 + tickV S2) from congrArg Value.int hn9] at hl9
          exact ih _ _ H locs ls ⟨(tickS S2), S3, n9 + tickV S2, (by rw [← hr9, show 2 * T - jj = (2 * T - (jj + 1)) + 1 by omega]; show _ = runH (2 * T - (jj + 1)) (jj + 1) (stepH jj (S2, S3, n9)); rw [show stepH jj (S2, S3, n9) = (tickS S2, S3, n9 + tickV S2) from if_pos hpar]), hs2.tick (by omega), hs3.mono (by omega), Nat.le_trans (pot_tick hs2) hp2, hp3, ⟨_, hx9, (by rw [hA]; exact hX)⟩, ⟨_, hy9, hY⟩, (by rw [tickS_gq]; exact hq9), (by rw [hA]; exact he9), hk9.tr hEq.rf, rfl⟩ hw hS (lv_sub hl9 [0, 2, 3, 4, 5, 6, 7] rfl)
    · have he9 : f9 le = some (.inl (cI G, 16, .inl (jE (eSt S2) (e8r S3.1 S3.2.1 S3.2.2.1 S3.2.2.2.1 S3.2.2.2.2.1 S3.2.2.2.2.2.1 S3.2.2.2.2.2.2.1 (nI S3.2.2.2.2.2.2.2.2.length))))) := he9
      refine lv_bipush (v := 8) hx hb dL_goBy_14 (by decide) ?_
      refine lv_iload hx hb dL_goBy_16 (lv_at hl9 0 rfl) ?_
      refine lv_iconst (v := 2) hx hb dL_goBy_18 (by decide) ?_
      refine lv_irem hx hb dL_goBy_19 (by decide) ?_
      refine hp_c (v := 1) ((pk_rem (a := jj) (d := 2) (by omega) (by omega) (by omega)).trans (by rw [hpar]; rfl)) ?_
      refine lv_imul hx hb dL_goBy_20 ?_
      refine hp_c (v := 8) (by decide) ?_
      refine lv_istore (lv' := [(7, .int 8), (6, .int (nI jj)), (5, .int n9), (0, .int (nI T)), (1, .ref lx), (2, .ref ly), (3, .ref lq), (4, .ref le)]) hx hb dL_goBy_21 hl9 (by decide) rfl (fun ls hl9 => ?_)
      refine lv_aload hx hb dL_goBy_23 (lv_at hl9 7 rfl) ?_
      refine lv_iload hx hb dL_goBy_25 (lv_at hl9 0 rfl) ?_
      refine hp_iald B0 hw he9 (by unfold vp_in; decide) dL_goBy_27 ?_
      refine hp_c (v := S3.1) (rfl) ?_
      refine lv_if_eq (tgt := 109) hx hb dL_goBy_28 (by decide) (fun c36 => ?_) (fun c36 => ?_)
      · refine lv_iinc (v := (nI (jj + 1))) (lv' := [(6, .int (nI (jj + 1))), (7, .int 8), (5, .int n9), (0, .int (nI T)), (1, .ref lx), (2, .ref ly), (3, .ref lq), (4, .ref le)]) hx hb dL_goBy_109 hl9 (k := 1) rfl (nI_1 jj) (by decide) rfl (fun ls hl9 => ?_)
        refine lv_goto (tgt := 6) hx hb dL_goBy_112 (by decide) ?_
        have hA : tickS S3 = S3 := if_pos (Or.inl c36)
        have hV : tickV S3 = 0 := if_pos (Or.inl c36)
        have hn9 : n9 = n9 + tickV S3 := by rw [hV, Int32.add_zero]
        rw [show (Value.int n9) = Value.int (n9 + tickV S3) from congrArg Value.int hn9] at hl9
        exact ih _ _ H locs ls ⟨S2, (tickS S3), n9 + tickV S3, (by rw [← hr9, show 2 * T - jj = (2 * T - (jj + 1)) + 1 by omega]; show _ = runH (2 * T - (jj + 1)) (jj + 1) (stepH jj (S2, S3, n9)); rw [show stepH jj (S2, S3, n9) = (S2, tickS S3, n9 + tickV S3) from if_neg (by omega)]), hs2.mono (by omega), hs3.tick (by omega), hp2, Nat.le_trans (pot_tick hs3) hp3, ⟨_, hx9, hX⟩, ⟨_, hy9, (by rw [hA]; exact hY)⟩, (by rw [tickS_gq]; exact hq9), (by rw [hA]; exact he9), hk9.tr hEq.rf, rfl⟩ hw hS (lv_sub hl9 [0, 2, 3, 4, 5, 6, 7] rfl)
      · refine lv_aload hx hb dL_goBy_31 (lv_at hl9 7 rfl) ?_
        refine lv_iload hx hb dL_goBy_33 (lv_at hl9 0 rfl) ?_
        refine hp_iald B0 hw he9 (by unfold vp_in; decide) dL_goBy_35 ?_
        refine hp_c (v := S3.1) (rfl) ?_
        refine lv_iconst (v := 4) hx hb dL_goBy_36 (by decide) ?_
        refine lv_icmp_ne (tgt := 43) hx hb dL_goBy_37 (by decide) (fun c37 => ?_) (fun c37 => ?_)
        · refine lv_aload hx hb dL_goBy_43 (lv_at hl9 7 rfl) ?_
          refine lv_iload hx hb dL_goBy_45 (lv_at hl9 0 rfl) ?_
          refine lv_iconst (v := 3) hx hb dL_goBy_47 (by decide) ?_
          refine lv_iadd hx hb dL_goBy_48 ?_
          refine hp_c (v := 11) (by decide) ?_
          refine lv_dup2_11 hx hb dL_goBy_49 rfl rfl ?_
          refine hp_iald B0 hw he9 (by unfold vp_in; decide) dL_goBy_50 ?_
          refine hp_c (v := S3.2.2.2.1) (rfl) ?_
          refine lv_iconst (v := 1) hx hb dL_goBy_51 (by decide) ?_
          refine lv_isub hx hb dL_goBy_52 ?_
          refine hp_iast B0 hw hS he9 (by unfold vp_in; decide) dL_goBy_53 (fun H locs f38 ef38 hw hS => ?_)
          rw [show (upd (jE (eSt S2) (e8r S3.1 S3.2.1 S3.2.2.1 S3.2.2.2.1 S3.2.2.2.2.1 S3.2.2.2.2.2.1 S3.2.2.2.2.2.2.1 (nI S3.2.2.2.2.2.2.2.2.length))) (11 : Int32).toNatClampNeg (S3.2.2.2.1 - 1) : Nat → Int32) = (jE (eSt S2) (e8r S3.1 S3.2.1 S3.2.2.1 (S3.2.2.2.1 - 1) S3.2.2.2.2.1 S3.2.2.2.2.2.1 S3.2.2.2.2.2.2.1 (nI S3.2.2.2.2.2.2.2.2.length))) from (by rw [show (11 : Int32).toNatClampNeg = 8 + 3 from rfl, jE_u1, e8_u3])] at ef38
          have h39 : f38 le = some (.inl (cI G, 16, .inl (jE (eSt S2) (e8r S3.1 S3.2.1 S3.2.2.1 (S3.2.2.2.1 - 1) S3.2.2.2.2.1 S3.2.2.2.2.2.1 S3.2.2.2.2.2.2.1 (nI S3.2.2.2.2.2.2.2.2.length))))) := by rw [ef38, va_up_self]
          refine lv_aload hx hb dL_goBy_54 (lv_at hl9 7 rfl) ?_
          refine lv_iload hx hb dL_goBy_56 (lv_at hl9 0 rfl) ?_
          refine lv_iconst (v := 3) hx hb dL_goBy_58 (by decide) ?_
          refine lv_iadd hx hb dL_goBy_59 ?_
          refine hp_c (v := 11) (by decide) ?_
          refine hp_iald B0 hw h39 (by unfold vp_in; decide) dL_goBy_60 ?_
          refine hp_c (v := (S3.2.2.2.1 - 1)) (rfl) ?_
          refine lv_if_le (tgt := 67) hx hb dL_goBy_61 (by decide) (fun c40 => ?_) (fun c40 => ?_)
          · refine lv_aload hx hb dL_goBy_67 (lv_at hl9 7 rfl) ?_
            refine lv_iload hx hb dL_goBy_69 (lv_at hl9 0 rfl) ?_
            refine hp_iald B0 hw h39 (by unfold vp_in; decide) dL_goBy_71 ?_
            refine hp_c (v := S3.1) (rfl) ?_
            refine lv_iconst (v := 2) hx hb dL_goBy_72 (by decide) ?_
            refine lv_icmp_ne (tgt := 82) hx hb dL_goBy_73 (by decide) (fun c41 => ?_) (fun c41 => ?_)
            · refine lv_iload hx hb dL_goBy_82 (lv_at hl9 2 rfl) ?_
              refine lv_iload hx hb dL_goBy_84 (lv_at hl9 1 rfl) ?_
              refine lv_iconst (v := 2) hx hb dL_goBy_86 (by decide) ?_
              refine lv_irem hx hb dL_goBy_87 (by decide) ?_
              refine hp_c (v := 1) ((pk_rem (a := jj) (d := 2) (by omega) (by omega) (by omega)).trans (by rw [hpar]; rfl)) ?_
              refine lv_if_ne (tgt := 95) hx hb dL_goBy_88 (by decide) (fun _ => ?_) (fun c9 => absurd c9 (by decide))
              refine lv_aload_n hx hb dL_goBy_95 rfl (lv_at hl9 5 rfl) ?_
              refine lv_aload_n hx hb dL_goBy_96 rfl (lv_at hl9 6 rfl) ?_
              refine lv_aload hx hb dL_goBy_97 (lv_at hl9 7 rfl) ?_
              refine lv_iload hx hb dL_goBy_99 (lv_at hl9 1 rfl) ?_
              refine lv_iconst (v := 2) hx hb dL_goBy_101 (by decide) ?_
              refine lv_irem hx hb dL_goBy_102 (by decide) ?_
              refine hp_c (v := 1) ((pk_rem (a := jj) (d := 2) (by omega) (by omega) (by omega)).trans (by rw [hpar]; rfl)) ?_
              have h42 : f38 ly = some (.inl (cJ G, 64, .inr (.inl ys))) := by rw [ef38, va_up_ne _ _ n_ly_le]; exact hy9
              have h43 : f38 lq = some (.inl (cI G, 12, .inl (j6r S2.2.2.2.2.2.2.2.1 S3.2.2.2.2.2.2.2.1))) := by rw [ef38, va_up_ne _ _ n_lq_le]; exact hq9
              refine hp_S (As := [.ref ly, .ref lq, .ref le, .int 1]) (rest := [.int n9]) B0 hw hS (c_L_beg_1 hl G f38 ly lq le S3.1 S3.2.1 S3.2.2.1 (S3.2.2.2.1 - 1) S3.2.2.2.2.1 S3.2.2.2.2.2.1 S3.2.2.2.2.2.2.1 S3.2.2.2.2.2.2.2.1 S3.2.2.2.2.2.2.2.2 (eSt S2) S2.2.2.2.2.2.2.2.1 (b + jj) (show SOK (b + jj) (S3.1, S3.2.1, S3.2.2.1, (S3.2.2.2.1 - 1), S3.2.2.2.2.1, S3.2.2.2.2.2.1, S3.2.2.2.2.2.2.1, S3.2.2.2.2.2.2.2.1, S3.2.2.2.2.2.2.2.2) from (SOK.tm hs3)) (by omega) ys hY (Nat.lt_of_le_of_lt (Nat.le_trans (pot_len S3) hp3) (by omega)) h42 h43 h39) mS_L_beg qM_L_86 rfl rfl hl9.1 (Nat.le_of_ble_eq_true rfl) ⟨⟨Nat.le_of_ble_eq_true rfl, Nat.le_of_ble_eq_true rfl⟩, Nat.le_of_ble_eq_true rfl, Nat.le_of_ble_eq_true rfl⟩ dL_goBy_103 (fun E ce q9 f44 H locs hPX hw hS hce hcv hcl => ?_) (fun v f44 H locs hP hw hS => ?_)
              · exact hPX.elim
              · obtain ⟨ev9, ⟨xs45, h46, hX47⟩, h48, k49⟩ := hP
                subst ev9
                refine W.eq (g2 := F0 m 106 ls [.int (begV (S3.1, S3.2.1, S3.2.2.1, (S3.2.2.2.1 - 1), S3.2.2.2.2.1, S3.2.2.2.2.2.1, S3.2.2.2.2.2.2.1, S3.2.2.2.2.2.2.2.1, S3.2.2.2.2.2.2.2.2)), .int n9]) rfl ?_
                refine lv_iadd hx hb dL_goBy_106 ?_
                refine lv_istore (lv' := [(5, .int (n9 + (begV (S3.1, S3.2.1, S3.2.2.1, (S3.2.2.2.1 - 1), S3.2.2.2.2.1, S3.2.2.2.2.2.1, S3.2.2.2.2.2.2.1, S3.2.2.2.2.2.2.2.1, S3.2.2.2.2.2.2.2.2)))), (7, .int 8), (6, .int (nI jj)), (0, .int (nI T)), (1, .ref lx), (2, .ref ly), (3, .ref lq), (4, .ref le)]) hx hb dL_goBy_107 hl9 (by decide) rfl (fun ls hl9 => ?_)
                refine lv_iinc (v := (nI (jj + 1))) (lv' := [(6, .int (nI (jj + 1))), (5, .int (n9 + (begV (S3.1, S3.2.1, S3.2.2.1, (S3.2.2.2.1 - 1), S3.2.2.2.2.1, S3.2.2.2.2.2.1, S3.2.2.2.2.2.2.1, S3.2.2.2.2.2.2.2.1, S3.2.2.2.2.2.2.2.2)))), (7, .int 8), (0, .int (nI T)), (1, .ref lx), (2, .ref ly), (3, .ref lq), (4, .ref le)]) hx hb dL_goBy_109 hl9 (k := 2) rfl (nI_1 jj) (by decide) rfl (fun ls hl9 => ?_)
                refine lv_goto (tgt := 6) hx hb dL_goBy_112 (by decide) ?_
                have h50 : f38 lx = some (.inl (cJ G, 64, .inr (.inl xs))) := by rw [ef38, va_up_ne _ _ n_lx_le]; exact hx9
                have h51 : f44 lx = some (.inl (cJ G, 64, .inr (.inl xs))) := (hEq.k k49) _ _ h50 (ninc hxy (ninc n_lx_le nin0))
                have h52 : f44 lq = some (.inl (cI G, 12, .inl (j6r S2.2.2.2.2.2.2.2.1 S3.2.2.2.2.2.2.2.1))) := (hEq.k k49) _ _ h43 (ninc n_lq_ly (ninc n_lq_le nin0))
                have hA : tickS S3 = begS (S3.1, S3.2.1, S3.2.2.1, (S3.2.2.2.1 - 1), S3.2.2.2.2.1, S3.2.2.2.2.2.1, S3.2.2.2.2.2.2.1, S3.2.2.2.2.2.2.2.1, S3.2.2.2.2.2.2.2.2) := ((if_neg (fun h9 => h9.elim c36 c37)).trans (if_pos c40)).trans (by rw [if_neg c41]; rfl)
                have hV : tickV S3 = begV (S3.1, S3.2.1, S3.2.2.1, (S3.2.2.2.1 - 1), S3.2.2.2.2.1, S3.2.2.2.2.2.1, S3.2.2.2.2.2.2.1, S3.2.2.2.2.2.2.2.1, S3.2.2.2.2.2.2.2.2) := ((if_neg (fun h9 => h9.elim c36 c37)).trans (if_pos c40)).trans (by rfl)
                have hn9 : (n9 + (begV (S3.1, S3.2.1, S3.2.2.1, (S3.2.2.2.1 - 1), S3.2.2.2.2.1, S3.2.2.2.2.2.1, S3.2.2.2.2.2.2.1, S3.2.2.2.2.2.2.2.1, S3.2.2.2.2.2.2.2.2))) = n9 + tickV S3 := by rw [hV]
                rw [hn9] at hl9
                exact ih _ _ H locs ls ⟨S2, (tickS S3), n9 + tickV S3, (by rw [← hr9, show 2 * T - jj = (2 * T - (jj + 1)) + 1 by omega]; show _ = runH (2 * T - (jj + 1)) (jj + 1) (stepH jj (S2, S3, n9)); rw [show stepH jj (S2, S3, n9) = (S2, tickS S3, n9 + tickV S3) from if_neg (by omega)]), hs2.mono (by omega), hs3.tick (by omega), hp2, Nat.le_trans (pot_tick hs3) hp3, ⟨_, h51, hX⟩, ⟨_, h46, (by rw [hA]; exact hX47)⟩, (by rw [tickS_gq]; exact h52), (by rw [hA]; exact h48), hk9.tr ((show hEq [lx, ly, le] f9 f38 from (by rw [ef38]; exact hEq.up (List.mem_cons_of_mem _ (List.mem_cons_of_mem _ List.mem_cons_self)))).tr (show hEq [lx, ly, le] f38 f44 from (hEq.mono k49 (sub_cons (List.mem_cons_of_mem _ List.mem_cons_self) (sub_cons (List.mem_cons_of_mem _ (List.mem_cons_of_mem _ List.mem_cons_self)) sub_nil))))), rfl⟩ hw hS (lv_sub hl9 [0, 1, 3, 4, 5, 6, 7] rfl)
            · refine lv_aload hx hb dL_goBy_76 (lv_at hl9 7 rfl) ?_
              refine lv_iload hx hb dL_goBy_78 (lv_at hl9 0 rfl) ?_
              refine lv_iconst (v := 1) hx hb dL_goBy_80 (by decide) ?_
              refine hp_iast B0 hw hS h39 (by unfold vp_in; decide) dL_goBy_81 (fun H locs f53 ef53 hw hS => ?_)
              rw [show (upd (jE (eSt S2) (e8r S3.1 S3.2.1 S3.2.2.1 (S3.2.2.2.1 - 1) S3.2.2.2.2.1 S3.2.2.2.2.2.1 S3.2.2.2.2.2.2.1 (nI S3.2.2.2.2.2.2.2.2.length))) (8 : Int32).toNatClampNeg 1 : Nat → Int32) = (jE (eSt S2) (e8r 1 S3.2.1 S3.2.2.1 (S3.2.2.2.1 - 1) S3.2.2.2.2.1 S3.2.2.2.2.2.1 S3.2.2.2.2.2.2.1 (nI S3.2.2.2.2.2.2.2.2.length))) from (by rw [show (8 : Int32).toNatClampNeg = 8 + 0 from rfl, jE_u1, e8_u0])] at ef53
              have e54 : f53 = va_up f9 le (some (.inl (cI G, 16, .inl (jE (eSt S2) (e8r 1 S3.2.1 S3.2.2.1 (S3.2.2.2.1 - 1) S3.2.2.2.2.1 S3.2.2.2.2.2.1 S3.2.2.2.2.2.2.1 (nI S3.2.2.2.2.2.2.2.2.length)))))) := by rw [ef53, ef38, bx_uu]
              have h55 : f53 le = some (.inl (cI G, 16, .inl (jE (eSt S2) (e8r 1 S3.2.1 S3.2.2.1 (S3.2.2.2.1 - 1) S3.2.2.2.2.1 S3.2.2.2.2.2.1 S3.2.2.2.2.2.2.1 (nI S3.2.2.2.2.2.2.2.2.length))))) := by rw [ef53, va_up_self]
              refine lv_iload hx hb dL_goBy_82 (lv_at hl9 2 rfl) ?_
              refine lv_iload hx hb dL_goBy_84 (lv_at hl9 1 rfl) ?_
              refine lv_iconst (v := 2) hx hb dL_goBy_86 (by decide) ?_
              refine lv_irem hx hb dL_goBy_87 (by decide) ?_
              refine hp_c (v := 1) ((pk_rem (a := jj) (d := 2) (by omega) (by omega) (by omega)).trans (by rw [hpar]; rfl)) ?_
              refine lv_if_ne (tgt := 95) hx hb dL_goBy_88 (by decide) (fun _ => ?_) (fun c9 => absurd c9 (by decide))
              refine lv_aload_n hx hb dL_goBy_95 rfl (lv_at hl9 5 rfl) ?_
              refine lv_aload_n hx hb dL_goBy_96 rfl (lv_at hl9 6 rfl) ?_
              refine lv_aload hx hb dL_goBy_97 (lv_at hl9 7 rfl) ?_
              refine lv_iload hx hb dL_goBy_99 (lv_at hl9 1 rfl) ?_
              refine lv_iconst (v := 2) hx hb dL_goBy_101 (by decide) ?_
              refine lv_irem hx hb dL_goBy_102 (by decide) ?_
              refine hp_c (v := 1) ((pk_rem (a := jj) (d := 2) (by omega) (by omega) (by omega)).trans (by rw [hpar]; rfl)) ?_
              have h56 : f53 ly = some (.inl (cJ G, 64, .inr (.inl ys))) := by rw [e54, va_up_ne _ _ n_ly_le]; exact hy9
              have h57 : f53 lq = some (.inl (cI G, 12, .inl (j6r S2.2.2.2.2.2.2.2.1 S3.2.2.2.2.2.2.2.1))) := by rw [e54, va_up_ne _ _ n_lq_le]; exact hq9
              refine hp_S (As := [.ref ly, .ref lq, .ref le, .int 1]) (rest := [.int n9]) B0 hw hS (c_L_beg_1 hl G f53 ly lq le 1 S3.2.1 S3.2.2.1 (S3.2.2.2.1 - 1) S3.2.2.2.2.1 S3.2.2.2.2.2.1 S3.2.2.2.2.2.2.1 S3.2.2.2.2.2.2.2.1 S3.2.2.2.2.2.2.2.2 (eSt S2) S2.2.2.2.2.2.2.2.1 (b + jj) (show SOK (b + jj) (1, S3.2.1, S3.2.2.1, (S3.2.2.2.1 - 1), S3.2.2.2.2.1, S3.2.2.2.2.2.1, S3.2.2.2.2.2.2.1, S3.2.2.2.2.2.2.2.1, S3.2.2.2.2.2.2.2.2) from (SOK.st1 (SOK.tm hs3))) (by omega) ys hY (Nat.lt_of_le_of_lt (Nat.le_trans (pot_len S3) hp3) (by omega)) h56 h57 h55) mS_L_beg qM_L_86 rfl rfl hl9.1 (Nat.le_of_ble_eq_true rfl) ⟨⟨Nat.le_of_ble_eq_true rfl, Nat.le_of_ble_eq_true rfl⟩, Nat.le_of_ble_eq_true rfl, Nat.le_of_ble_eq_true rfl⟩ dL_goBy_103 (fun E ce q9 f58 H locs hPX hw hS hce hcv hcl => ?_) (fun v f58 H locs hP hw hS => ?_)
              · exact hPX.elim
              · obtain ⟨ev9, ⟨xs59, h60, hX61⟩, h62, k63⟩ := hP
                subst ev9
                refine W.eq (g2 := F0 m 106 ls [.int (begV (1, S3.2.1, S3.2.2.1, (S3.2.2.2.1 - 1), S3.2.2.2.2.1, S3.2.2.2.2.2.1, S3.2.2.2.2.2.2.1, S3.2.2.2.2.2.2.2.1, S3.2.2.2.2.2.2.2.2)), .int n9]) rfl ?_
                refine lv_iadd hx hb dL_goBy_106 ?_
                refine lv_istore (lv' := [(5, .int (n9 + (begV (1, S3.2.1, S3.2.2.1, (S3.2.2.2.1 - 1), S3.2.2.2.2.1, S3.2.2.2.2.2.1, S3.2.2.2.2.2.2.1, S3.2.2.2.2.2.2.2.1, S3.2.2.2.2.2.2.2.2)))), (7, .int 8), (6, .int (nI jj)), (0, .int (nI T)), (1, .ref lx), (2, .ref ly), (3, .ref lq), (4, .ref le)]) hx hb dL_goBy_107 hl9 (by decide) rfl (fun ls hl9 => ?_)
                refine lv_iinc (v := (nI (jj + 1))) (lv' := [(6, .int (nI (jj + 1))), (5, .int (n9 + (begV (1, S3.2.1, S3.2.2.1, (S3.2.2.2.1 - 1), S3.2.2.2.2.1, S3.2.2.2.2.2.1, S3.2.2.2.2.2.2.1, S3.2.2.2.2.2.2.2.1, S3.2.2.2.2.2.2.2.2)))), (7, .int 8), (0, .int (nI T)), (1, .ref lx), (2, .ref ly), (3, .ref lq), (4, .ref le)]) hx hb dL_goBy_109 hl9 (k := 2) rfl (nI_1 jj) (by decide) rfl (fun ls hl9 => ?_)
                refine lv_goto (tgt := 6) hx hb dL_goBy_112 (by decide) ?_
                have h64 : f53 lx = some (.inl (cJ G, 64, .inr (.inl xs))) := by rw [e54, va_up_ne _ _ n_lx_le]; exact hx9
                have h65 : f58 lx = some (.inl (cJ G, 64, .inr (.inl xs))) := (hEq.k k63) _ _ h64 (ninc hxy (ninc n_lx_le nin0))
                have h66 : f58 lq = some (.inl (cI G, 12, .inl (j6r S2.2.2.2.2.2.2.2.1 S3.2.2.2.2.2.2.2.1))) := (hEq.k k63) _ _ h57 (ninc n_lq_ly (ninc n_lq_le nin0))
                have hA : tickS S3 = begS (1, S3.2.1, S3.2.2.1, (S3.2.2.2.1 - 1), S3.2.2.2.2.1, S3.2.2.2.2.2.1, S3.2.2.2.2.2.2.1, S3.2.2.2.2.2.2.2.1, S3.2.2.2.2.2.2.2.2) := ((if_neg (fun h9 => h9.elim c36 c37)).trans (if_pos c40)).trans (by rw [if_pos c41]; rfl)
                have hV : tickV S3 = begV (1, S3.2.1, S3.2.2.1, (S3.2.2.2.1 - 1), S3.2.2.2.2.1, S3.2.2.2.2.2.1, S3.2.2.2.2.2.2.1, S3.2.2.2.2.2.2.2.1, S3.2.2.2.2.2.2.2.2) := ((if_neg (fun h9 => h9.elim c36 c37)).trans (if_pos c40)).trans (by rfl)
                have hn9 : (n9 + (begV (1, S3.2.1, S3.2.2.1, (S3.2.2.2.1 - 1), S3.2.2.2.2.1, S3.2.2.2.2.2.1, S3.2.2.2.2.2.2.1, S3.2.2.2.2.2.2.2.1, S3.2.2.2.2.2.2.2.2))) = n9 + tickV S3 := by rw [hV]
                rw [hn9] at hl9
                exact ih _ _ H locs ls ⟨S2, (tickS S3), n9 + tickV S3, (by rw [← hr9, show 2 * T - jj = (2 * T - (jj + 1)) + 1 by omega]; show _ = runH (2 * T - (jj + 1)) (jj + 1) (stepH jj (S2, S3, n9)); rw [show stepH jj (S2, S3, n9) = (S2, tickS S3, n9 + tickV S3) from if_neg (by omega)]), hs2.mono (by omega), hs3.tick (by omega), hp2, Nat.le_trans (pot_tick hs3) hp3, ⟨_, h65, hX⟩, ⟨_, h60, (by rw [hA]; exact hX61)⟩, (by rw [tickS_gq]; exact h66), (by rw [hA]; exact h62), hk9.tr ((show hEq [lx, ly, le] f9 f53 from (by rw [e54]; exact hEq.up (List.mem_cons_of_mem _ (List.mem_cons_of_mem _ List.mem_cons_self)))).tr (show hEq [lx, ly, le] f53 f58 from (hEq.mono k63 (sub_cons (List.mem_cons_of_mem _ List.mem_cons_self) (sub_cons (List.mem_cons_of_mem _ (List.mem_cons_of_mem _ List.mem_cons_self)) sub_nil))))), rfl⟩ hw hS (lv_sub hl9 [0, 1, 3, 4, 5, 6, 7] rfl)
          · refine lv_goto (tgt := 109) hx hb dL_goBy_64 (by decide) ?_
            refine lv_iinc (v := (nI (jj + 1))) (lv' := [(6, .int (nI (jj + 1))), (7, .int 8), (5, .int n9), (0, .int (nI T)), (1, .ref lx), (2, .ref ly), (3, .ref lq), (4, .ref le)]) hx hb dL_goBy_109 hl9 (k := 1) rfl (nI_1 jj) (by decide) rfl (fun ls hl9 => ?_)
            refine lv_goto (tgt := 6) hx hb dL_goBy_112 (by decide) ?_
            have h67 : f38 lx = some (.inl (cJ G, 64, .inr (.inl xs))) := by rw [ef38, va_up_ne _ _ n_lx_le]; exact hx9
            have h68 : f38 ly = some (.inl (cJ G, 64, .inr (.inl ys))) := by rw [ef38, va_up_ne _ _ n_ly_le]; exact hy9
            have h69 : f38 lq = some (.inl (cI G, 12, .inl (j6r S2.2.2.2.2.2.2.2.1 S3.2.2.2.2.2.2.2.1))) := by rw [ef38, va_up_ne _ _ n_lq_le]; exact hq9
            have hA : tickS S3 = (S3.1, S3.2.1, S3.2.2.1, (S3.2.2.2.1 - 1), S3.2.2.2.2.1, S3.2.2.2.2.2.1, S3.2.2.2.2.2.2.1, S3.2.2.2.2.2.2.2.1, S3.2.2.2.2.2.2.2.2) := (if_neg (fun h9 => h9.elim c36 c37)).trans (if_neg c40)
            have hV : tickV S3 = 0 := (if_neg (fun h9 => h9.elim c36 c37)).trans (if_neg c40)
            have hn9 : n9 = n9 + tickV S3 := by rw [hV, Int32.add_zero]
            rw [show (Value.int n9) = Value.int (n9 + tickV S3) from congrArg Value.int hn9] at hl9
            exact ih _ _ H locs ls ⟨S2, (tickS S3), n9 + tickV S3, (by rw [← hr9, show 2 * T - jj = (2 * T - (jj + 1)) + 1 by omega]; show _ = runH (2 * T - (jj + 1)) (jj + 1) (stepH jj (S2, S3, n9)); rw [show stepH jj (S2, S3, n9) = (S2, tickS S3, n9 + tickV S3) from if_neg (by omega)]), hs2.mono (by omega), hs3.tick (by omega), hp2, Nat.le_trans (pot_tick hs3) hp3, ⟨_, h67, hX⟩, ⟨_, h68, (by rw [hA]; exact hY)⟩, (by rw [tickS_gq]; exact h69), (by rw [hA]; exact h39), hk9.tr (show hEq [lx, ly, le] f9 f38 from (by rw [ef38]; exact hEq.up (List.mem_cons_of_mem _ (List.mem_cons_of_mem _ List.mem_cons_self)))), rfl⟩ hw hS (lv_sub hl9 [0, 2, 3, 4, 5, 6, 7] rfl)
        · refine lv_goto (tgt := 109) hx hb dL_goBy_40 (by decide) ?_
          refine lv_iinc (v := (nI (jj + 1))) (lv' := [(6, .int (nI (jj + 1))), (7, .int 8), (5, .int n9), (0, .int (nI T)), (1, .ref lx), (2, .ref ly), (3, .ref lq), (4, .ref le)]) hx hb dL_goBy_109 hl9 (k := 1) rfl (nI_1 jj) (by decide) rfl (fun ls hl9 => ?_)
          refine lv_goto (tgt := 6) hx hb dL_goBy_112 (by decide) ?_
          have hA : tickS S3 = S3 := if_pos (Or.inr c37)
          have hV : tickV S3 = 0 := if_pos (Or.inr c37)
          have hn9 : n9 = n9 + tickV S3 := by rw [hV, Int32.add_zero]
          rw [show (Value.int n9) = Value.int (n9 + tickV S3) from congrArg Value.int hn9] at hl9
          exact ih _ _ H locs ls ⟨S2, (tickS S3), n9 + tickV S3, (by rw [← hr9, show 2 * T - jj = (2 * T - (jj + 1)) + 1 by omega]; show _ = runH (2 * T - (jj + 1)) (jj + 1) (stepH jj (S2, S3, n9)); rw [show stepH jj (S2, S3, n9) = (S2, tickS S3, n9 + tickV S3) from if_neg (by omega)]), hs2.mono (by omega), hs3.tick (by omega), hp2, Nat.le_trans (pot_tick hs3) hp3, ⟨_, hx9, hX⟩, ⟨_, hy9, (by rw [hA]; exact hY)⟩, (by rw [tickS_gq]; exact hq9), (by rw [hA]; exact he9), hk9.tr hEq.rf, rfl⟩ hw hS (lv_sub hl9 [0, 2, 3, 4, 5, 6, 7] rfl)
  · obtain ⟨S2, S3, n9, hr9, hs2, hs3, hp2, hp3, ⟨xs, hx9, hX⟩, ⟨ys, hy9, hY⟩, hq9, he9, hk9, el9⟩ := hI
    rw [el9] at hl9
    refine lv_iload hx hb dL_goBy_6 (lv_at hl9 0 rfl) ?_
    refine lv_iconst (v := 2) hx hb dL_goBy_8 (by decide) ?_
    refine lv_iload_n hx hb dL_goBy_9 rfl (lv_at hl9 2 rfl) ?_
    refine lv_imul hx hb dL_goBy_10 ?_
    refine hp_c (v := (nI (2 * T))) (pk_mul 2 T) ?_
    refine lv_icmp_ge (tgt := 115) hx hb dL_goBy_11 (by decide) (fun _ => ?_) (fun c9 => absurd (nI_le (Nat.le_refl _) (by omega)) c9)
    refine lv_iload hx hb dL_goBy_115 (lv_at hl9 1 rfl) ?_
    rw [Nat.sub_self] at hr9
    have hz : (S2, S3, n9) = passF T (S0, S1, 0) := by rw [← runH_p T 0]; exact hr9
    exact hp_iret (v := n9) B0 hw hS hr ⟨Nat.le_of_ble_eq_true rfl, Nat.le_of_ble_eq_true rfl⟩ dL_goBy_117 (⟨(by rw [← hz]), ⟨_, hx9, (by rw [← hz]; exact hX)⟩, ⟨_, hy9, (by rw [← hz]; exact hY)⟩, (by rw [← hz]; exact hq9), (by rw [← hz]; exact he9), hk9⟩)

