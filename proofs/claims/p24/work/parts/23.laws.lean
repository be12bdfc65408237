theorem cpy6 (gw gq : Nat → Int32) : upd (upd (upd (upd (upd (upd gq 0 (gw 0)) 1 (gw 1)) 2 (gw 2)) 3 (gw 3)) 4 (gw 4)) 5 (gw 5) = cpyF gw gq := by
  funext j
  simp only [upd, cpyF]
  by_cases h : j < 6
  · rw [if_pos h]
    rcases (show j = 0 ∨ j = 1 ∨ j = 2 ∨ j = 3 ∨ j = 4 ∨ j = 5 by omega) with e | e | e | e | e | e <;> (subst e; rfl)
  · rw [if_neg h, if_neg (by omega), if_neg (by omega), if_neg (by omega), if_neg (by omega), if_neg (by omega), if_neg (by omega)]
theorem openS_id (gw : Nat → Int32) (S : ES) : (openS gw S).2.1 = S.2.1 + 1 := by
  show (begS (1, S.2.1, 0, _)).2.1 = _
  unfold begS
  rw [if_pos (show ((1, S.2.1, 0, _) : ES).2.2.1 < (10 : Int32) from (by decide : (0 : Int32) < 10))]
theorem openS_gq (gw : Nat → Int32) (S : ES) : (openS gw S).2.2.2.2.2.2.2.1 = cpyF gw S.2.2.2.2.2.2.2.1 := begS_gq _
theorem openS_len (gw : Nat → Int32) (S : ES) : (openS gw S).2.2.2.2.2.2.2.2.length ≤ S.2.2.2.2.2.2.2.2.length + 1 := begS_len _
theorem SOK.opn0 {b : Nat} {S : ES} (h : SOK b S) {gw : Nat → Int32} (hg : ∀ j, j < 6 → VOK (gw j)) : SOK b (1, S.2.1, 0, S.2.2.2.1, S.2.2.2.2.1, S.2.2.2.2.2.1, S.2.2.2.2.2.2.1, cpyF gw S.2.2.2.2.2.2.2.1, S.2.2.2.2.2.2.2.2) := by
  obtain ⟨h1, h2, h3, h4, h5, h6, h7⟩ := h
  refine ⟨⟨1, rfl, by omega⟩, h2, ⟨0, rfl, by omega⟩, h4, h5, fun j hj => ?_, h7⟩
  show VOK (if j < 6 then gw j else _)
  rw [if_pos hj]
  exact hg j hj
theorem ansS_len (ga : Nat → Int32) (r : Fr) (S : ES) : (ansS ga r S).2.2.2.2.2.2.2.2.length = S.2.2.2.2.2.2.2.2.length + 1 := by
  show (S.2.2.2.2.2.2.2.2 ++ [_]).length = _
  rw [List.length_append]; rfl
theorem hearF_len (ga : Nat → Int32) (r : Fr) (S : ES) : (hearF ga r S).2.2.2.2.2.2.2.2.length ≤ S.2.2.2.2.2.2.2.2.length + 2 := by
  unfold hearF
  split
  · unfold hearQ
    split
    · exact Nat.le_add_right _ _
    · split
      · show (S.2.2.2.2.2.2.2.2 ++ [_]).length ≤ _
        rw [List.length_append]; show _ + 1 ≤ _ + 2; omega
      · split
        · split
          · rw [ansS_len]; have := begS_len (lpS S 0); show (begS (lpS S 0)).2.2.2.2.2.2.2.2.length + 1 ≤ _; have h9 : (lpS S 0).2.2.2.2.2.2.2.2.length = S.2.2.2.2.2.2.2.2.length := rfl; omega
          · exact Nat.le_add_right _ _
        · rw [ansS_len]; exact Nat.le_succ _
  · split
    · exact Nat.le_add_right _ _
    · unfold hearA
      split
      · split
        · exact Nat.le_add_right _ _
        · exact Nat.le_succ_of_le (begS_len _)
      · exact Nat.le_add_right _ _
theorem closeS_len (S : ES) : (closeS S).2.2.2.2.2.2.2.2.length = S.2.2.2.2.2.2.2.2.length + 1 := by
  show (S.2.2.2.2.2.2.2.2 ++ [_]).length = _
  rw [List.length_append]; rfl
theorem takeS_len (S : ES) : (takeS S).2.2.2.2.2.2.2.2.length ≤ S.2.2.2.2.2.2.2.2.length := by
  show S.2.2.2.2.2.2.2.2.tail.length ≤ _
  rw [List.length_tail]
  exact Nat.sub_le _ _
theorem len_nil {L : List Fr} (c : nI L.length = 0) (h : L.length < 1000) : L = [] := List.eq_nil_of_length_eq_zero ((nI_eq (show L.length < 2 ^ 31 by omega) (show 0 < 2 ^ 31 by omega)).mp c)
theorem len_cons {L : List Fr} (c : ¬ nI L.length = 0) : ∃ r L1, L = r :: L1 := by
  cases L with
  | nil => exact absurd rfl c
  | cons r L1 => exact ⟨r, L1, rfl⟩
theorem VOK_lo {j : Nat} (h : j < 11) : VOK (nI j - 1) := by
  unfold VOK
  rcases (show j = 0 ∨ ∃ k, j = k + 1 from by cases j with | zero => exact Or.inl rfl | succ k => exact Or.inr ⟨k, rfl⟩) with e | ⟨k, e⟩
  · subst e; decide
  · subst e; rw [nI_pred, nI_toInt (by omega)]; omega
theorem AOK_nI {j : Nat} (h : j < 1024) : AOK (nI j) := by
  unfold AOK
  rw [nI_toInt (by omega)]; omega
theorem VOK_upd {g : Nat → Int32} (h : ∀ j, j < 6 → VOK (g j)) {k : Nat} {v : Int32} (hv : VOK v) : ∀ j, j < 6 → VOK (upd g k v j) := fun j hj => by
  unfold upd
  split
  · exact hv
  · exact h j hj
theorem AOK_upd {g : Nat → Int32} (h : ∀ j, j < 6 → AOK (g j)) {k : Nat} {v : Int32} (hv : AOK v) : ∀ j, j < 6 → AOK (upd g k v j) := fun j hj => by
  unfold upd
  split
  · exact hv
  · exact h j hj
theorem st0_of {b : Nat} {S : ES} (h : SOK b S) (c : S.1 ≤ 0) : S.1 = 0 := by
  obtain ⟨⟨s, hs, hs4⟩, -⟩ := h
  rw [hs] at c ⊢
  have := (nI_leI (show s < 2 ^ 31 by omega) (show 0 < 2 ^ 31 by omega)).mp c
  rw [Nat.le_zero.mp this]; rfl
theorem st1_of {S : ES} (c : ¬ S.1 ≤ 0) : ¬ S.1 = 0 := fun e => c (by rw [e]; decide)
/-- the law's rows for the link -/
def LX (G : hG) (f : hM) (lx ly lw la lq le : Nat) (S0 S1 : ES) (gw0 ga0 gw1 ga1 : Nat → Int32) : Prop := (∃ xs : Nat → Int64, f lx = some (.inl (cJ G, 64, .inr (.inl xs))) ∧ XS xs S0.2.2.2.2.2.2.2.2) ∧ (∃ ys : Nat → Int64, f ly = some (.inl (cJ G, 64, .inr (.inl ys))) ∧ XS ys S1.2.2.2.2.2.2.2.2) ∧ f lw = some (.inl (cI G, 12, .inl (j6 gw0 gw1))) ∧ f la = some (.inl (cI G, 12, .inl (j6 ga0 ga1))) ∧ f lq = some (.inl (cI G, 12, .inl (j6 S0.2.2.2.2.2.2.2.1 S1.2.2.2.2.2.2.2.1))) ∧ f le = some (.inl (cI G, 16, .inl (jE (eS S0) (eS S1))))
def INV (b : Nat) (S0 S1 : ES) (gw0 ga0 gw1 ga1 : Nat → Int32) : Prop := SOK b S0 ∧ SOK b S1 ∧ (∀ j, j < 6 → VOK (gw0 j)) ∧ (∀ j, j < 6 → AOK (ga0 j)) ∧ (∀ j, j < 6 → VOK (gw1 j)) ∧ ∀ j, j < 6 → AOK (ga1 j)
set_option maxHeartbeats 4000000 in
set_option maxRecDepth 100000 in
theorem lk_w_0 {l : Launch} (hl : l.stackTraces = false) (G : hG) (f : hM) (xo ez eo bu nw0 na0 nq0 nr0 nw1 na1 nq1 nr1 bs bp bh bf bl bg : Nat) (S0 : ES) (S1 : ES) (gw0 : Nat → Int32) (ga0 : Nat → Int32) (gw1 : Nat → Int32) (ga1 : Nat → Int32) (n : Nat) (a : Nat) (cg : Nat) (x : Nat) (sa : Nat → Nat) (pk : Nat → Nat) (fl : Nat → Nat) (gv : Nat → Nat) (gh : Nat → Int32) (gl : Nat → Int32) (hC : CXW G f xo ez eo bu nw0 na0 nq0 nr0 nw1 na1 nq1 nr1 bs bp bh bf bl bg S0 S1 gw0 ga0 gw1 ga1 n a cg x sa pk fl gv gh gl) (lx ly lw la lq le : Nat) (hdis : ∀ p, p ∈ [xo, ez, eo, bu, nw0, na0, nq0, nr0, nw1, na1, nq1, nr1, bs, bp, bh, bf, bl, bg] → p ∉ [lx, ly, lw, la, lq, le]) (hdos : ∀ p, p ∈ [lx, ly, lw, la, lq, le] → p ∉ [xo, ez, eo, bu, nw0, na0, nq0, nr0, nw1, na1, nq1, nr1, bs, bp, bh, bf, bl, bg]) (n_lx_ly : lx ≠ ly) (n_lw_la : lw ≠ la) (n_lw_lq : lw ≠ lq) (n_la_lq : la ≠ lq) (hLX : LX G f lx ly lw la lq le S0 S1 gw0 ga0 gw1 ga1) (b : Nat) (hInv : INV b S0 S1 gw0 ga0 gw1 ga1) (hbb : b + 200 ≤ 1000000) (hl0 : S0.2.2.2.2.2.2.2.2.length ≤ 52) (hl1 : S1.2.2.2.2.2.2.2.2.length ≤ 52) (ac : Nat) (hac : ac < 24) (hact : ac ≠ 22 → S0.2.2.2.2.2.2.2.2.length ≤ 40 ∧ S1.2.2.2.2.2.2.2.2.length ≤ 40) (u z : Int32) {p : Program} {e : Env} {s : State} {m : MethodId} {args : Array Value} {below : List Frame} {meth : Method} {c : Code} (B0 : hB p l s m args meth c cL_links 17 RL G) (hr : meth.sig.returnType = some .boolean) {H : Heap} {locs : List Loc} {ls : Array Slot} (hw : hW G f H) (hS : va_S (hFr G) s.heap H locs) (j13 : Nat) (hj13 : j13 < 6) (hl9 : lv_has ls 17 [(13, .int (nI j13)), (12, .ref lx), (11, .int 0), (10, .int 0), (0, .ref xo), (1, .int (nI ac)), (2, .int u), (3, .int z), (4, .ref lx), (5, .ref ly), (6, .ref lw), (7, .ref la), (8, .ref lq), (9, .ref le)]) : W p l e { frames := 9, cells := 203, slots := 1118, locals := 178 } s m args below meth c H locs 0 0 (vx_MQ below (hQ G (fun v f1 => v = some (.int 1) ∧ ∃ (S2 S3 : ES) (w0 a0 w1 a1 : Nat → Int32), CXW G f1 xo ez eo bu nw0 na0 nq0 nr0 nw1 na1 nq1 nr1 bs bp bh bf bl bg S2 S3 w0 a0 w1 a1 n a cg x sa pk fl gv gh gl ∧ LX G f1 lx ly lw la lq le S2 S3 w0 a0 w1 a1 ∧ INV (b + 100) S2 S3 w0 a0 w1 a1 ∧ S2.2.2.2.2.2.2.2.2.length ≤ 52 ∧ S3.2.2.2.2.2.2.2.2.length ≤ 52 ∧ hKn [lx, ly, lw, la, lq, le, xo, ez, eo, bu, nw0, na0, nq0, nr0, nw1, na1, nq1, nr1, bs, bp, bh, bf, bl, bg] f f1)) (hX G (fun E f1 => False)) args s 203 1118 (hFr G)) (F0 m 39 ls []) := by
  have hx := B0.1
  have hb := B0.2.1
  obtain ⟨⟨xs0, k_lx, hX0⟩, ⟨xs1, k_ly, hX1⟩, k_lw, k_la, k_lq, k_le⟩ := hLX
  obtain ⟨hSo0, hSo1, hgw0, hga0, hgw1, hga1⟩ := id hInv
  have n_lx_lw : lx ≠ lw := hneL k_lx k_lw (Nat.ne_of_beq_eq_false rfl)
  have n_lx_la : lx ≠ la := hneL k_lx k_la (Nat.ne_of_beq_eq_false rfl)
  have n_lx_lq : lx ≠ lq := hneL k_lx k_lq (Nat.ne_of_beq_eq_false rfl)
  have n_lx_le : lx ≠ le := hneL k_lx k_le (Nat.ne_of_beq_eq_false rfl)
  have n_ly_lw : ly ≠ lw := hneL k_ly k_lw (Nat.ne_of_beq_eq_false rfl)
  have n_ly_la : ly ≠ la := hneL k_ly k_la (Nat.ne_of_beq_eq_false rfl)
  have n_ly_lq : ly ≠ lq := hneL k_ly k_lq (Nat.ne_of_beq_eq_false rfl)
  have n_ly_le : ly ≠ le := hneL k_ly k_le (Nat.ne_of_beq_eq_false rfl)
  have n_lw_le : lw ≠ le := hneL k_lw k_le (Nat.ne_of_beq_eq_false rfl)
  have n_la_le : la ≠ le := hneL k_la k_le (Nat.ne_of_beq_eq_false rfl)
  have n_lq_le : lq ≠ le := hneL k_lq k_le (Nat.ne_of_beq_eq_false rfl)
  have sbA : ∀ x9, x9 ∈ [xo, ez, eo, bu, nw0, na0, nq0, nr0, nw1, na1, nq1, nr1, bs, bp, bh, bf, bl, bg] → x9 ∈ [lx, ly, lw, la, lq, le, xo, ez, eo, bu, nw0, na0, nq0, nr0, nw1, na1, nq1, nr1, bs, bp, bh, bf, bl, bg] := (sub_cons (List.mem_cons_of_mem _ (List.mem_cons_of_mem _ (List.mem_cons_of_mem _ (List.mem_cons_of_mem _ (List.mem_cons_of_mem _ (List.mem_cons_of_mem _ List.mem_cons_self)))))) (sub_cons (List.mem_cons_of_mem _ (List.mem_cons_of_mem _ (List.mem_cons_of_mem _ (List.mem_cons_of_mem _ (List.mem_cons_of_mem _ (List.mem_cons_of_mem _ (List.mem_cons_of_mem _ List.mem_cons_self))))))) (sub_cons (List.mem_cons_of_mem _ (List.mem_cons_of_mem _ (List.mem_cons_of_mem _ (List.mem_cons_of_mem _ (List.mem_cons_of_mem _ (List.mem_cons_of_mem _ (List.mem_cons_of_mem _ (List.mem_cons_of_mem _ List.mem_cons_self)))))))) (sub_cons (List.mem_cons_of_mem _ (List.mem_cons_of_mem _ (List.mem_cons_of_mem _ (List.mem_cons_of_mem _ (List.mem_cons_of_mem _ (List.mem_cons_of_mem _ (List.mem_cons_of_mem _ (List.mem_cons_of_mem _ (List.mem_cons_of_mem _ List.mem_cons_self))))))))) (sub_cons (List.mem_cons_of_mem _ (List.mem_cons_of_mem _ (List.mem_cons_of_mem _ (List.mem_cons_of_mem _ (List.mem_cons_of_mem _ (List.mem_cons_of_mem _ (List.mem_cons_of_mem _ (List.mem_cons_of_mem _ (List.mem_cons_of_mem _ (List.mem_cons_of_mem _ List.mem_cons_self)))))))))) (sub_cons (List.mem_cons_of_mem _ (List.mem_cons_of_mem _ (List.mem_cons_of_mem _ (List.mem_cons_of_mem _ (List.mem_cons_of_mem _ (List.mem_cons_of_mem _ (List.mem_cons_of_mem _ (List.mem_cons_of_mem _ (List.mem_cons_of_mem _ (List.mem_cons_of_mem _ (List.mem_cons_of_mem _ List.mem_cons_self))))))))))) (sub_cons (List.mem_cons_of_mem _ (List.mem_cons_of_mem _ (List.mem_cons_of_mem _ (List.mem_cons_of_mem _ (List.mem_cons_of_mem _ (List.mem_cons_of_mem _ (List.mem_cons_of_mem _ (List.mem_cons_of_mem _ (List.mem_cons_of_mem _ (List.mem_cons_of_mem _ (List.mem_cons_of_mem _ (List.mem_cons_of_mem _ List.mem_cons_self)))))))))))) (sub_cons (List.mem_cons_of_mem _ (List.mem_cons_of_mem _ (List.mem_cons_of_mem _ (List.mem_cons_of_mem _ (List.mem_cons_of_mem _ (List.mem_cons_of_mem _ (List.mem_cons_of_mem _ (List.mem_cons_of_mem _ (List.mem_cons_of_mem _ (List.mem_cons_of_mem _ (List.mem_cons_of_mem _ (List.mem_cons_of_mem _ (List.mem_cons_of_mem _ List.mem_cons_self))))))))))))) (sub_cons (List.mem_cons_of_mem _ (List.mem_cons_of_mem _ (List.mem_cons_of_mem _ (List.mem_cons_of_mem _ (List.mem_cons_of_mem _ (List.mem_cons_of_mem _ (List.mem_cons_of_mem _ (List.mem_cons_of_mem _ (List.mem_cons_of_mem _ (List.mem_cons_of_mem _ (List.mem_cons_of_mem _ (List.mem_cons_of_mem _ (List.mem_cons_of_mem _ (List.mem_cons_of_mem _ List.mem_cons_self)))))))))))))) (sub_cons (List.mem_cons_of_mem _ (List.mem_cons_of_mem _ (List.mem_cons_of_mem _ (List.mem_cons_of_mem _ (List.mem_cons_of_mem _ (List.mem_cons_of_mem _ (List.mem_cons_of_mem _ (List.mem_cons_of_mem _ (List.mem_cons_of_mem _ (List.mem_cons_of_mem _ (List.mem_cons_of_mem _ (List.mem_cons_of_mem _ (List.mem_cons_of_mem _ (List.mem_cons_of_mem _ (List.mem_cons_of_mem _ List.mem_cons_self))))))))))))))) (sub_cons (List.mem_cons_of_mem _ (List.mem_cons_of_mem _ (List.mem_cons_of_mem _ (List.mem_cons_of_mem _ (List.mem_cons_of_mem _ (List.mem_cons_of_mem _ (List.mem_cons_of_mem _ (List.mem_cons_of_mem _ (List.mem_cons_of_mem _ (List.mem_cons_of_mem _ (List.mem_cons_of_mem _ (List.mem_cons_of_mem _ (List.mem_cons_of_mem _ (List.mem_cons_of_mem _ (List.mem_cons_of_mem _ (List.mem_cons_of_mem _ List.mem_cons_self)))))))))))))))) (sub_cons (List.mem_cons_of_mem _ (List.mem_cons_of_mem _ (List.mem_cons_of_mem _ (List.mem_cons_of_mem _ (List.mem_cons_of_mem _ (List.mem_cons_of_mem _ (List.mem_cons_of_mem _ (List.mem_cons_of_mem _ (List.mem_cons_of_mem _ (List.mem_cons_of_mem _ (List.mem_cons_of_mem _ (List.mem_cons_of_mem _ (List.mem_cons_of_mem _ (List.mem_cons_of_mem _ (List.mem_cons_of_mem _ (List.mem_cons_of_mem _ (List.mem_cons_of_mem _ List.mem_cons_self))))))))))))))))) (sub_cons (List.mem_cons_of_mem _ (List.mem_cons_of_mem _ (List.mem_cons_of_mem _ (List.mem_cons_of_mem _ (List.mem_cons_of_mem _ (List.mem_cons_of_mem _ (List.mem_cons_of_mem _ (List.mem_cons_of_mem _ (List.mem_cons_of_mem _ (List.mem_cons_of_mem _ (List.mem_cons_of_mem _ (List.mem_cons_of_mem _ (List.mem_cons_of_mem _ (List.mem_cons_of_mem _ (List.mem_cons_of_mem _ (List.mem_cons_of_mem _ (List.mem_cons_of_mem _ (List.mem_cons_of_mem _ List.mem_cons_self)))))))))))))))))) (sub_cons (List.mem_cons_of_mem _ (List.mem_cons_of_mem _ (List.mem_cons_of_mem _ (List.mem_cons_of_mem _ (List.mem_cons_of_mem _ (List.mem_cons_of_mem _ (List.mem_cons_of_mem _ (List.mem_cons_of_mem _ (List.mem_cons_of_mem _ (List.mem_cons_of_mem _ (List.mem_cons_of_mem _ (List.mem_cons_of_mem _ (List.mem_cons_of_mem _ (List.mem_cons_of_mem _ (List.mem_cons_of_mem _ (List.mem_cons_of_mem _ (List.mem_cons_of_mem _ (List.mem_cons_of_mem _ (List.mem_cons_of_mem _ List.mem_cons_self))))))))))))))))))) (sub_cons (List.mem_cons_of_mem _ (List.mem_cons_of_mem _ (List.mem_cons_of_mem _ (List.mem_cons_of_mem _ (List.mem_cons_of_mem _ (List.mem_cons_of_mem _ (List.mem_cons_of_mem _ (List.mem_cons_of_mem _ (List.mem_cons_of_mem _ (List.mem_cons_of_mem _ (List.mem_cons_of_mem _ (List.mem_cons_of_mem _ (List.mem_cons_of_mem _ (List.mem_cons_of_mem _ (List.mem_cons_of_mem _ (List.mem_cons_of_mem _ (List.mem_cons_of_mem _ (List.mem_cons_of_mem _ (List.mem_cons_of_mem _ (List.mem_cons_of_mem _ List.mem_cons_self)))))))))))))))))))) (sub_cons (List.mem_cons_of_mem _ (List.mem_cons_of_mem _ (List.mem_cons_of_mem _ (List.mem_cons_of_mem _ (List.mem_cons_of_mem _ (List.mem_cons_of_mem _ (List.mem_cons_of_mem _ (List.mem_cons_of_mem _ (List.mem_cons_of_mem _ (List.mem_cons_of_mem _ (List.mem_cons_of_mem _ (List.mem_cons_of_mem _ (List.mem_cons_of_mem _ (List.mem_cons_of_mem _ (List.mem_cons_of_mem _ (List.mem_cons_of_mem _ (List.mem_cons_of_mem _ (List.mem_cons_of_mem _ (List.mem_cons_of_mem _ (List.mem_cons_of_mem _ (List.mem_cons_of_mem _ List.mem_cons_self))))))))))))))))))))) (sub_cons (List.mem_cons_of_mem _ (List.mem_cons_of_mem _ (List.mem_cons_of_mem _ (List.mem_cons_of_mem _ (List.mem_cons_of_mem _ (List.mem_cons_of_mem _ (List.mem_cons_of_mem _ (List.mem_cons_of_mem _ (List.mem_cons_of_mem _ (List.mem_cons_of_mem _ (List.mem_cons_of_mem _ (List.mem_cons_of_mem _ (List.mem_cons_of_mem _ (List.mem_cons_of_mem _ (List.mem_cons_of_mem _ (List.mem_cons_of_mem _ (List.mem_cons_of_mem _ (List.mem_cons_of_mem _ (List.mem_cons_of_mem _ (List.mem_cons_of_mem _ (List.mem_cons_of_mem _ (List.mem_cons_of_mem _ List.mem_cons_self)))))))))))))))))))))) (sub_cons (List.mem_cons_of_mem _ (List.mem_cons_of_mem _ (List.mem_cons_of_mem _ (List.mem_cons_of_mem _ (List.mem_cons_of_mem _ (List.mem_cons_of_mem _ (List.mem_cons_of_mem _ (List.mem_cons_of_mem _ (List.mem_cons_of_mem _ (List.mem_cons_of_mem _ (List.mem_cons_of_mem _ (List.mem_cons_of_mem _ (List.mem_cons_of_mem _ (List.mem_cons_of_mem _ (List.mem_cons_of_mem _ (List.mem_cons_of_mem _ (List.mem_cons_of_mem _ (List.mem_cons_of_mem _ (List.mem_cons_of_mem _ (List.mem_cons_of_mem _ (List.mem_cons_of_mem _ (List.mem_cons_of_mem _ (List.mem_cons_of_mem _ List.mem_cons_self))))))))))))))))))))))) sub_nil))))))))))))))))))
  obtain ⟨xx, hxx, hx4⟩ := hSo0.2.2.2.2.1
  have h1 : f le = some (.inl (cI G, 16, .inl (jE (e8 S0.1 S0.2.1 S0.2.2.1 S0.2.2.2.1 S0.2.2.2.2.1 S0.2.2.2.2.2.1 S0.2.2.2.2.2.2.1 (nI S0.2.2.2.2.2.2.2.2.length)) (eS S1)))) := k_le
  refine lv_iload_n hx hb dL_links_39 rfl (lv_at hl9 7 rfl) ?_
  refine lv_iconst (v := 3) hx hb dL_links_40 (by decide) ?_
  refine lv_ishr hx hb dL_links_41 ?_
  refine lv_bipush (v := 11) hx hb dL_links_42 (by decide) ?_
  refine hp_S (As := [.int (z >>> (3 &&& 31)), .int 11]) (rest := []) B0 hw hS (c_L_low hl G f (z >>> (3 &&& 31)) 11 (by omega) (by omega)) mS_L_low qM_L_94 rfl rfl hl9.1 (Nat.le_of_ble_eq_true rfl) ⟨⟨Nat.le_of_ble_eq_true rfl, Nat.le_of_ble_eq_true rfl⟩, Nat.le_of_ble_eq_true rfl, Nat.le_of_ble_eq_true rfl⟩ dL_links_44 (fun E ce q9 f2 H locs hPX hw hS hce hcv hcl => ?_) (fun v f2 H locs hP hw hS => ?_)
  · exact hPX.elim
  · obtain ⟨ef9, j3, hj4, ev9⟩ := hP
    rw [ef9] at hw
    subst ev9
    refine W.eq (g2 := F0 m 47 ls [.int (nI j3)]) rfl ?_
    refine lv_iconst (v := 1) hx hb dL_links_47 (by decide) ?_
    refine lv_isub hx hb dL_links_48 ?_
    refine hp_c (v := (nI j3 - 1)) (rfl) ?_
    refine lv_istore (lv' := [(14, .int (nI j3 - 1)), (13, .int (nI j13)), (12, .ref lx), (11, .int 0), (10, .int 0), (0, .ref xo), (1, .int (nI ac)), (2, .int u), (3, .int z), (4, .ref lx), (5, .ref ly), (6, .ref lw), (7, .ref la), (8, .ref lq), (9, .ref le)]) hx hb dL_links_49 hl9 (by decide) rfl (fun ls hl9 => ?_)
    refine lv_aload hx hb dL_links_51 (lv_at hl9 11 rfl) ?_
    refine lv_bipush (v := 6) hx hb dL_links_53 (by decide) ?_
    refine lv_iload hx hb dL_links_55 (lv_at hl9 4 rfl) ?_
    refine lv_imul hx hb dL_links_57 ?_
    refine hp_c (v := 0) (by decide) ?_
    refine lv_iload hx hb dL_links_58 (lv_at hl9 1 rfl) ?_
    refine lv_iadd hx hb dL_links_60 ?_
    refine hp_c (v := (nI j13)) (by rw [show (0 : Int32) = nI 0 from rfl, nI_add, Nat.zero_add]) ?_
    refine hp_iald B0 hw k_lw (vp_in_nI (show j13 < 12 by omega) (by omega)) dL_links_61 ?_
    refine hp_c (v := (gw0 j13)) ((by rw [nI_clamp (by omega)]; exact j6_0 (by omega))) ?_
    refine lv_istore (lv' := [(15, .int (gw0 j13)), (14, .int (nI j3 - 1)), (13, .int (nI j13)), (12, .ref lx), (11, .int 0), (10, .int 0), (0, .ref xo), (1, .int (nI ac)), (2, .int u), (3, .int z), (4, .ref lx), (5, .ref ly), (6, .ref lw), (7, .ref la), (8, .ref lq), (9, .ref le)]) hx hb dL_links_62 hl9 (by decide) rfl (fun ls hl9 => ?_)
    refine lv_aload hx hb dL_links_64 (lv_at hl9 12 rfl) ?_
    refine lv_bipush (v := 6) hx hb dL_links_66 (by decide) ?_
    refine lv_iload hx hb dL_links_68 (lv_at hl9 5 rfl) ?_
    refine lv_imul hx hb dL_links_70 ?_
    refine hp_c (v := 0) (by decide) ?_
    refine lv_iload hx hb dL_links_71 (lv_at hl9 2 rfl) ?_
    refine lv_iadd hx hb dL_links_73 ?_
    refine hp_c (v := (nI j13)) (by rw [show (0 : Int32) = nI 0 from rfl, nI_add, Nat.zero_add]) ?_
    refine lv_iload hx hb dL_links_74 (lv_at hl9 1 rfl) ?_
    refine hp_iast B0 hw hS k_lw (vp_in_nI (show j13 < 12 by omega) (by omega)) dL_links_76 (fun H locs f5 ef5 hw hS => ?_)
    rw [show (upd (j6 gw0 gw1) ((nI j13) : Int32).toNatClampNeg (nI j3 - 1) : Nat → Int32) = (j6 (upd gw0 j13 (nI j3 - 1)) gw1) from (by rw [nI_clamp (by omega), j6_u0 (by omega)])] at ef5
    have h6 : f5 lw = some (.inl (cI G, 12, .inl (j6 (upd gw0 j13 (nI j3 - 1)) gw1))) := by rw [ef5, va_up_self]
    refine lv_aload_n hx hb dL_links_77 rfl (lv_at hl9 6 rfl) ?_
    refine lv_iconst (v := 2) hx hb dL_links_78 (by decide) ?_
    refine lv_iload hx hb dL_links_79 (lv_at hl9 2 rfl) ?_
    refine lv_bipush (v := 10) hx hb dL_links_81 (by decide) ?_
    have h7 : f5 lx = some (.inl (cJ G, 64, .inr (.inl xs0))) := by rw [ef5, va_up_ne _ _ n_lx_lw]; exact k_lx
    have h8 : f5 ly = some (.inl (cJ G, 64, .inr (.inl xs1))) := by rw [ef5, va_up_ne _ _ n_ly_lw]; exact k_ly
    have h9 : f5 la = some (.inl (cI G, 12, .inl (j6 ga0 ga1))) := by rw [ef5, va_up_ne _ _ (Ne.symm n_lw_la)]; exact k_la
    have h10 : f5 lq = some (.inl (cI G, 12, .inl (j6 S0.2.2.2.2.2.2.2.1 S1.2.2.2.2.2.2.2.1))) := by rw [ef5, va_up_ne _ _ (Ne.symm n_lw_lq)]; exact k_lq
    have h11 : f5 le = some (.inl (cI G, 16, .inl (jE (e8 S0.1 S0.2.1 S0.2.2.1 S0.2.2.2.1 S0.2.2.2.2.1 S0.2.2.2.2.2.1 S0.2.2.2.2.2.2.1 (nI S0.2.2.2.2.2.2.2.2.length)) (eS S1)))) := by rw [ef5, va_up_ne _ _ (Ne.symm n_lw_le)]; exact h1
    have hC12 : CXW G f5 xo ez eo bu nw0 na0 nq0 nr0 nw1 na1 nq1 nr1 bs bp bh bf bl bg S0 S1 gw0 ga0 gw1 ga1 n a cg x sa pk fl gv gh gl := CXW.eq hC (show hEq [lx, ly, lw, la, lq, le] f f5 from (by rw [ef5]; exact hEq.up (List.mem_cons_of_mem _ (List.mem_cons_of_mem _ List.mem_cons_self)))) hdis (fun b9 hb9 => by
        simp only [List.mem_cons, List.not_mem_nil, or_false] at hb9
        rcases hb9 with hb9 | hb9 | hb9 | hb9 | hb9 | hb9
        · rw [hb9]; exact ⟨_, _, k_lx, h7, (Nat.ne_of_beq_eq_false rfl), (Nat.ne_of_beq_eq_false rfl)⟩
        · rw [hb9]; exact ⟨_, _, k_ly, h8, (Nat.ne_of_beq_eq_false rfl), (Nat.ne_of_beq_eq_false rfl)⟩
        · rw [hb9]; exact ⟨_, _, k_lw, h6, (Nat.ne_of_beq_eq_false rfl), (Nat.ne_of_beq_eq_false rfl)⟩
        · rw [hb9]; exact ⟨_, _, k_la, h9, (Nat.ne_of_beq_eq_false rfl), (Nat.ne_of_beq_eq_false rfl)⟩
        · rw [hb9]; exact ⟨_, _, k_lq, h10, (Nat.ne_of_beq_eq_false rfl), (Nat.ne_of_beq_eq_false rfl)⟩
        · rw [hb9]; exact ⟨_, _, h1, h11, (Nat.ne_of_beq_eq_false rfl), (Nat.ne_of_beq_eq_false rfl)⟩)
    refine hp_SH (As := [.ref xo, .int 2, .int (nI j13), .int 10]) (rest := []) B0 hw hS (c_V_wish_E hl G f5 xo ez eo bu nw0 na0 nq0 nr0 nw1 na1 nq1 nr1 bs bp bh bf bl bg S0 S1 gw0 ga0 gw1 ga1 n a cg x sa pk fl gv gh gl hC12 (Nat.lt_of_le_of_lt hl0 (by decide)) (Nat.lt_of_le_of_lt hl1 (by decide)) 2 (nI j13) 10 (by decide)) mH_L_wish qM_L_97 rfl rfl hl9.1 (Nat.le_of_ble_eq_true rfl) ⟨⟨Nat.le_of_ble_eq_true rfl, Nat.le_of_ble_eq_true rfl⟩, Nat.le_of_ble_eq_true rfl, Nat.le_of_ble_eq_true rfl⟩ dL_links_83 (fun E ce q9 f13 H locs hPX hw hS hce hcv hcl => ?_) (fun v f13 H locs hP hw hS => ?_)
    · exact hPX.elim
    · obtain ⟨ev9, hC14, k15⟩ := hP
      subst ev9
      have hC14 : CXW G f13 xo ez eo bu nw0 na0 nq0 nr0 nw1 na1 nq1 nr1 bs bp bh bf bl bg S0 S1 gw0 ga0 gw1 ga1 n a cg x sa pk fl gv gh gl := hC14
      refine W.eq (g2 := F0 m 86 ls [.int (-71)]) rfl ?_
      refine lv_bipush (v := (-71)) hx hb dL_links_86 (by decide) ?_
      refine lv_icmp_ne (tgt := 155) hx hb dL_links_88 (by decide) (fun c9 => absurd (by decide) c9) (fun _ => ?_)
      refine lv_aload_n hx hb dL_links_91 rfl (lv_at hl9 6 rfl) ?_
      refine lv_iload hx hb dL_links_92 (lv_at hl9 5 rfl) ?_
      refine lv_bipush (v := 6) hx hb dL_links_94 (by decide) ?_
      refine lv_iload hx hb dL_links_96 (lv_at hl9 1 rfl) ?_
      refine hp_SH (As := [.ref xo, .int 0, .int 6, .int (nI j3 - 1)]) (rest := []) B0 hw hS (c_V_wish_O0 hl G f13 xo ez eo bu nw0 na0 nq0 nr0 nw1 na1 nq1 nr1 bs bp bh bf bl bg S0 S1 gw0 ga0 gw1 ga1 n a cg x sa pk fl gv gh gl hC14 (Nat.lt_of_le_of_lt hl0 (by decide)) (Nat.lt_of_le_of_lt hl1 (by decide)) 6 (nI j3 - 1) (by decide)) mH_L_wish qM_L_97 rfl rfl hl9.1 (Nat.le_of_ble_eq_true rfl) ⟨⟨Nat.le_of_ble_eq_true rfl, Nat.le_of_ble_eq_true rfl⟩, Nat.le_of_ble_eq_true rfl, Nat.le_of_ble_eq_true rfl⟩ dL_links_98 (fun E ce q9 f16 H locs hPX hw hS hce hcv hcl => ?_) (fun v f16 H locs hP hw hS => ?_)
      · exact hPX.elim
      · obtain ⟨ev9, hC17, k18⟩ := hP
        subst ev9
        have hC17 : CXW G f16 xo ez eo bu nw0 na0 nq0 nr0 nw1 na1 nq1 nr1 bs bp bh bf bl bg S0 S1 gw0 ga0 gw1 ga1 n a cg x sa pk fl gv gh gl := hC17
        refine W.eq (g2 := F0 m 101 ls [.int (-71)]) rfl ?_
        refine lv_bipush (v := (-71)) hx hb dL_links_101 (by decide) ?_
        refine lv_icmp_ne (tgt := 155) hx hb dL_links_103 (by decide) (fun c9 => absurd (by decide) c9) (fun _ => ?_)
        refine lv_aload_n hx hb dL_links_106 rfl (lv_at hl9 6 rfl) ?_
        refine lv_iload hx hb dL_links_107 (lv_at hl9 5 rfl) ?_
        refine lv_iload hx hb dL_links_109 (lv_at hl9 2 rfl) ?_
        refine lv_bipush (v := 10) hx hb dL_links_111 (by decide) ?_
        refine hp_SH (As := [.ref xo, .int 0, .int (nI j13), .int 10]) (rest := []) B0 hw hS (c_V_wish_V0 hl G f16 xo ez eo bu nw0 na0 nq0 nr0 nw1 na1 nq1 nr1 bs bp bh bf bl bg S0 S1 gw0 ga0 gw1 ga1 n a cg x sa pk fl gv gh gl hC17 (Nat.lt_of_le_of_lt hl0 (by decide)) (Nat.lt_of_le_of_lt hl1 (by decide)) j13 (by omega) 10 (by decide)) mH_L_wish qM_L_97 rfl rfl hl9.1 (Nat.le_of_ble_eq_true rfl) ⟨⟨Nat.le_of_ble_eq_true rfl, Nat.le_of_ble_eq_true rfl⟩, Nat.le_of_ble_eq_true rfl, Nat.le_of_ble_eq_true rfl⟩ dL_links_113 (fun E ce q9 f19 H locs hPX hw hS hce hcv hcl => ?_) (fun v f19 H locs hP hw hS => ?_)
        · exact hPX.elim
        · obtain ⟨ev9, hC20, k21⟩ := hP
          subst ev9
          have hC20 : CXW G f19 xo ez eo bu nw0 na0 nq0 nr0 nw1 na1 nq1 nr1 bs bp bh bf bl bg S0 S1 gw0 ga0 gw1 ga1 n a cg x sa pk fl gv gh gl := hC20
          refine W.eq (g2 := F0 m 116 ls [.int (-72)]) rfl ?_
          refine lv_bipush (v := (-72)) hx hb dL_links_116 (by decide) ?_
          refine lv_icmp_ne (tgt := 155) hx hb dL_links_118 (by decide) (fun c9 => absurd (by decide) c9) (fun _ => ?_)
          refine lv_aload_n hx hb dL_links_121 rfl (lv_at hl9 6 rfl) ?_
          refine lv_iload hx hb dL_links_122 (lv_at hl9 5 rfl) ?_
          refine lv_iload hx hb dL_links_124 (lv_at hl9 2 rfl) ?_
          refine lv_bipush (v := (-2)) hx hb dL_links_126 (by decide) ?_
          refine hp_SH (As := [.ref xo, .int 0, .int (nI j13), .int (-2)]) (rest := []) B0 hw hS (c_V_wish_V0 hl G f19 xo ez eo bu nw0 na0 nq0 nr0 nw1 na1 nq1 nr1 bs bp bh bf bl bg S0 S1 gw0 ga0 gw1 ga1 n a cg x sa pk fl gv gh gl hC20 (Nat.lt_of_le_of_lt hl0 (by decide)) (Nat.lt_of_le_of_lt hl1 (by decide)) j13 (by omega) (-2) (by decide)) mH_L_wish qM_L_97 rfl rfl hl9.1 (Nat.le_of_ble_eq_true rfl) ⟨⟨Nat.le_of_ble_eq_true rfl, Nat.le_of_ble_eq_true rfl⟩, Nat.le_of_ble_eq_true rfl, Nat.le_of_ble_eq_true rfl⟩ dL_links_128 (fun E ce q9 f22 H locs hPX hw hS hce hcv hcl => ?_) (fun v f22 H locs hP hw hS => ?_)
          · exact hPX.elim
          · obtain ⟨ev9, hC23, k24⟩ := hP
            subst ev9
            have hC23 : CXW G f22 xo ez eo bu nw0 na0 nq0 nr0 nw1 na1 nq1 nr1 bs bp bh bf bl bg S0 S1 gw0 ga0 gw1 ga1 n a cg x sa pk fl gv gh gl := hC23
            refine W.eq (g2 := F0 m 131 ls [.int (-72)]) rfl ?_
            refine lv_bipush (v := (-72)) hx hb dL_links_131 (by decide) ?_
            refine lv_icmp_ne (tgt := 155) hx hb dL_links_133 (by decide) (fun c9 => absurd (by decide) c9) (fun _ => ?_)
            refine lv_aload_n hx hb dL_links_136 rfl (lv_at hl9 6 rfl) ?_
            refine lv_iload hx hb dL_links_137 (lv_at hl9 5 rfl) ?_
            refine lv_iload hx hb dL_links_139 (lv_at hl9 2 rfl) ?_
            refine lv_iload hx hb dL_links_141 (lv_at hl9 1 rfl) ?_
            refine hp_SH (As := [.ref xo, .int 0, .int (nI j13), .int (nI j3 - 1)]) (rest := []) B0 hw hS (c_V_wish_0 hl G f22 xo ez eo bu nw0 na0 nq0 nr0 nw1 na1 nq1 nr1 bs bp bh bf bl bg S0 S1 gw0 ga0 gw1 ga1 n a cg x sa pk fl gv gh gl hC23 (Nat.lt_of_le_of_lt hl0 (by decide)) (Nat.lt_of_le_of_lt hl1 (by decide)) j13 (by omega) (nI j3 - 1) (VOK_lo hj4)) mH_L_wish qM_L_97 rfl rfl hl9.1 (Nat.le_of_ble_eq_true rfl) ⟨⟨Nat.le_of_ble_eq_true rfl, Nat.le_of_ble_eq_true rfl⟩, Nat.le_of_ble_eq_true rfl, Nat.le_of_ble_eq_true rfl⟩ dL_links_143 (fun E ce q9 f25 H locs hPX hw hS hce hcv hcl => ?_) (fun v f25 H locs hP hw hS => ?_)
            · exact hPX.elim
            · obtain ⟨ev9, hC26, k27⟩ := hP
              subst ev9
              have hC26 : CXW G f25 xo ez eo bu nw0 na0 nq0 nr0 nw1 na1 nq1 nr1 bs bp bh bf bl bg S0 S1 (upd gw0 j13 (nI j3 - 1)) ga0 gw1 ga1 n a cg x sa pk fl gv gh gl := hC26
              refine W.eq (g2 := F0 m 146 ls [.int ((gw0 j13))]) rfl ?_
              refine lv_iload hx hb dL_links_146 (lv_at hl9 0 rfl) ?_
              refine lv_icmp_ne (tgt := 155) hx hb dL_links_148 (by decide) (fun c9 => absurd rfl c9) (fun _ => ?_)
              refine lv_iconst (v := 1) hx hb dL_links_151 (by decide) ?_
              refine lv_goto (tgt := 156) hx hb dL_links_152 (by decide) ?_
              have h28 : f13 lx = some (.inl (cJ G, 64, .inr (.inl xs0))) := k15 _ _ h7 (Nat.ne_of_beq_eq_false rfl) (hdos _ List.mem_cons_self)
              have h29 : f16 lx = some (.inl (cJ G, 64, .inr (.inl xs0))) := k18 _ _ h28 (Nat.ne_of_beq_eq_false rfl) (hdos _ List.mem_cons_self)
              have h30 : f19 lx = some (.inl (cJ G, 64, .inr (.inl xs0))) := k21 _ _ h29 (Nat.ne_of_beq_eq_false rfl) (hdos _ List.mem_cons_self)
              have h31 : f22 lx = some (.inl (cJ G, 64, .inr (.inl xs0))) := k24 _ _ h30 (Nat.ne_of_beq_eq_false rfl) (hdos _ List.mem_cons_self)
              have h32 : f25 lx = some (.inl (cJ G, 64, .inr (.inl xs0))) := k27 _ _ h31 (Nat.ne_of_beq_eq_false rfl) (hdos _ List.mem_cons_self)
              have h33 : f13 ly = some (.inl (cJ G, 64, .inr (.inl xs1))) := k15 _ _ h8 (Nat.ne_of_beq_eq_false rfl) (hdos _ (List.mem_cons_of_mem _ List.mem_cons_self))
              have h34 : f16 ly = some (.inl (cJ G, 64, .inr (.inl xs1))) := k18 _ _ h33 (Nat.ne_of_beq_eq_false rfl) (hdos _ (List.mem_cons_of_mem _ List.mem_cons_self))
              have h35 : f19 ly = some (.inl (cJ G, 64, .inr (.inl xs1))) := k21 _ _ h34 (Nat.ne_of_beq_eq_false rfl) (hdos _ (List.mem_cons_of_mem _ List.mem_cons_self))
              have h36 : f22 ly = some (.inl (cJ G, 64, .inr (.inl xs1))) := k24 _ _ h35 (Nat.ne_of_beq_eq_false rfl) (hdos _ (List.mem_cons_of_mem _ List.mem_cons_self))
              have h37 : f25 ly = some (.inl (cJ G, 64, .inr (.inl xs1))) := k27 _ _ h36 (Nat.ne_of_beq_eq_false rfl) (hdos _ (List.mem_cons_of_mem _ List.mem_cons_self))
              have h38 : f13 lw = some (.inl (cI G, 12, .inl (j6 (upd gw0 j13 (nI j3 - 1)) gw1))) := k15 _ _ h6 (Nat.ne_of_beq_eq_false rfl) (hdos _ (List.mem_cons_of_mem _ (List.mem_cons_of_mem _ List.mem_cons_self)))
              have h39 : f16 lw = some (.inl (cI G, 12, .inl (j6 (upd gw0 j13 (nI j3 - 1)) gw1))) := k18 _ _ h38 (Nat.ne_of_beq_eq_false rfl) (hdos _ (List.mem_cons_of_mem _ (List.mem_cons_of_mem _ List.mem_cons_self)))
              have h40 : f19 lw = some (.inl (cI G, 12, .inl (j6 (upd gw0 j13 (nI j3 - 1)) gw1))) := k21 _ _ h39 (Nat.ne_of_beq_eq_false rfl) (hdos _ (List.mem_cons_of_mem _ (List.mem_cons_of_mem _ List.mem_cons_self)))
              have h41 : f22 lw = some (.inl (cI G, 12, .inl (j6 (upd gw0 j13 (nI j3 - 1)) gw1))) := k24 _ _ h40 (Nat.ne_of_beq_eq_false rfl) (hdos _ (List.mem_cons_of_mem _ (List.mem_cons_of_mem _ List.mem_cons_self)))
              have h42 : f25 lw = some (.inl (cI G, 12, .inl (j6 (upd gw0 j13 (nI j3 - 1)) gw1))) := k27 _ _ h41 (Nat.ne_of_beq_eq_false rfl) (hdos _ (List.mem_cons_of_mem _ (List.mem_cons_of_mem _ List.mem_cons_self)))
              have h43 : f13 la = some (.inl (cI G, 12, .inl (j6 ga0 ga1))) := k15 _ _ h9 (Nat.ne_of_beq_eq_false rfl) (hdos _ (List.mem_cons_of_mem _ (List.mem_cons_of_mem _ (List.mem_cons_of_mem _ List.mem_cons_self))))
              have h44 : f16 la = some (.inl (cI G, 12, .inl (j6 ga0 ga1))) := k18 _ _ h43 (Nat.ne_of_beq_eq_false rfl) (hdos _ (List.mem_cons_of_mem _ (List.mem_cons_of_mem _ (List.mem_cons_of_mem _ List.mem_cons_self))))
              have h45 : f19 la = some (.inl (cI G, 12, .inl (j6 ga0 ga1))) := k21 _ _ h44 (Nat.ne_of_beq_eq_false rfl) (hdos _ (List.mem_cons_of_mem _ (List.mem_cons_of_mem _ (List.mem_cons_of_mem _ List.mem_cons_self))))
              have h46 : f22 la = some (.inl (cI G, 12, .inl (j6 ga0 ga1))) := k24 _ _ h45 (Nat.ne_of_beq_eq_false rfl) (hdos _ (List.mem_cons_of_mem _ (List.mem_cons_of_mem _ (List.mem_cons_of_mem _ List.mem_cons_self))))
              have h47 : f25 la = some (.inl (cI G, 12, .inl (j6 ga0 ga1))) := k27 _ _ h46 (Nat.ne_of_beq_eq_false rfl) (hdos _ (List.mem_cons_of_mem _ (List.mem_cons_of_mem _ (List.mem_cons_of_mem _ List.mem_cons_self))))
              have h48 : f13 lq = some (.inl (cI G, 12, .inl (j6 S0.2.2.2.2.2.2.2.1 S1.2.2.2.2.2.2.2.1))) := k15 _ _ h10 (Nat.ne_of_beq_eq_false rfl) (hdos _ (List.mem_cons_of_mem _ (List.mem_cons_of_mem _ (List.mem_cons_of_mem _ (List.mem_cons_of_mem _ List.mem_cons_self)))))
              have h49 : f16 lq = some (.inl (cI G, 12, .inl (j6 S0.2.2.2.2.2.2.2.1 S1.2.2.2.2.2.2.2.1))) := k18 _ _ h48 (Nat.ne_of_beq_eq_false rfl) (hdos _ (List.mem_cons_of_mem _ (List.mem_cons_of_mem _ (List.mem_cons_of_mem _ (List.mem_cons_of_mem _ List.mem_cons_self)))))
              have h50 : f19 lq = some (.inl (cI G, 12, .inl (j6 S0.2.2.2.2.2.2.2.1 S1.2.2.2.2.2.2.2.1))) := k21 _ _ h49 (Nat.ne_of_beq_eq_false rfl) (hdos _ (List.mem_cons_of_mem _ (List.mem_cons_of_mem _ (List.mem_cons_of_mem _ (List.mem_cons_of_mem _ List.mem_cons_self)))))
              have h51 : f22 lq = some (.inl (cI G, 12, .inl (j6 S0.2.2.2.2.2.2.2.1 S1.2.2.2.2.2.2.2.1))) := k24 _ _ h50 (Nat.ne_of_beq_eq_false rfl) (hdos _ (List.mem_cons_of_mem _ (List.mem_cons_of_mem _ (List.mem_cons_of_mem _ (List.mem_cons_of_mem _ List.mem_cons_self)))))
              have h52 : f25 lq = some (.inl (cI G, 12, .inl (j6 S0.2.2.2.2.2.2.2.1 S1.2.2.2.2.2.2.2.1))) := k27 _ _ h51 (Nat.ne_of_beq_eq_false rfl) (hdos _ (List.mem_cons_of_mem _ (List.mem_cons_of_mem _ (List.mem_cons_of_mem _ (List.mem_cons_of_mem _ List.mem_cons_self)))))
              have h53 : f13 le = some (.inl (cI G, 16, .inl (jE (e8 S0.1 S0.2.1 S0.2.2.1 S0.2.2.2.1 S0.2.2.2.2.1 S0.2.2.2.2.2.1 S0.2.2.2.2.2.2.1 (nI S0.2.2.2.2.2.2.2.2.length)) (eS S1)))) := k15 _ _ h11 (Nat.ne_of_beq_eq_false rfl) (hdos _ (List.mem_cons_of_mem _ (List.mem_cons_of_mem _ (List.mem_cons_of_mem _ (List.mem_cons_of_mem _ (List.mem_cons_of_mem _ List.mem_cons_self))))))
              have h54 : f16 le = some (.inl (cI G, 16, .inl (jE (e8 S0.1 S0.2.1 S0.2.2.1 S0.2.2.2.1 S0.2.2.2.2.1 S0.2.2.2.2.2.1 S0.2.2.2.2.2.2.1 (nI S0.2.2.2.2.2.2.2.2.length)) (eS S1)))) := k18 _ _ h53 (Nat.ne_of_beq_eq_false rfl) (hdos _ (List.mem_cons_of_mem _ (List.mem_cons_of_mem _ (List.mem_cons_of_mem _ (List.mem_cons_of_mem _ (List.mem_cons_of_mem _ List.mem_cons_self))))))
              have h55 : f19 le = some (.inl (cI G, 16, .inl (jE (e8 S0.1 S0.2.1 S0.2.2.1 S0.2.2.2.1 S0.2.2.2.2.1 S0.2.2.2.2.2.1 S0.2.2.2.2.2.2.1 (nI S0.2.2.2.2.2.2.2.2.length)) (eS S1)))) := k21 _ _ h54 (Nat.ne_of_beq_eq_false rfl) (hdos _ (List.mem_cons_of_mem _ (List.mem_cons_of_mem _ (List.mem_cons_of_mem _ (List.mem_cons_of_mem _ (List.mem_cons_of_mem _ List.mem_cons_self))))))
              have h56 : f22 le = some (.inl (cI G, 16, .inl (jE (e8 S0.1 S0.2.1 S0.2.2.1 S0.2.2.2.1 S0.2.2.2.2.1 S0.2.2.2.2.2.1 S0.2.2.2.2.2.2.1 (nI S0.2.2.2.2.2.2.2.2.length)) (eS S1)))) := k24 _ _ h55 (Nat.ne_of_beq_eq_false rfl) (hdos _ (List.mem_cons_of_mem _ (List.mem_cons_of_mem _ (List.mem_cons_of_mem _ (List.mem_cons_of_mem _ (List.mem_cons_of_mem _ List.mem_cons_self))))))
              have h57 : f25 le = some (.inl (cI G, 16, .inl (jE (e8 S0.1 S0.2.1 S0.2.2.1 S0.2.2.2.1 S0.2.2.2.2.1 S0.2.2.2.2.2.1 S0.2.2.2.2.2.2.1 (nI S0.2.2.2.2.2.2.2.2.length)) (eS S1)))) := k27 _ _ h56 (Nat.ne_of_beq_eq_false rfl) (hdos _ (List.mem_cons_of_mem _ (List.mem_cons_of_mem _ (List.mem_cons_of_mem _ (List.mem_cons_of_mem _ (List.mem_cons_of_mem _ List.mem_cons_self))))))
              exact hp_zret (v := 1) B0 hw hS hr ⟨Nat.le_of_ble_eq_true rfl, Nat.le_of_ble_eq_true rfl⟩ (rfl) dL_links_156 (⟨rfl, S0, S1, (upd gw0 j13 (nI j3 - 1)), ga0, gw1, ga1, hC26, ⟨⟨_, h32, hX0⟩, ⟨_, h37, hX1⟩, h42, h47, h52, h57⟩, ⟨SOK.mono hSo0 (by omega), SOK.mono hSo1 (by omega), (VOK_upd hgw0 (VOK_lo hj4)), hga0, hgw1, hga1⟩, hl0, hl1, ((show hKn [lx, ly, lw, la, lq, le, xo, ez, eo, bu, nw0, na0, nq0, nr0, nw1, na1, nq1, nr1, bs, bp, bh, bf, bl, bg] f f5 from (by rw [ef5]; exact hKn.up (List.mem_cons_of_mem _ (List.mem_cons_of_mem _ List.mem_cons_self)))).tr ((show hKn [lx, ly, lw, la, lq, le, xo, ez, eo, bu, nw0, na0, nq0, nr0, nw1, na1, nq1, nr1, bs, bp, bh, bf, bl, bg] f5 f13 from (hKn.mono k15 sbA)).tr ((show hKn [lx, ly, lw, la, lq, le, xo, ez, eo, bu, nw0, na0, nq0, nr0, nw1, na1, nq1, nr1, bs, bp, bh, bf, bl, bg] f13 f16 from (hKn.mono k18 sbA)).tr ((show hKn [lx, ly, lw, la, lq, le, xo, ez, eo, bu, nw0, na0, nq0, nr0, nw1, na1, nq1, nr1, bs, bp, bh, bf, bl, bg] f16 f19 from (hKn.mono k21 sbA)).tr ((show hKn [lx, ly, lw, la, lq, le, xo, ez, eo, bu, nw0, na0, nq0, nr0, nw1, na1, nq1, nr1, bs, bp, bh, bf, bl, bg] f19 f22 from (hKn.mono k24 sbA)).tr (show hKn [lx, ly, lw, la, lq, le, xo, ez, eo, bu, nw0, na0, nq0, nr0, nw1, na1, nq1, nr1, bs, bp, bh, bf, bl, bg] f22 f25 from (hKn.mono k27 sbA)))))))⟩)

set_option maxHeartbeats 4000000 in
set_option maxRecDepth 100000 in
theorem lk_w_1 {l : Launch} (hl : l.stackTraces = false) (G : hG) (f : hM) (xo ez eo bu nw0 na0 nq0 nr0 nw1 na1 nq1 nr1 bs bp bh bf bl bg : Nat) (S0 : ES) (S1 : ES) (gw0 : Nat → Int32) (ga0 : Nat → Int32) (gw1 : Nat → Int32) (ga1 : Nat → Int32) (n : Nat) (a : Nat) (cg : Nat) (x : Nat) (sa : Nat → Nat) (pk : Nat → Nat) (fl : Nat → Nat) (gv : Nat → Nat) (gh : Nat → Int32) (gl : Nat → Int32) (hC : CXW G f xo ez eo bu nw0 na0 nq0 nr0 nw1 na1 nq1 nr1 bs bp bh bf bl bg S0 S1 gw0 ga0 gw1 ga1 n a cg x sa pk fl gv gh gl) (lx ly lw la lq le : Nat) (hdis : ∀ p, p ∈ [xo, ez, eo, bu, nw0, na0, nq0, nr0, nw1, na1, nq1, nr1, bs, bp, bh, bf, bl, bg] → p ∉ [lx, ly, lw, la, lq, le]) (hdos : ∀ p, p ∈ [lx, ly, lw, la, lq, le] → p ∉ [xo, ez, eo, bu, nw0, na0, nq0, nr0, nw1, na1, nq1, nr1, bs, bp, bh, bf, bl, bg]) (n_lx_ly : lx ≠ ly) (n_lw_la : lw ≠ la) (n_lw_lq : lw ≠ lq) (n_la_lq : la ≠ lq) (hLX : LX G f lx ly lw la lq le S0 S1 gw0 ga0 gw1 ga1) (b : Nat) (hInv : INV b S0 S1 gw0 ga0 gw1 ga1) (hbb : b + 200 ≤ 1000000) (hl0 : S0.2.2.2.2.2.2.2.2.length ≤ 52) (hl1 : S1.2.2.2.2.2.2.2.2.length ≤ 52) (ac : Nat) (hac : ac < 24) (hact : ac ≠ 22 → S0.2.2.2.2.2.2.2.2.length ≤ 40 ∧ S1.2.2.2.2.2.2.2.2.length ≤ 40) (u z : Int32) {p : Program} {e : Env} {s : State} {m : MethodId} {args : Array Value} {below : List Frame} {meth : Method} {c : Code} (B0 : hB p l s m args meth c cL_links 17 RL G) (hr : meth.sig.returnType = some .boolean) {H : Heap} {locs : List Loc} {ls : Array Slot} (hw : hW G f H) (hS : va_S (hFr G) s.heap H locs) (j13 : Nat) (hj13 : j13 < 6) (hl9 : lv_has ls 17 [(13, .int (nI j13)), (12, .ref ly), (11, .int 8), (10, .int 1), (0, .ref xo), (1, .int (nI ac)), (2, .int u), (3, .int z), (4, .ref lx), (5, .ref ly), (6, .ref lw), (7, .ref la), (8, .ref lq), (9, .ref le)]) : W p l e { frames := 9, cells := 203, slots := 1118, locals := 178 } s m args below meth c H locs 0 0 (vx_MQ below (hQ G (fun v f1 => v = some (.int 1) ∧ ∃ (S2 S3 : ES) (w0 a0 w1 a1 : Nat → Int32), CXW G f1 xo ez eo bu nw0 na0 nq0 nr0 nw1 na1 nq1 nr1 bs bp bh bf bl bg S2 S3 w0 a0 w1 a1 n a cg x sa pk fl gv gh gl ∧ LX G f1 lx ly lw la lq le S2 S3 w0 a0 w1 a1 ∧ INV (b + 100) S2 S3 w0 a0 w1 a1 ∧ S2.2.2.2.2.2.2.2.2.length ≤ 52 ∧ S3.2.2.2.2.2.2.2.2.length ≤ 52 ∧ hKn [lx, ly, lw, la, lq, le, xo, ez, eo, bu, nw0, na0, nq0, nr0, nw1, na1, nq1, nr1, bs, bp, bh, bf, bl, bg] f f1)) (hX G (fun E f1 => False)) args s 203 1118 (hFr G)) (F0 m 39 ls []) := by
  have hx := B0.1
  have hb := B0.2.1
  obtain ⟨⟨xs0, k_lx, hX0⟩, ⟨xs1, k_ly, hX1⟩, k_lw, k_la, k_lq, k_le⟩ := hLX
  obtain ⟨hSo0, hSo1, hgw0, hga0, hgw1, hga1⟩ := id hInv
  have n_lx_lw : lx ≠ lw := hneL k_lx k_lw (Nat.ne_of_beq_eq_false rfl)
  have n_lx_la : lx ≠ la := hneL k_lx k_la (Nat.ne_of_beq_eq_false rfl)
  have n_lx_lq : lx ≠ lq := hneL k_lx k_lq (Nat.ne_of_beq_eq_false rfl)
  have n_lx_le : lx ≠ le := hneL k_lx k_le (Nat.ne_of_beq_eq_false rfl)
  have n_ly_lw : ly ≠ lw := hneL k_ly k_lw (Nat.ne_of_beq_eq_false rfl)
  have n_ly_la : ly ≠ la := hneL k_ly k_la (Nat.ne_of_beq_eq_false rfl)
  have n_ly_lq : ly ≠ lq := hneL k_ly k_lq (Nat.ne_of_beq_eq_false rfl)
  have n_ly_le : ly ≠ le := hneL k_ly k_le (Nat.ne_of_beq_eq_false rfl)
  have n_lw_le : lw ≠ le := hneL k_lw k_le (Nat.ne_of_beq_eq_false rfl)
  have n_la_le : la ≠ le := hneL k_la k_le (Nat.ne_of_beq_eq_false rfl)
  have n_lq_le : lq ≠ le := hneL k_lq k_le (Nat.ne_of_beq_eq_false rfl)
  have sbA : ∀ x9, x9 ∈ [xo, ez, eo, bu, nw0, na0, nq0, nr0, nw1, na1, nq1, nr1, bs, bp, bh, bf, bl, bg] → x9 ∈ [lx, ly, lw, la, lq, le, xo, ez, eo, bu, nw0, na0, nq0, nr0, nw1, na1, nq1, nr1, bs, bp, bh, bf, bl, bg] := sbA
  obtain ⟨xx, hxx, hx4⟩ := hSo1.2.2.2.2.1
  have h1 : f le = some (.inl (cI G, 16, .inl (jE (eS S0) (e8 S1.1 S1.2.1 S1.2.2.1 S1.2.2.2.1 S1.2.2.2.2.1 S1.2.2.2.2.2.1 S1.2.2.2.2.2.2.1 (nI S1.2.2.2.2.2.2.2.2.length))))) := k_le
  refine lv_iload_n hx hb dL_links_39 rfl (lv_at hl9 7 rfl) ?_
  refine lv_iconst (v := 3) hx hb dL_links_40 (by decide) ?_
  refine lv_ishr hx hb dL_links_41 ?_
  refine lv_bipush (v := 11) hx hb dL_links_42 (by decide) ?_
  refine hp_S (As := [.int (z >>> (3 &&& 31)), .int 11]) (rest := []) B0 hw hS (c_L_low hl G f (z >>> (3 &&& 31)) 11 (by omega) (by omega)) mS_L_low qM_L_94 rfl rfl hl9.1 (Nat.le_of_ble_eq_true rfl) ⟨⟨Nat.le_of_ble_eq_true rfl, Nat.le_of_ble_eq_true rfl⟩, Nat.le_of_ble_eq_true rfl, Nat.le_of_ble_eq_true rfl⟩ dL_links_44 (fun E ce q9 f2 H locs hPX hw hS hce hcv hcl => ?_) (fun v f2 H locs hP hw hS => ?_)
  · exact hPX.elim
  · obtain ⟨ef9, j3, hj4, ev9⟩ := hP
    rw [ef9] at hw
    subst ev9
    refine W.eq (g2 := F0 m 47 ls [.int (nI j3)]) rfl ?_
    refine lv_iconst (v := 1) hx hb dL_links_47 (by decide) ?_
    refine lv_isub hx hb dL_links_48 ?_
    refine hp_c (v := (nI j3 - 1)) (rfl) ?_
    refine lv_istore (lv' := [(14, .int (nI j3 - 1)), (13, .int (nI j13)), (12, .ref ly), (11, .int 8), (10, .int 1), (0, .ref xo), (1, .int (nI ac)), (2, .int u), (3, .int z), (4, .ref lx), (5, .ref ly), (6, .ref lw), (7, .ref la), (8, .ref lq), (9, .ref le)]) hx hb dL_links_49 hl9 (by decide) rfl (fun ls hl9 => ?_)
    refine lv_aload hx hb dL_links_51 (lv_at hl9 11 rfl) ?_
    refine lv_bipush (v := 6) hx hb dL_links_53 (by decide) ?_
    refine lv_iload hx hb dL_links_55 (lv_at hl9 4 rfl) ?_
    refine lv_imul hx hb dL_links_57 ?_
    refine hp_c (v := 6) (by decide) ?_
    refine lv_iload hx hb dL_links_58 (lv_at hl9 1 rfl) ?_
    refine lv_iadd hx hb dL_links_60 ?_
    refine hp_c (v := (nI (6 + j13))) (nI_add 6 j13) ?_
    refine hp_iald B0 hw k_lw (vp_in_nI (show 6 + j13 < 12 by omega) (by omega)) dL_links_61 ?_
    refine hp_c (v := (gw1 j13)) ((by rw [nI_clamp (by omega)]; exact j6_1)) ?_
    refine lv_istore (lv' := [(15, .int (gw1 j13)), (14, .int (nI j3 - 1)), (13, .int (nI j13)), (12, .ref ly), (11, .int 8), (10, .int 1), (0, .ref xo), (1, .int (nI ac)), (2, .int u), (3, .int z), (4, .ref lx), (5, .ref ly), (6, .ref lw), (7, .ref la), (8, .ref lq), (9, .ref le)]) hx hb dL_links_62 hl9 (by decide) rfl (fun ls hl9 => ?_)
    refine lv_aload hx hb dL_links_64 (lv_at hl9 12 rfl) ?_
    refine lv_bipush (v := 6) hx hb dL_links_66 (by decide) ?_
    refine lv_iload hx hb dL_links_68 (lv_at hl9 5 rfl) ?_
    refine lv_imul hx hb dL_links_70 ?_
    refine hp_c (v := 6) (by decide) ?_
    refine lv_iload hx hb dL_links_71 (lv_at hl9 2 rfl) ?_
    refine lv_iadd hx hb dL_links_73 ?_
    refine hp_c (v := (nI (6 + j13))) (nI_add 6 j13) ?_
    refine lv_iload hx hb dL_links_74 (lv_at hl9 1 rfl) ?_
    refine hp_iast B0 hw hS k_lw (vp_in_nI (show 6 + j13 < 12 by omega) (by omega)) dL_links_76 (fun H locs f5 ef5 hw hS => ?_)
    rw [show (upd (j6 gw0 gw1) ((nI (6 + j13)) : Int32).toNatClampNeg (nI j3 - 1) : Nat → Int32) = (j6 gw0 (upd gw1 j13 (nI j3 - 1))) from (by rw [nI_clamp (by omega), j6_u1])] at ef5
    have h6 : f5 lw = some (.inl (cI G, 12, .inl (j6 gw0 (upd gw1 j13 (nI j3 - 1))))) := by rw [ef5, va_up_self]
    refine lv_aload_n hx hb dL_links_77 rfl (lv_at hl9 6 rfl) ?_
    refine lv_iconst (v := 2) hx hb dL_links_78 (by decide) ?_
    refine lv_iload hx hb dL_links_79 (lv_at hl9 2 rfl) ?_
    refine lv_bipush (v := 10) hx hb dL_links_81 (by decide) ?_
    have h7 : f5 lx = some (.inl (cJ G, 64, .inr (.inl xs0))) := by rw [ef5, va_up_ne _ _ n_lx_lw]; exact k_lx
    have h8 : f5 ly = some (.inl (cJ G, 64, .inr (.inl xs1))) := by rw [ef5, va_up_ne _ _ n_ly_lw]; exact k_ly
    have h9 : f5 la = some (.inl (cI G, 12, .inl (j6 ga0 ga1))) := by rw [ef5, va_up_ne _ _ (Ne.symm n_lw_la)]; exact k_la
    have h10 : f5 lq = some (.inl (cI G, 12, .inl (j6 S0.2.2.2.2.2.2.2.1 S1.2.2.2.2.2.2.2.1))) := by rw [ef5, va_up_ne _ _ (Ne.symm n_lw_lq)]; exact k_lq
    have h11 : f5 le = some (.inl (cI G, 16, .inl (jE (eS S0) (e8 S1.1 S1.2.1 S1.2.2.1 S1.2.2.2.1 S1.2.2.2.2.1 S1.2.2.2.2.2.1 S1.2.2.2.2.2.2.1 (nI S1.2.2.2.2.2.2.2.2.length))))) := by rw [ef5, va_up_ne _ _ (Ne.symm n_lw_le)]; exact h1
    have hC12 : CXW G f5 xo ez eo bu nw0 na0 nq0 nr0 nw1 na1 nq1 nr1 bs bp bh bf bl bg S0 S1 gw0 ga0 gw1 ga1 n a cg x sa pk fl gv gh gl := CXW.eq hC (show hEq [lx, ly, lw, la, lq, le] f f5 from (by rw [ef5]; exact hEq.up (List.mem_cons_of_mem _ (List.mem_cons_of_mem _ List.mem_cons_self)))) hdis (fun b9 hb9 => by
        simp only [List.mem_cons, List.not_mem_nil, or_false] at hb9
        rcases hb9 with hb9 | hb9 | hb9 | hb9 | hb9 | hb9
        · rw [hb9]; exact ⟨_, _, k_lx, h7, (Nat.ne_of_beq_eq_false rfl), (Nat.ne_of_beq_eq_false rfl)⟩
        · rw [hb9]; exact ⟨_, _, k_ly, h8, (Nat.ne_of_beq_eq_false rfl), (Nat.ne_of_beq_eq_false rfl)⟩
        · rw [hb9]; exact ⟨_, _, k_lw, h6, (Nat.ne_of_beq_eq_false rfl), (Nat.ne_of_beq_eq_false rfl)⟩
        · rw [hb9]; exact ⟨_, _, k_la, h9, (Nat.ne_of_beq_eq_false rfl), (Nat.ne_of_beq_eq_false rfl)⟩
        · rw [hb9]; exact ⟨_, _, k_lq, h10, (Nat.ne_of_beq_eq_false rfl), (Nat.ne_of_beq_eq_false rfl)⟩
        · rw [hb9]; exact ⟨_, _, h1, h11, (Nat.ne_of_beq_eq_false rfl), (Nat.ne_of_beq_eq_false rfl)⟩)
    refine hp_SH (As := [.ref xo, .int 2, .int (nI j13), .int 10]) (rest := []) B0 hw hS (c_V_wish_E hl G f5 xo ez eo bu nw0 na0 nq0 nr0 nw1 na1 nq1 nr1 bs bp bh bf bl bg S0 S1 gw0 ga0 gw1 ga1 n a cg x sa pk fl gv gh gl hC12 (Nat.lt_of_le_of_lt hl0 (by decide)) (Nat.lt_of_le_of_lt hl1 (by decide)) 2 (nI j13) 10 (by decide)) mH_L_wish qM_L_97 rfl rfl hl9.1 (Nat.le_of_ble_eq_true rfl) ⟨⟨Nat.le_of_ble_eq_true rfl, Nat.le_of_ble_eq_true rfl⟩, Nat.le_of_ble_eq_true rfl, Nat.le_of_ble_eq_true rfl⟩ dL_links_83 (fun E ce q9 f13 H locs hPX hw hS hce hcv hcl => ?_) (fun v f13 H locs hP hw hS => ?_)
    · exact hPX.elim
    · obtain ⟨ev9, hC14, k15⟩ := hP
      subst ev9
      have hC14 : CXW G f13 xo ez eo bu nw0 na0 nq0 nr0 nw1 na1 nq1 nr1 bs bp bh bf bl bg S0 S1 gw0 ga0 gw1 ga1 n a cg x sa pk fl gv gh gl := hC14
      refine W.eq (g2 := F0 m 86 ls [.int (-71)]) rfl ?_
      refine lv_bipush (v := (-71)) hx hb dL_links_86 (by decide) ?_
      refine lv_icmp_ne (tgt := 155) hx hb dL_links_88 (by decide) (fun c9 => absurd (by decide) c9) (fun _ => ?_)
      refine lv_aload_n hx hb dL_links_91 rfl (lv_at hl9 6 rfl) ?_
      refine lv_iload hx hb dL_links_92 (lv_at hl9 5 rfl) ?_
      refine lv_bipush (v := 6) hx hb dL_links_94 (by decide) ?_
      refine lv_iload hx hb dL_links_96 (lv_at hl9 1 rfl) ?_
      refine hp_SH (As := [.ref xo, .int 1, .int 6, .int (nI j3 - 1)]) (rest := []) B0 hw hS (c_V_wish_O1 hl G f13 xo ez eo bu nw0 na0 nq0 nr0 nw1 na1 nq1 nr1 bs bp bh bf bl bg S0 S1 gw0 ga0 gw1 ga1 n a cg x sa pk fl gv gh gl hC14 (Nat.lt_of_le_of_lt hl0 (by decide)) (Nat.lt_of_le_of_lt hl1 (by decide)) 6 (nI j3 - 1) (by decide)) mH_L_wish qM_L_97 rfl rfl hl9.1 (Nat.le_of_ble_eq_true rfl) ⟨⟨Nat.le_of_ble_eq_true rfl, Nat.le_of_ble_eq_true rfl⟩, Nat.le_of_ble_eq_true rfl, Nat.le_of_ble_eq_true rfl⟩ dL_links_98 (fun E ce q9 f16 H locs hPX hw hS hce hcv hcl => ?_) (fun v f16 H locs hP hw hS => ?_)
      · exact hPX.elim
      · obtain ⟨ev9, hC17, k18⟩ := hP
        subst ev9
        have hC17 : CXW G f16 xo ez eo bu nw0 na0 nq0 nr0 nw1 na1 nq1 nr1 bs bp bh bf bl bg S0 S1 gw0 ga0 gw1 ga1 n a cg x sa pk fl gv gh gl := hC17
        refine W.eq (g2 := F0 m 101 ls [.int (-71)]) rfl ?_
        refine lv_bipush (v := (-71)) hx hb dL_links_101 (by decide) ?_
        refine lv_icmp_ne (tgt := 155) hx hb dL_links_103 (by decide) (fun c9 => absurd (by decide) c9) (fun _ => ?_)
        refine lv_aload_n hx hb dL_links_106 rfl (lv_at hl9 6 rfl) ?_
        refine lv_iload hx hb dL_links_107 (lv_at hl9 5 rfl) ?_
        refine lv_iload hx hb dL_links_109 (lv_at hl9 2 rfl) ?_
        refine lv_bipush (v := 10) hx hb dL_links_111 (by decide) ?_
        refine hp_SH (As := [.ref xo, .int 1, .int (nI j13), .int 10]) (rest := []) B0 hw hS (c_V_wish_V1 hl G f16 xo ez eo bu nw0 na0 nq0 nr0 nw1 na1 nq1 nr1 bs bp bh bf bl bg S0 S1 gw0 ga0 gw1 ga1 n a cg x sa pk fl gv gh gl hC17 (Nat.lt_of_le_of_lt hl0 (by decide)) (Nat.lt_of_le_of_lt hl1 (by decide)) j13 (by omega) 10 (by decide)) mH_L_wish qM_L_97 rfl rfl hl9.1 (Nat.le_of_ble_eq_true rfl) ⟨⟨Nat.le_of_ble_eq_true rfl, Nat.le_of_ble_eq_true rfl⟩, Nat.le_of_ble_eq_true rfl, Nat.le_of_ble_eq_true rfl⟩ dL_links_113 (fun E ce q9 f19 H locs hPX hw hS hce hcv hcl => ?_) (fun v f19 H locs hP hw hS => ?_)
        · exact hPX.elim
        · obtain ⟨ev9, hC20, k21⟩ := hP
          subst ev9
          have hC20 : CXW G f19 xo ez eo bu nw0 na0 nq0 nr0 nw1 na1 nq1 nr1 bs bp bh bf bl bg S0 S1 gw0 ga0 gw1 ga1 n a cg x sa pk fl gv gh gl := hC20
          refine W.eq (g2 := F0 m 116 ls [.int (-72)]) rfl ?_
          refine lv_bipush (v := (-72)) hx hb dL_links_116 (by decide) ?_
          refine lv_icmp_ne (tgt := 155) hx hb dL_links_118 (by decide) (fun c9 => absurd (by decide) c9) (fun _ => ?_)
          refine lv_aload_n hx hb dL_links_121 rfl (lv_at hl9 6 rfl) ?_
          refine lv_iload hx hb dL_links_122 (lv_at hl9 5 rfl) ?_
          refine lv_iload hx hb dL_links_124 (lv_at hl9 2 rfl) ?_
          refine lv_bipush (v := (-2)) hx hb dL_links_126 (by decide) ?_
          refine hp_SH (As := [.ref xo, .int 1, .int (nI j13), .int (-2)]) (rest := []) B0 hw hS (c_V_wish_V1 hl G f19 xo ez eo bu nw0 na0 nq0 nr0 nw1 na1 nq1 nr1 bs bp bh bf bl bg S0 S1 gw0 ga0 gw1 ga1 n a cg x sa pk fl gv gh gl hC20 (Nat.lt_of_le_of_lt hl0 (by decide)) (Nat.lt_of_le_of_lt hl1 (by decide)) j13 (by omega) (-2) (by decide)) mH_L_wish qM_L_97 rfl rfl hl9.1 (Nat.le_of_ble_eq_true rfl) ⟨⟨Nat.le_of_ble_eq_true rfl, Nat.le_of_ble_eq_true rfl⟩, Nat.le_of_ble_eq_true rfl, Nat.le_of_ble_eq_true rfl⟩ dL_links_128 (fun E ce q9 f22 H locs hPX hw hS hce hcv hcl => ?_) (fun v f22 H locs hP hw hS => ?_)
          · exact hPX.elim
          · obtain ⟨ev9, hC23, k24⟩ := hP
            subst ev9
            have hC23 : CXW G f22 xo ez eo bu nw0 na0 nq0 nr0 nw1 na1 nq1 nr1 bs bp bh bf bl bg S0 S1 gw0 ga0 gw1 ga1 n a cg x sa pk fl gv gh gl := hC23
            refine W.eq (g2 := F0 m 131 ls [.int (-72)]) rfl ?_
            refine lv_bipush (v := (-72)) hx hb dL_links_131 (by decide) ?_
            refine lv_icmp_ne (tgt := 155) hx hb dL_links_133 (by decide) (fun c9 => absurd (by decide) c9) (fun _ => ?_)
            refine lv_aload_n hx hb dL_links_136 rfl (lv_at hl9 6 rfl) ?_
            refine lv_iload hx hb dL_links_137 (lv_at hl9 5 rfl) ?_
            refine lv_iload hx hb dL_links_139 (lv_at hl9 2 rfl) ?_
            refine lv_iload hx hb dL_links_141 (lv_at hl9 1 rfl) ?_
            refine hp_SH (As := [.ref xo, .int 1, .int (nI j13), .int (nI j3 - 1)]) (rest := []) B0 hw hS (c_V_wish_1 hl G f22 xo ez eo bu nw0 na0 nq0 nr0 nw1 na1 nq1 nr1 bs bp bh bf bl bg S0 S1 gw0 ga0 gw1 ga1 n a cg x sa pk fl gv gh gl hC23 (Nat.lt_of_le_of_lt hl0 (by decide)) (Nat.lt_of_le_of_lt hl1 (by decide)) j13 (by omega) (nI j3 - 1) (VOK_lo hj4)) mH_L_wish qM_L_97 rfl rfl hl9.1 (Nat.le_of_ble_eq_true rfl) ⟨⟨Nat.le_of_ble_eq_true rfl, Nat.le_of_ble_eq_true rfl⟩, Nat.le_of_ble_eq_true rfl, Nat.le_of_ble_eq_true rfl⟩ dL_links_143 (fun E ce q9 f25 H locs hPX hw hS hce hcv hcl => ?_) (fun v f25 H locs hP hw hS => ?_)
            · exact hPX.elim
            · obtain ⟨ev9, hC26, k27⟩ := hP
              subst ev9
              have hC26 : CXW G f25 xo ez eo bu nw0 na0 nq0 nr0 nw1 na1 nq1 nr1 bs bp bh bf bl bg S0 S1 gw0 ga0 (upd gw1 j13 (nI j3 - 1)) ga1 n a cg x sa pk fl gv gh gl := hC26
              refine W.eq (g2 := F0 m 146 ls [.int ((gw1 j13))]) rfl ?_
              refine lv_iload hx hb dL_links_146 (lv_at hl9 0 rfl) ?_
              refine lv_icmp_ne (tgt := 155) hx hb dL_links_148 (by decide) (fun c9 => absurd rfl c9) (fun _ => ?_)
              refine lv_iconst (v := 1) hx hb dL_links_151 (by decide) ?_
              refine lv_goto (tgt := 156) hx hb dL_links_152 (by decide) ?_
              have h28 : f13 lx = some (.inl (cJ G, 64, .inr (.inl xs0))) := k15 _ _ h7 (Nat.ne_of_beq_eq_false rfl) (hdos _ List.mem_cons_self)
              have h29 : f16 lx = some (.inl (cJ G, 64, .inr (.inl xs0))) := k18 _ _ h28 (Nat.ne_of_beq_eq_false rfl) (hdos _ List.mem_cons_self)
              have h30 : f19 lx = some (.inl (cJ G, 64, .inr (.inl xs0))) := k21 _ _ h29 (Nat.ne_of_beq_eq_false rfl) (hdos _ List.mem_cons_self)
              have h31 : f22 lx = some (.inl (cJ G, 64, .inr (.inl xs0))) := k24 _ _ h30 (Nat.ne_of_beq_eq_false rfl) (hdos _ List.mem_cons_self)
              have h32 : f25 lx = some (.inl (cJ G, 64, .inr (.inl xs0))) := k27 _ _ h31 (Nat.ne_of_beq_eq_false rfl) (hdos _ List.mem_cons_self)
              have h33 : f13 ly = some (.inl (cJ G, 64, .inr (.inl xs1))) := k15 _ _ h8 (Nat.ne_of_beq_eq_false rfl) (hdos _ (List.mem_cons_of_mem _ List.mem_cons_self))
              have h34 : f16 ly = some (.inl (cJ G, 64, .inr (.inl xs1))) := k18 _ _ h33 (Nat.ne_of_beq_eq_false rfl) (hdos _ (List.mem_cons_of_mem _ List.mem_cons_self))
              have h35 : f19 ly = some (.inl (cJ G, 64, .inr (.inl xs1))) := k21 _ _ h34 (Nat.ne_of_beq_eq_false rfl) (hdos _ (List.mem_cons_of_mem _ List.mem_cons_self))
              have h36 : f22 ly = some (.inl (cJ G, 64, .inr (.inl xs1))) := k24 _ _ h35 (Nat.ne_of_beq_eq_false rfl) (hdos _ (List.mem_cons_of_mem _ List.mem_cons_self))
              have h37 : f25 ly = some (.inl (cJ G, 64, .inr (.inl xs1))) := k27 _ _ h36 (Nat.ne_of_beq_eq_false rfl) (hdos _ (List.mem_cons_of_mem _ List.mem_cons_self))
              have h38 : f13 lw = some (.inl (cI G, 12, .inl (j6 gw0 (upd gw1 j13 (nI j3 - 1))))) := k15 _ _ h6 (Nat.ne_of_beq_eq_false rfl) (hdos _ (List.mem_cons_of_mem _ (List.mem_cons_of_mem _ List.mem_cons_self)))
              have h39 : f16 lw = some (.inl (cI G, 12, .inl (j6 gw0 (upd gw1 j13 (nI j3 - 1))))) := k18 _ _ h38 (Nat.ne_of_beq_eq_false rfl) (hdos _ (List.mem_cons_of_mem _ (List.mem_cons_of_mem _ List.mem_cons_self)))
              have h40 : f19 lw = some (.inl (cI G, 12, .inl (j6 gw0 (upd gw1 j13 (nI j3 - 1))))) := k21 _ _ h39 (Nat.ne_of_beq_eq_false rfl) (hdos _ (List.mem_cons_of_mem _ (List.mem_cons_of_mem _ List.mem_cons_self)))
              have h41 : f22 lw = some (.inl (cI G, 12, .inl (j6 gw0 (upd gw1 j13 (nI j3 - 1))))) := k24 _ _ h40 (Nat.ne_of_beq_eq_false rfl) (hdos _ (List.mem_cons_of_mem _ (List.mem_cons_of_mem _ List.mem_cons_self)))
              have h42 : f25 lw = some (.inl (cI G, 12, .inl (j6 gw0 (upd gw1 j13 (nI j3 - 1))))) := k27 _ _ h41 (Nat.ne_of_beq_eq_false rfl) (hdos _ (List.mem_cons_of_mem _ (List.mem_cons_of_mem _ List.mem_cons_self)))
              have h43 : f13 la = some (.inl (cI G, 12, .inl (j6 ga0 ga1))) := k15 _ _ h9 (Nat.ne_of_beq_eq_false rfl) (hdos _ (List.mem_cons_of_mem _ (List.mem_cons_of_mem _ (List.mem_cons_of_mem _ List.mem_cons_self))))
              have h44 : f16 la = some (.inl (cI G, 12, .inl (j6 ga0 ga1))) := k18 _ _ h43 (Nat.ne_of_beq_eq_false rfl) (hdos _ (List.mem_cons_of_mem _ (List.mem_cons_of_mem _ (List.mem_cons_of_mem _ List.mem_cons_self))))
              have h45 : f19 la = some (.inl (cI G, 12, .inl (j6 ga0 ga1))) := k21 _ _ h44 (Nat.ne_of_beq_eq_false rfl) (hdos _ (List.mem_cons_of_mem _ (List.mem_cons_of_mem _ (List.mem_cons_of_mem _ List.mem_cons_self))))
              have h46 : f22 la = some (.inl (cI G, 12, .inl (j6 ga0 ga1))) := k24 _ _ h45 (Nat.ne_of_beq_eq_false rfl) (hdos _ (List.mem_cons_of_mem _ (List.mem_cons_of_mem _ (List.mem_cons_of_mem _ List.mem_cons_self))))
              have h47 : f25 la = some (.inl (cI G, 12, .inl (j6 ga0 ga1))) := k27 _ _ h46 (Nat.ne_of_beq_eq_false rfl) (hdos _ (List.mem_cons_of_mem _ (List.mem_cons_of_mem _ (List.mem_cons_of_mem _ List.mem_cons_self))))
              have h48 : f13 lq = some (.inl (cI G, 12, .inl (j6 S0.2.2.2.2.2.2.2.1 S1.2.2.2.2.2.2.2.1))) := k15 _ _ h10 (Nat.ne_of_beq_eq_false rfl) (hdos _ (List.mem_cons_of_mem _ (List.mem_cons_of_mem _ (List.mem_cons_of_mem _ (List.mem_cons_of_mem _ List.mem_cons_self)))))
              have h49 : f16 lq = some (.inl (cI G, 12, .inl (j6 S0.2.2.2.2.2.2.2.1 S1.2.2.2.2.2.2.2.1))) := k18 _ _ h48 (Nat.ne_of_beq_eq_false rfl) (hdos _ (List.mem_cons_of_mem _ (List.mem_cons_of_mem _ (List.mem_cons_of_mem _ (List.mem_cons_of_mem _ List.mem_cons_self)))))
              have h50 : f19 lq = some (.inl (cI G, 12, .inl (j6 S0.2.2.2.2.2.2.2.1 S1.2.2.2.2.2.2.2.1))) := k21 _ _ h49 (Nat.ne_of_beq_eq_false rfl) (hdos _ (List.mem_cons_of_mem _ (List.mem_cons_of_mem _ (List.mem_cons_of_mem _ (List.mem_cons_of_mem _ List.mem_cons_self)))))
              have h51 : f22 lq = some (.inl (cI G, 12, .inl (j6 S0.2.2.2.2.2.2.2.1 S1.2.2.2.2.2.2.2.1))) := k24 _ _ h50 (Nat.ne_of_beq_eq_false rfl) (hdos _ (List.mem_cons_of_mem _ (List.mem_cons_of_mem _ (List.mem_cons_of_mem _ (List.mem_cons_of_mem _ List.mem_cons_self)))))
              have h52 : f25 lq = some (.inl (cI G, 12, .inl (j6 S0.2.2.2.2.2.2.2.1 S1.2.2.2.2.2.2.2.1))) := k27 _ _ h51 (Nat.ne_of_beq_eq_false rfl) (hdos _ (List.mem_cons_of_mem _ (List.mem_cons_of_mem _ (List.mem_cons_of_mem _ (List.mem_cons_of_mem _ List.mem_cons_self)))))
              have h53 : f13 le = some (.inl (cI G, 16, .inl (jE (eS S0) (e8 S1.1 S1.2.1 S1.2.2.1 S1.2.2.2.1 S1.2.2.2.2.1 S1.2.2.2.2.2.1 S1.2.2.2.2.2.2.1 (nI S1.2.2.2.2.2.2.2.2.length))))) := k15 _ _ h11 (Nat.ne_of_beq_eq_false rfl) (hdos _ (List.mem_cons_of_mem _ (List.mem_cons_of_mem _ (List.mem_cons_of_mem _ (List.mem_cons_of_mem _ (List.mem_cons_of_mem _ List.mem_cons_self))))))
              have h54 : f16 le = some (.inl (cI G, 16, .inl (jE (eS S0) (e8 S1.1 S1.2.1 S1.2.2.1 S1.2.2.2.1 S1.2.2.2.2.1 S1.2.2.2.2.2.1 S1.2.2.2.2.2.2.1 (nI S1.2.2.2.2.2.2.2.2.length))))) := k18 _ _ h53 (Nat.ne_of_beq_eq_false rfl) (hdos _ (List.mem_cons_of_mem _ (List.mem_cons_of_mem _ (List.mem_cons_of_mem _ (List.mem_cons_of_mem _ (List.mem_cons_of_mem _ List.mem_cons_self))))))
              have h55 : f19 le = some (.inl (cI G, 16, .inl (jE (eS S0) (e8 S1.1 S1.2.1 S1.2.2.1 S1.2.2.2.1 S1.2.2.2.2.1 S1.2.2.2.2.2.1 S1.2.2.2.2.2.2.1 (nI S1.2.2.2.2.2.2.2.2.length))))) := k21 _ _ h54 (Nat.ne_of_beq_eq_false rfl) (hdos _ (List.mem_cons_of_mem _ (List.mem_cons_of_mem _ (List.mem_cons_of_mem _ (List.mem_cons_of_mem _ (List.mem_cons_of_mem _ List.mem_cons_self))))))
              have h56 : f22 le = some (.inl (cI G, 16, .inl (jE (eS S0) (e8 S1.1 S1.2.1 S1.2.2.1 S1.2.2.2.1 S1.2.2.2.2.1 S1.2.2.2.2.2.1 S1.2.2.2.2.2.2.1 (nI S1.2.2.2.2.2.2.2.2.length))))) := k24 _ _ h55 (Nat.ne_of_beq_eq_false rfl) (hdos _ (List.mem_cons_of_mem _ (List.mem_cons_of_mem _ (List.mem_cons_of_mem _ (List.mem_cons_of_mem _ (List.mem_cons_of_mem _ List.mem_cons_self))))))
              have h57 : f25 le = some (.inl (cI G, 16, .inl (jE (eS S0) (e8 S1.1 S1.2.1 S1.2.2.1 S1.2.2.2.1 S1.2.2.2.2.1 S1.2.2.2.2.2.1 S1.2.2.2.2.2.2.1 (nI S1.2.2.2.2.2.2.2.2.length))))) := k27 _ _ h56 (Nat.ne_of_beq_eq_false rfl) (hdos _ (List.mem_cons_of_mem _ (List.mem_cons_of_mem _ (List.mem_cons_of_mem _ (List.mem_cons_of_mem _ (List.mem_cons_of_mem _ List.mem_cons_self))))))
              exact hp_zret (v := 1) B0 hw hS hr ⟨Nat.le_of_ble_eq_true rfl, Nat.le_of_ble_eq_true rfl⟩ (rfl) dL_links_156 (⟨rfl, S0, S1, gw0, ga0, (upd gw1 j13 (nI j3 - 1)), ga1, hC26, ⟨⟨_, h32, hX0⟩, ⟨_, h37, hX1⟩, h42, h47, h52, h57⟩, ⟨SOK.mono hSo0 (by omega), SOK.mono hSo1 (by omega), hgw0, hga0, (VOK_upd hgw1 (VOK_lo hj4)), hga1⟩, hl0, hl1, ((show hKn [lx, ly, lw, la, lq, le, xo, ez, eo, bu, nw0, na0, nq0, nr0, nw1, na1, nq1, nr1, bs, bp, bh, bf, bl, bg] f f5 from (by rw [ef5]; exact hKn.up (List.mem_cons_of_mem _ (List.mem_cons_of_mem _ List.mem_cons_self)))).tr ((show hKn [lx, ly, lw, la, lq, le, xo, ez, eo, bu, nw0, na0, nq0, nr0, nw1, na1, nq1, nr1, bs, bp, bh, bf, bl, bg] f5 f13 from (hKn.mono k15 sbA)).tr ((show hKn [lx, ly, lw, la, lq, le, xo, ez, eo, bu, nw0, na0, nq0, nr0, nw1, na1, nq1, nr1, bs, bp, bh, bf, bl, bg] f13 f16 from (hKn.mono k18 sbA)).tr ((show hKn [lx, ly, lw, la, lq, le, xo, ez, eo, bu, nw0, na0, nq0, nr0, nw1, na1, nq1, nr1, bs, bp, bh, bf, bl, bg] f16 f19 from (hKn.mono k21 sbA)).tr ((show hKn [lx, ly, lw, la, lq, le, xo, ez, eo, bu, nw0, na0, nq0, nr0, nw1, na1, nq1, nr1, bs, bp, bh, bf, bl, bg] f19 f22 from (hKn.mono k24 sbA)).tr (show hKn [lx, ly, lw, la, lq, le, xo, ez, eo, bu, nw0, na0, nq0, nr0, nw1, na1, nq1, nr1, bs, bp, bh, bf, bl, bg] f22 f25 from (hKn.mono k27 sbA)))))))⟩)

set_option maxHeartbeats 4000000 in
set_option maxRecDepth 100000 in
theorem lk_a_0 {l : Launch} (hl : l.stackTraces = false) (G : hG) (f : hM) (xo ez eo bu nw0 na0 nq0 nr0 nw1 na1 nq1 nr1 bs bp bh bf bl bg : Nat) (S0 : ES) (S1 : ES) (gw0 : Nat → Int32) (ga0 : Nat → Int32) (gw1 : Nat → Int32) (ga1 : Nat → Int32) (n : Nat) (a : Nat) (cg : Nat) (x : Nat) (sa : Nat → Nat) (pk : Nat → Nat) (fl : Nat → Nat) (gv : Nat → Nat) (gh : Nat → Int32) (gl : Nat → Int32) (hC : CXW G f xo ez eo bu nw0 na0 nq0 nr0 nw1 na1 nq1 nr1 bs bp bh bf bl bg S0 S1 gw0 ga0 gw1 ga1 n a cg x sa pk fl gv gh gl) (lx ly lw la lq le : Nat) (hdis : ∀ p, p ∈ [xo, ez, eo, bu, nw0, na0, nq0, nr0, nw1, na1, nq1, nr1, bs, bp, bh, bf, bl, bg] → p ∉ [lx, ly, lw, la, lq, le]) (hdos : ∀ p, p ∈ [lx, ly, lw, la, lq, le] → p ∉ [xo, ez, eo, bu, nw0, na0, nq0, nr0, nw1, na1, nq1, nr1, bs, bp, bh, bf, bl, bg]) (n_lx_ly : lx ≠ ly) (n_lw_la : lw ≠ la) (n_lw_lq : lw ≠ lq) (n_la_lq : la ≠ lq) (hLX : LX G f lx ly lw la lq le S0 S1 gw0 ga0 gw1 ga1) (b : Nat) (hInv : INV b S0 S1 gw0 ga0 gw1 ga1) (hbb : b + 200 ≤ 1000000) (hl0 : S0.2.2.2.2.2.2.2.2.length ≤ 52) (hl1 : S1.2.2.2.2.2.2.2.2.length ≤ 52) (ac : Nat) (hac : ac < 24) (hact : ac ≠ 22 → S0.2.2.2.2.2.2.2.2.length ≤ 40 ∧ S1.2.2.2.2.2.2.2.2.length ≤ 40) (u z : Int32) {p : Program} {e : Env} {s : State} {m : MethodId} {args : Array Value} {below : List Frame} {meth : Method} {c : Code} (B0 : hB p l s m args meth c cL_links 17 RL G) (hr : meth.sig.returnType = some .boolean) {H : Heap} {locs : List Loc} {ls : Array Slot} (hw : hW G f H) (hS : va_S (hFr G) s.heap H locs) (j13 : Nat) (hj13 : j13 < 6) (hl9 : lv_has ls 17 [(13, .int (nI j13)), (12, .ref lx), (11, .int 0), (10, .int 0), (0, .ref xo), (1, .int (nI ac)), (2, .int u), (3, .int z), (4, .ref lx), (5, .ref ly), (6, .ref lw), (7, .ref la), (8, .ref lq), (9, .ref le)]) : W p l e { frames := 9, cells := 203, slots := 1118, locals := 178 } s m args below meth c H locs 0 0 (vx_MQ below (hQ G (fun v f1 => v = some (.int 1) ∧ ∃ (S2 S3 : ES) (w0 a0 w1 a1 : Nat → Int32), CXW G f1 xo ez eo bu nw0 na0 nq0 nr0 nw1 na1 nq1 nr1 bs bp bh bf bl bg S2 S3 w0 a0 w1 a1 n a cg x sa pk fl gv gh gl ∧ LX G f1 lx ly lw la lq le S2 S3 w0 a0 w1 a1 ∧ INV (b + 100) S2 S3 w0 a0 w1 a1 ∧ S2.2.2.2.2.2.2.2.2.length ≤ 52 ∧ S3.2.2.2.2.2.2.2.2.length ≤ 52 ∧ hKn [lx, ly, lw, la, lq, le, xo, ez, eo, bu, nw0, na0, nq0, nr0, nw1, na1, nq1, nr1, bs, bp, bh, bf, bl, bg] f f1)) (hX G (fun E f1 => False)) args s 203 1118 (hFr G)) (F0 m 163 ls []) := by
  have hx := B0.1
  have hb := B0.2.1
  obtain ⟨⟨xs0, k_lx, hX0⟩, ⟨xs1, k_ly, hX1⟩, k_lw, k_la, k_lq, k_le⟩ := hLX
  obtain ⟨hSo0, hSo1, hgw0, hga0, hgw1, hga1⟩ := id hInv
  have n_lx_lw : lx ≠ lw := hneL k_lx k_lw (Nat.ne_of_beq_eq_false rfl)
  have n_lx_la : lx ≠ la := hneL k_lx k_la (Nat.ne_of_beq_eq_false rfl)
  have n_lx_lq : lx ≠ lq := hneL k_lx k_lq (Nat.ne_of_beq_eq_false rfl)
  have n_lx_le : lx ≠ le := hneL k_lx k_le (Nat.ne_of_beq_eq_false rfl)
  have n_ly_lw : ly ≠ lw := hneL k_ly k_lw (Nat.ne_of_beq_eq_false rfl)
  have n_ly_la : ly ≠ la := hneL k_ly k_la (Nat.ne_of_beq_eq_false rfl)
  have n_ly_lq : ly ≠ lq := hneL k_ly k_lq (Nat.ne_of_beq_eq_false rfl)
  have n_ly_le : ly ≠ le := hneL k_ly k_le (Nat.ne_of_beq_eq_false rfl)
  have n_lw_le : lw ≠ le := hneL k_lw k_le (Nat.ne_of_beq_eq_false rfl)
  have n_la_le : la ≠ le := hneL k_la k_le (Nat.ne_of_beq_eq_false rfl)
  have n_lq_le : lq ≠ le := hneL k_lq k_le (Nat.ne_of_beq_eq_false rfl)
  have sbA : ∀ x9, x9 ∈ [xo, ez, eo, bu, nw0, na0, nq0, nr0, nw1, na1, nq1, nr1, bs, bp, bh, bf, bl, bg] → x9 ∈ [lx, ly, lw, la, lq, le, xo, ez, eo, bu, nw0, na0, nq0, nr0, nw1, na1, nq1, nr1, bs, bp, bh, bf, bl, bg] := sbA
  obtain ⟨xx, hxx, hx4⟩ := hSo0.2.2.2.2.1
  have h1 : f le = some (.inl (cI G, 16, .inl (jE (e8 S0.1 S0.2.1 S0.2.2.1 S0.2.2.2.1 S0.2.2.2.2.1 S0.2.2.2.2.2.1 S0.2.2.2.2.2.2.1 (nI S0.2.2.2.2.2.2.2.2.length)) (eS S1)))) := k_le
  refine lv_iload_n hx hb dL_links_163 rfl (lv_at hl9 7 rfl) ?_
  refine lv_bipush (v := 96) hx hb dL_links_164 (by decide) ?_
  refine lv_iand hx hb dL_links_166 ?_
  refine lv_if_ne (tgt := 174) hx hb dL_links_167 (by decide) (fun c2 => ?_) (fun c2 => ?_)
  · refine lv_iload_n hx hb dL_links_174 rfl (lv_at hl9 7 rfl) ?_
    refine lv_bipush (v := 96) hx hb dL_links_175 (by decide) ?_
    refine lv_iand hx hb dL_links_177 ?_
    refine lv_bipush (v := 32) hx hb dL_links_178 (by decide) ?_
    refine lv_icmp_ne (tgt := 189) hx hb dL_links_180 (by decide) (fun c3 => ?_) (fun c3 => ?_)
    · refine lv_iload_n hx hb dL_links_189 rfl (lv_at hl9 7 rfl) ?_
      refine lv_bipush (v := 7) hx hb dL_links_190 (by decide) ?_
      refine lv_ishr hx hb dL_links_192 ?_
      refine lv_sipush (v := 1024) hx hb dL_links_193 (by decide) ?_
      refine hp_S (As := [.int (z >>> (7 &&& 31)), .int 1024]) (rest := []) B0 hw hS (c_L_low hl G f (z >>> (7 &&& 31)) 1024 (by omega) (by omega)) mS_L_low qM_L_94 rfl rfl hl9.1 (Nat.le_of_ble_eq_true rfl) ⟨⟨Nat.le_of_ble_eq_true rfl, Nat.le_of_ble_eq_true rfl⟩, Nat.le_of_ble_eq_true rfl, Nat.le_of_ble_eq_true rfl⟩ dL_links_196 (fun E ce q9 f4 H locs hPX hw hS hce hcv hcl => ?_) (fun v f4 H locs hP hw hS => ?_)
      · exact hPX.elim
      · obtain ⟨ef9, j5, hj6, ev9⟩ := hP
        rw [ef9] at hw
        subst ev9
        refine W.eq (g2 := F0 m 199 ls [.int (nI j5)]) rfl ?_
        refine lv_istore (lv' := [(14, .int (nI j5)), (13, .int (nI j13)), (12, .ref lx), (11, .int 0), (10, .int 0), (0, .ref xo), (1, .int (nI ac)), (2, .int u), (3, .int z), (4, .ref lx), (5, .ref ly), (6, .ref lw), (7, .ref la), (8, .ref lq), (9, .ref le)]) hx hb dL_links_199 hl9 (by decide) rfl (fun ls hl9 => ?_)
        refine lv_aload hx hb dL_links_201 (lv_at hl9 12 rfl) ?_
        refine lv_bipush (v := 6) hx hb dL_links_203 (by decide) ?_
        refine lv_iload hx hb dL_links_205 (lv_at hl9 4 rfl) ?_
        refine lv_imul hx hb dL_links_207 ?_
        refine hp_c (v := 0) (by decide) ?_
        refine lv_iload hx hb dL_links_208 (lv_at hl9 1 rfl) ?_
        refine lv_iadd hx hb dL_links_210 ?_
        refine hp_c (v := (nI j13)) (by rw [show (0 : Int32) = nI 0 from rfl, nI_add, Nat.zero_add]) ?_
        refine hp_iald B0 hw k_la (vp_in_nI (show j13 < 12 by omega) (by omega)) dL_links_211 ?_
        refine hp_c (v := (ga0 j13)) ((by rw [nI_clamp (by omega)]; exact j6_0 (by omega))) ?_
        refine lv_istore (lv' := [(15, .int (ga0 j13)), (14, .int (nI j5)), (13, .int (nI j13)), (12, .ref lx), (11, .int 0), (10, .int 0), (0, .ref xo), (1, .int (nI ac)), (2, .int u), (3, .int z), (4, .ref lx), (5, .ref ly), (6, .ref lw), (7, .ref la), (8, .ref lq), (9, .ref le)]) hx hb dL_links_212 hl9 (by decide) rfl (fun ls hl9 => ?_)
        refine lv_aload hx hb dL_links_214 (lv_at hl9 13 rfl) ?_
        refine lv_bipush (v := 6) hx hb dL_links_216 (by decide) ?_
        refine lv_iload hx hb dL_links_218 (lv_at hl9 5 rfl) ?_
        refine lv_imul hx hb dL_links_220 ?_
        refine hp_c (v := 0) (by decide) ?_
        refine lv_iload hx hb dL_links_221 (lv_at hl9 2 rfl) ?_
        refine lv_iadd hx hb dL_links_223 ?_
        refine hp_c (v := (nI j13)) (by rw [show (0 : Int32) = nI 0 from rfl, nI_add, Nat.zero_add]) ?_
        refine lv_iload hx hb dL_links_224 (lv_at hl9 1 rfl) ?_
        refine hp_iast B0 hw hS k_la (vp_in_nI (show j13 < 12 by omega) (by omega)) dL_links_226 (fun H locs f7 ef7 hw hS => ?_)
        rw [show (upd (j6 ga0 ga1) ((nI j13) : Int32).toNatClampNeg (nI j5) : Nat → Int32) = (j6 (upd ga0 j13 (nI j5)) ga1) from (by rw [nI_clamp (by omega), j6_u0 (by omega)])] at ef7
        have h8 : f7 la = some (.inl (cI G, 12, .inl (j6 (upd ga0 j13 (nI j5)) ga1))) := by rw [ef7, va_up_self]
        refine lv_aload_n hx hb dL_links_227 rfl (lv_at hl9 6 rfl) ?_
        refine lv_iconst (v := (-1)) hx hb dL_links_228 (by decide) ?_
        refine lv_iload hx hb dL_links_229 (lv_at hl9 2 rfl) ?_
        refine lv_iconst (v := 0) hx hb dL_links_231 (by decide) ?_
        have h9 : f7 lx = some (.inl (cJ G, 64, .inr (.inl xs0))) := by rw [ef7, va_up_ne _ _ n_lx_la]; exact k_lx
        have h10 : f7 ly = some (.inl (cJ G, 64, .inr (.inl xs1))) := by rw [ef7, va_up_ne _ _ n_ly_la]; exact k_ly
        have h11 : f7 lw = some (.inl (cI G, 12, .inl (j6 gw0 gw1))) := by rw [ef7, va_up_ne _ _ n_lw_la]; exact k_lw
        have h12 : f7 lq = some (.inl (cI G, 12, .inl (j6 S0.2.2.2.2.2.2.2.1 S1.2.2.2.2.2.2.2.1))) := by rw [ef7, va_up_ne _ _ (Ne.symm n_la_lq)]; exact k_lq
        have h13 : f7 le = some (.inl (cI G, 16, .inl (jE (e8 S0.1 S0.2.1 S0.2.2.1 S0.2.2.2.1 S0.2.2.2.2.1 S0.2.2.2.2.2.1 S0.2.2.2.2.2.2.1 (nI S0.2.2.2.2.2.2.2.2.length)) (eS S1)))) := by rw [ef7, va_up_ne _ _ (Ne.symm n_la_le)]; exact h1
        have hC14 : CXW G f7 xo ez eo bu nw0 na0 nq0 nr0 nw1 na1 nq1 nr1 bs bp bh bf bl bg S0 S1 gw0 ga0 gw1 ga1 n a cg x sa pk fl gv gh gl := CXW.eq hC (show hEq [lx, ly, lw, la, lq, le] f f7 from (by rw [ef7]; exact hEq.up (List.mem_cons_of_mem _ (List.mem_cons_of_mem _ (List.mem_cons_of_mem _ List.mem_cons_self))))) hdis (fun b9 hb9 => by
            simp only [List.mem_cons, List.not_mem_nil, or_false] at hb9
            rcases hb9 with hb9 | hb9 | hb9 | hb9 | hb9 | hb9
            · rw [hb9]; exact ⟨_, _, k_lx, h9, (Nat.ne_of_beq_eq_false rfl), (Nat.ne_of_beq_eq_false rfl)⟩
            · rw [hb9]; exact ⟨_, _, k_ly, h10, (Nat.ne_of_beq_eq_false rfl), (Nat.ne_of_beq_eq_false rfl)⟩
            · rw [hb9]; exact ⟨_, _, k_lw, h11, (Nat.ne_of_beq_eq_false rfl), (Nat.ne_of_beq_eq_false rfl)⟩
            · rw [hb9]; exact ⟨_, _, k_la, h8, (Nat.ne_of_beq_eq_false rfl), (Nat.ne_of_beq_eq_false rfl)⟩
            · rw [hb9]; exact ⟨_, _, k_lq, h12, (Nat.ne_of_beq_eq_false rfl), (Nat.ne_of_beq_eq_false rfl)⟩
            · rw [hb9]; exact ⟨_, _, h1, h13, (Nat.ne_of_beq_eq_false rfl), (Nat.ne_of_beq_eq_false rfl)⟩)
        refine hp_SH (As := [.ref xo, .int (-1), .int (nI j13), .int 0]) (rest := []) B0 hw hS (c_V_allow_E hl G f7 xo ez eo bu nw0 na0 nq0 nr0 nw1 na1 nq1 nr1 bs bp bh bf bl bg S0 S1 gw0 ga0 gw1 ga1 n a cg x sa pk fl gv gh gl hC14 (Nat.lt_of_le_of_lt hl0 (by decide)) (Nat.lt_of_le_of_lt hl1 (by decide)) (-1) (nI j13) 0 (by decide)) mH_L_allow qM_L_100 rfl rfl hl9.1 (Nat.le_of_ble_eq_true rfl) ⟨⟨Nat.le_of_ble_eq_true rfl, Nat.le_of_ble_eq_true rfl⟩, Nat.le_of_ble_eq_true rfl, Nat.le_of_ble_eq_true rfl⟩ dL_links_232 (fun E ce q9 f15 H locs hPX hw hS hce hcv hcl => ?_) (fun v f15 H locs hP hw hS => ?_)
        · exact hPX.elim
        · obtain ⟨ev9, hC16, k17⟩ := hP
          subst ev9
          have hC16 : CXW G f15 xo ez eo bu nw0 na0 nq0 nr0 nw1 na1 nq1 nr1 bs bp bh bf bl bg S0 S1 gw0 ga0 gw1 ga1 n a cg x sa pk fl gv gh gl := hC16
          refine W.eq (g2 := F0 m 235 ls [.int (-71)]) rfl ?_
          refine lv_bipush (v := (-71)) hx hb dL_links_235 (by decide) ?_
          refine lv_icmp_ne (tgt := 302) hx hb dL_links_237 (by decide) (fun c9 => absurd (by decide) c9) (fun _ => ?_)
          refine lv_aload_n hx hb dL_links_240 rfl (lv_at hl9 6 rfl) ?_
          refine lv_iload hx hb dL_links_241 (lv_at hl9 5 rfl) ?_
          refine lv_iconst (v := (-1)) hx hb dL_links_243 (by decide) ?_
          refine lv_iconst (v := 0) hx hb dL_links_244 (by decide) ?_
          refine hp_SH (As := [.ref xo, .int 0, .int (-1), .int 0]) (rest := []) B0 hw hS (c_V_allow_O0 hl G f15 xo ez eo bu nw0 na0 nq0 nr0 nw1 na1 nq1 nr1 bs bp bh bf bl bg S0 S1 gw0 ga0 gw1 ga1 n a cg x sa pk fl gv gh gl hC16 (Nat.lt_of_le_of_lt hl0 (by decide)) (Nat.lt_of_le_of_lt hl1 (by decide)) (-1) 0 (by decide)) mH_L_allow qM_L_100 rfl rfl hl9.1 (Nat.le_of_ble_eq_true rfl) ⟨⟨Nat.le_of_ble_eq_true rfl, Nat.le_of_ble_eq_true rfl⟩, Nat.le_of_ble_eq_true rfl, Nat.le_of_ble_eq_true rfl⟩ dL_links_245 (fun E ce q9 f18 H locs hPX hw hS hce hcv hcl => ?_) (fun v f18 H locs hP hw hS => ?_)
          · exact hPX.elim
          · obtain ⟨ev9, hC19, k20⟩ := hP
            subst ev9
            have hC19 : CXW G f18 xo ez eo bu nw0 na0 nq0 nr0 nw1 na1 nq1 nr1 bs bp bh bf bl bg S0 S1 gw0 ga0 gw1 ga1 n a cg x sa pk fl gv gh gl := hC19
            refine W.eq (g2 := F0 m 248 ls [.int (-71)]) rfl ?_
            refine lv_bipush (v := (-71)) hx hb dL_links_248 (by decide) ?_
            refine lv_icmp_ne (tgt := 302) hx hb dL_links_250 (by decide) (fun c9 => absurd (by decide) c9) (fun _ => ?_)
            refine lv_aload_n hx hb dL_links_253 rfl (lv_at hl9 6 rfl) ?_
            refine lv_iload hx hb dL_links_254 (lv_at hl9 5 rfl) ?_
            refine lv_iload hx hb dL_links_256 (lv_at hl9 2 rfl) ?_
            refine lv_sipush (v := 1024) hx hb dL_links_258 (by decide) ?_
            refine hp_SH (As := [.ref xo, .int 0, .int (nI j13), .int 1024]) (rest := []) B0 hw hS (c_V_allow_V0 hl G f18 xo ez eo bu nw0 na0 nq0 nr0 nw1 na1 nq1 nr1 bs bp bh bf bl bg S0 S1 gw0 ga0 gw1 ga1 n a cg x sa pk fl gv gh gl hC19 (Nat.lt_of_le_of_lt hl0 (by decide)) (Nat.lt_of_le_of_lt hl1 (by decide)) j13 (by omega) 1024 (by decide)) mH_L_allow qM_L_100 rfl rfl hl9.1 (Nat.le_of_ble_eq_true rfl) ⟨⟨Nat.le_of_ble_eq_true rfl, Nat.le_of_ble_eq_true rfl⟩, Nat.le_of_ble_eq_true rfl, Nat.le_of_ble_eq_true rfl⟩ dL_links_261 (fun E ce q9 f21 H locs hPX hw hS hce hcv hcl => ?_) (fun v f21 H locs hP hw hS => ?_)
            · exact hPX.elim
            · obtain ⟨ev9, hC22, k23⟩ := hP
              subst ev9
              have hC22 : CXW G f21 xo ez eo bu nw0 na0 nq0 nr0 nw1 na1 nq1 nr1 bs bp bh bf bl bg S0 S1 gw0 ga0 gw1 ga1 n a cg x sa pk fl gv gh gl := hC22
              refine W.eq (g2 := F0 m 264 ls [.int (-72)]) rfl ?_
              refine lv_bipush (v := (-72)) hx hb dL_links_264 (by decide) ?_
              refine lv_icmp_ne (tgt := 302) hx hb dL_links_266 (by decide) (fun c9 => absurd (by decide) c9) (fun _ => ?_)
              refine lv_aload_n hx hb dL_links_269 rfl (lv_at hl9 6 rfl) ?_
              refine lv_iload hx hb dL_links_270 (lv_at hl9 5 rfl) ?_
              refine lv_iload hx hb dL_links_272 (lv_at hl9 2 rfl) ?_
              refine lv_iconst (v := (-1)) hx hb dL_links_274 (by decide) ?_
              refine hp_SH (As := [.ref xo, .int 0, .int (nI j13), .int (-1)]) (rest := []) B0 hw hS (c_V_allow_V0 hl G f21 xo ez eo bu nw0 na0 nq0 nr0 nw1 na1 nq1 nr1 bs bp bh bf bl bg S0 S1 gw0 ga0 gw1 ga1 n a cg x sa pk fl gv gh gl hC22 (Nat.lt_of_le_of_lt hl0 (by decide)) (Nat.lt_of_le_of_lt hl1 (by decide)) j13 (by omega) (-1) (by decide)) mH_L_allow qM_L_100 rfl rfl hl9.1 (Nat.le_of_ble_eq_true rfl) ⟨⟨Nat.le_of_ble_eq_true rfl, Nat.le_of_ble_eq_true rfl⟩, Nat.le_of_ble_eq_true rfl, Nat.le_of_ble_eq_true rfl⟩ dL_links_275 (fun E ce q9 f24 H locs hPX hw hS hce hcv hcl => ?_) (fun v f24 H locs hP hw hS => ?_)
              · exact hPX.elim
              · obtain ⟨ev9, hC25, k26⟩ := hP
                subst ev9
                have hC25 : CXW G f24 xo ez eo bu nw0 na0 nq0 nr0 nw1 na1 nq1 nr1 bs bp bh bf bl bg S0 S1 gw0 ga0 gw1 ga1 n a cg x sa pk fl gv gh gl := hC25
                refine W.eq (g2 := F0 m 278 ls [.int (-72)]) rfl ?_
                refine lv_bipush (v := (-72)) hx hb dL_links_278 (by decide) ?_
                refine lv_icmp_ne (tgt := 302) hx hb dL_links_280 (by decide) (fun c9 => absurd (by decide) c9) (fun _ => ?_)
                refine lv_aload_n hx hb dL_links_283 rfl (lv_at hl9 6 rfl) ?_
                refine lv_iload hx hb dL_links_284 (lv_at hl9 5 rfl) ?_
                refine lv_iload hx hb dL_links_286 (lv_at hl9 2 rfl) ?_
                refine lv_iload hx hb dL_links_288 (lv_at hl9 1 rfl) ?_
                refine hp_SH (As := [.ref xo, .int 0, .int (nI j13), .int (nI j5)]) (rest := []) B0 hw hS (c_V_allow_0 hl G f24 xo ez eo bu nw0 na0 nq0 nr0 nw1 na1 nq1 nr1 bs bp bh bf bl bg S0 S1 gw0 ga0 gw1 ga1 n a cg x sa pk fl gv gh gl hC25 (Nat.lt_of_le_of_lt hl0 (by decide)) (Nat.lt_of_le_of_lt hl1 (by decide)) j13 (by omega) (nI j5) (AOK_nI hj6)) mH_L_allow qM_L_100 rfl rfl hl9.1 (Nat.le_of_ble_eq_true rfl) ⟨⟨Nat.le_of_ble_eq_true rfl, Nat.le_of_ble_eq_true rfl⟩, Nat.le_of_ble_eq_true rfl, Nat.le_of_ble_eq_true rfl⟩ dL_links_290 (fun E ce q9 f27 H locs hPX hw hS hce hcv hcl => ?_) (fun v f27 H locs hP hw hS => ?_)
                · exact hPX.elim
                · obtain ⟨ev9, hC28, k29⟩ := hP
                  subst ev9
                  have hC28 : CXW G f27 xo ez eo bu nw0 na0 nq0 nr0 nw1 na1 nq1 nr1 bs bp bh bf bl bg S0 S1 gw0 (upd ga0 j13 (nI j5)) gw1 ga1 n a cg x sa pk fl gv gh gl := hC28
                  refine W.eq (g2 := F0 m 293 ls [.int ((ga0 j13))]) rfl ?_
                  refine lv_iload hx hb dL_links_293 (lv_at hl9 0 rfl) ?_
                  refine lv_icmp_ne (tgt := 302) hx hb dL_links_295 (by decide) (fun c9 => absurd rfl c9) (fun _ => ?_)
                  refine lv_iconst (v := 1) hx hb dL_links_298 (by decide) ?_
                  refine lv_goto (tgt := 303) hx hb dL_links_299 (by decide) ?_
                  have h30 : f15 lx = some (.inl (cJ G, 64, .inr (.inl xs0))) := k17 _ _ h9 (Nat.ne_of_beq_eq_false rfl) (hdos _ List.mem_cons_self)
                  have h31 : f18 lx = some (.inl (cJ G, 64, .inr (.inl xs0))) := k20 _ _ h30 (Nat.ne_of_beq_eq_false rfl) (hdos _ List.mem_cons_self)
                  have h32 : f21 lx = some (.inl (cJ G, 64, .inr (.inl xs0))) := k23 _ _ h31 (Nat.ne_of_beq_eq_false rfl) (hdos _ List.mem_cons_self)
                  have h33 : f24 lx = some (.inl (cJ G, 64, .inr (.inl xs0))) := k26 _ _ h32 (Nat.ne_of_beq_eq_false rfl) (hdos _ List.mem_cons_self)
                  have h34 : f27 lx = some (.inl (cJ G, 64, .inr (.inl xs0))) := k29 _ _ h33 (Nat.ne_of_beq_eq_false rfl) (hdos _ List.mem_cons_self)
                  have h35 : f15 ly = some (.inl (cJ G, 64, .inr (.inl xs1))) := k17 _ _ h10 (Nat.ne_of_beq_eq_false rfl) (hdos _ (List.mem_cons_of_mem _ List.mem_cons_self))
                  have h36 : f18 ly = some (.inl (cJ G, 64, .inr (.inl xs1))) := k20 _ _ h35 (Nat.ne_of_beq_eq_false rfl) (hdos _ (List.mem_cons_of_mem _ List.mem_cons_self))
                  have h37 : f21 ly = some (.inl (cJ G, 64, .inr (.inl xs1))) := k23 _ _ h36 (Nat.ne_of_beq_eq_false rfl) (hdos _ (List.mem_cons_of_mem _ List.mem_cons_self))
                  have h38 : f24 ly = some (.inl (cJ G, 64, .inr (.inl xs1))) := k26 _ _ h37 (Nat.ne_of_beq_eq_false rfl) (hdos _ (List.mem_cons_of_mem _ List.mem_cons_self))
                  have h39 : f27 ly = some (.inl (cJ G, 64, .inr (.inl xs1))) := k29 _ _ h38 (Nat.ne_of_beq_eq_false rfl) (hdos _ (List.mem_cons_of_mem _ List.mem_cons_self))
                  have h40 : f15 lw = some (.inl (cI G, 12, .inl (j6 gw0 gw1))) := k17 _ _ h11 (Nat.ne_of_beq_eq_false rfl) (hdos _ (List.mem_cons_of_mem _ (List.mem_cons_of_mem _ List.mem_cons_self)))
                  have h41 : f18 lw = some (.inl (cI G, 12, .inl (j6 gw0 gw1))) := k20 _ _ h40 (Nat.ne_of_beq_eq_false rfl) (hdos _ (List.mem_cons_of_mem _ (List.mem_cons_of_mem _ List.mem_cons_self)))
                  have h42 : f21 lw = some (.inl (cI G, 12, .inl (j6 gw0 gw1))) := k23 _ _ h41 (Nat.ne_of_beq_eq_false rfl) (hdos _ (List.mem_cons_of_mem _ (List.mem_cons_of_mem _ List.mem_cons_self)))
                  have h43 : f24 lw = some (.inl (cI G, 12, .inl (j6 gw0 gw1))) := k26 _ _ h42 (Nat.ne_of_beq_eq_false rfl) (hdos _ (List.mem_cons_of_mem _ (List.mem_cons_of_mem _ List.mem_cons_self)))
                  have h44 : f27 lw = some (.inl (cI G, 12, .inl (j6 gw0 gw1))) := k29 _ _ h43 (Nat.ne_of_beq_eq_false rfl) (hdos _ (List.mem_cons_of_mem _ (List.mem_cons_of_mem _ List.mem_cons_self)))
                  have h45 : f15 la = some (.inl (cI G, 12, .inl (j6 (upd ga0 j13 (nI j5)) ga1))) := k17 _ _ h8 (Nat.ne_of_beq_eq_false rfl) (hdos _ (List.mem_cons_of_mem _ (List.mem_cons_of_mem _ (List.mem_cons_of_mem _ List.mem_cons_self))))
                  have h46 : f18 la = some (.inl (cI G, 12, .inl (j6 (upd ga0 j13 (nI j5)) ga1))) := k20 _ _ h45 (Nat.ne_of_beq_eq_false rfl) (hdos _ (List.mem_cons_of_mem _ (List.mem_cons_of_mem _ (List.mem_cons_of_mem _ List.mem_cons_self))))
                  have h47 : f21 la = some (.inl (cI G, 12, .inl (j6 (upd ga0 j13 (nI j5)) ga1))) := k23 _ _ h46 (Nat.ne_of_beq_eq_false rfl) (hdos _ (List.mem_cons_of_mem _ (List.mem_cons_of_mem _ (List.mem_cons_of_mem _ List.mem_cons_self))))
                  have h48 : f24 la = some (.inl (cI G, 12, .inl (j6 (upd ga0 j13 (nI j5)) ga1))) := k26 _ _ h47 (Nat.ne_of_beq_eq_false rfl) (hdos _ (List.mem_cons_of_mem _ (List.mem_cons_of_mem _ (List.mem_cons_of_mem _ List.mem_cons_self))))
                  have h49 : f27 la = some (.inl (cI G, 12, .inl (j6 (upd ga0 j13 (nI j5)) ga1))) := k29 _ _ h48 (Nat.ne_of_beq_eq_false rfl) (hdos _ (List.mem_cons_of_mem _ (List.mem_cons_of_mem _ (List.mem_cons_of_mem _ List.mem_cons_self))))
                  have h50 : f15 lq = some (.inl (cI G, 12, .inl (j6 S0.2.2.2.2.2.2.2.1 S1.2.2.2.2.2.2.2.1))) := k17 _ _ h12 (Nat.ne_of_beq_eq_false rfl) (hdos _ (List.mem_cons_of_mem _ (List.mem_cons_of_mem _ (List.mem_cons_of_mem _ (List.mem_cons_of_mem _ List.mem_cons_self)))))
                  have h51 : f18 lq = some (.inl (cI G, 12, .inl (j6 S0.2.2.2.2.2.2.2.1 S1.2.2.2.2.2.2.2.1))) := k20 _ _ h50 (Nat.ne_of_beq_eq_false rfl) (hdos _ (List.mem_cons_of_mem _ (List.mem_cons_of_mem _ (List.mem_cons_of_mem _ (List.mem_cons_of_mem _ List.mem_cons_self)))))
                  have h52 : f21 lq = some (.inl (cI G, 12, .inl (j6 S0.2.2.2.2.2.2.2.1 S1.2.2.2.2.2.2.2.1))) := k23 _ _ h51 (Nat.ne_of_beq_eq_false rfl) (hdos _ (List.mem_cons_of_mem _ (List.mem_cons_of_mem _ (List.mem_cons_of_mem _ (List.mem_cons_of_mem _ List.mem_cons_self)))))
                  have h53 : f24 lq = some (.inl (cI G, 12, .inl (j6 S0.2.2.2.2.2.2.2.1 S1.2.2.2.2.2.2.2.1))) := k26 _ _ h52 (Nat.ne_of_beq_eq_false rfl) (hdos _ (List.mem_cons_of_mem _ (List.mem_cons_of_mem _ (List.mem_cons_of_mem _ (List.mem_cons_of_mem _ List.mem_cons_self)))))
                  have h54 : f27 lq = some (.inl (cI G, 12, .inl (j6 S0.2.2.2.2.2.2.2.1 S1.2.2.2.2.2.2.2.1))) := k29 _ _ h53 (Nat.ne_of_beq_eq_false rfl) (hdos _ (List.mem_cons_of_mem _ (List.mem_cons_of_mem _ (List.mem_cons_of_mem _ (List.mem_cons_of_mem _ List.mem_cons_self)))))
                  have h55 : f15 le = some (.inl (cI G, 16, .inl (jE (e8 S0.1 S0.2.1 S0.2.2.1 S0.2.2.2.1 S0.2.2.2.2.1 S0.2.2.2.2.2.1 S0.2.2.2.2.2.2.1 (nI S0.2.2.2.2.2.2.2.2.length)) (eS S1)))) := k17 _ _ h13 (Nat.ne_of_beq_eq_false rfl) (hdos _ (List.mem_cons_of_mem _ (List.mem_cons_of_mem _ (List.mem_cons_of_mem _ (List.mem_cons_of_mem _ (List.mem_cons_of_mem _ List.mem_cons_self))))))
                  have h56 : f18 le = some (.inl (cI G, 16, .inl (jE (e8 S0.1 S0.2.1 S0.2.2.1 S0.2.2.2.1 S0.2.2.2.2.1 S0.2.2.2.2.2.1 S0.2.2.2.2.2.2.1 (nI S0.2.2.2.2.2.2.2.2.length)) (eS S1)))) := k20 _ _ h55 (Nat.ne_of_beq_eq_false rfl) (hdos _ (List.mem_cons_of_mem _ (List.mem_cons_of_mem _ (List.mem_cons_of_mem _ (List.mem_cons_of_mem _ (List.mem_cons_of_mem _ List.mem_cons_self))))))
                  have h57 : f21 le = some (.inl (cI G, 16, .inl (jE (e8 S0.1 S0.2.1 S0.2.2.1 S0.2.2.2.1 S0.2.2.2.2.1 S0.2.2.2.2.2.1 S0.2.2.2.2.2.2.1 (nI S0.2.2.2.2.2.2.2.2.length)) (eS S1)))) := k23 _ _ h56 (Nat.ne_of_beq_eq_false rfl) (hdos _ (List.mem_cons_of_mem _ (List.mem_cons_of_mem _ (List.mem_cons_of_mem _ (List.mem_cons_of_mem _ (List.mem_cons_of_mem _ List.mem_cons_self))))))
                  have h58 : f24 le = some (.inl (cI G, 16, .inl (jE (e8 S0.1 S0.2.1 S0.2.2.1 S0.2.2.2.1 S0.2.2.2.2.1 S0.2.2.2.2.2.1 S0.2.2.2.2.2.2.1 (nI S0.2.2.2.2.2.2.2.2.length)) (eS S1)))) := k26 _ _ h57 (Nat.ne_of_beq_eq_false rfl) (hdos _ (List.mem_cons_of_mem _ (List.mem_cons_of_mem _ (List.mem_cons_of_mem _ (List.mem_cons_of_mem _ (List.mem_cons_of_mem _ List.mem_cons_self))))))
                  have h59 : f27 le = some (.inl (cI G, 16, .inl (jE (e8 S0.1 S0.2.1 S0.2.2.1 S0.2.2.2.1 S0.2.2.2.2.1 S0.2.2.2.2.2.1 S0.2.2.2.2.2.2.1 (nI S0.2.2.2.2.2.2.2.2.length)) (eS S1)))) := k29 _ _ h58 (Nat.ne_of_beq_eq_false rfl) (hdos _ (List.mem_cons_of_mem _ (List.mem_cons_of_mem _ (List.mem_cons_of_mem _ (List.mem_cons_of_mem _ (List.mem_cons_of_mem _ List.mem_cons_self))))))
                  exact hp_zret (v := 1) B0 hw hS hr ⟨Nat.le_of_ble_eq_true rfl, Nat.le_of_ble_eq_true rfl⟩ (rfl) dL_links_303 (⟨rfl, S0, S1, gw0, (upd ga0 j13 (nI j5)), gw1, ga1, hC28, ⟨⟨_, h34, hX0⟩, ⟨_, h39, hX1⟩, h44, h49, h54, h59⟩, ⟨SOK.mono hSo0 (by omega), SOK.mono hSo1 (by omega), hgw0, (AOK_upd hga0 (AOK_nI hj6)), hgw1, hga1⟩, hl0, hl1, ((show hKn [lx, ly, lw, la, lq, le, xo, ez, eo, bu, nw0, na0, nq0, nr0, nw1, na1, nq1, nr1, bs, bp, bh, bf, bl, bg] f f7 from (by rw [ef7]; exact hKn.up (List.mem_cons_of_mem _ (List.mem_cons_of_mem _ (List.mem_cons_of_mem _ List.mem_cons_self))))).tr ((show hKn [lx, ly, lw, la, lq, le, xo, ez, eo, bu, nw0, na0, nq0, nr0, nw1, na1, nq1, nr1, bs, bp, bh, bf, bl, bg] f7 f15 from (hKn.mono k17 sbA)).tr ((show hKn [lx, ly, lw, la, lq, le, xo, ez, eo, bu, nw0, na0, nq0, nr0, nw1, na1, nq1, nr1, bs, bp, bh, bf, bl, bg] f15 f18 from (hKn.mono k20 sbA)).tr ((show hKn [lx, ly, lw, la, lq, le, xo, ez, eo, bu, nw0, na0, nq0, nr0, nw1, na1, nq1, nr1, bs, bp, bh, bf, bl, bg] f18 f21 from (hKn.mono k23 sbA)).tr ((show hKn [lx, ly, lw, la, lq, le, xo, ez, eo, bu, nw0, na0, nq0, nr0, nw1, na1, nq1, nr1, bs, bp, bh, bf, bl, bg] f21 f24 from (hKn.mono k26 sbA)).tr (show hKn [lx, ly, lw, la, lq, le, xo, ez, eo, bu, nw0, na0, nq0, nr0, nw1, na1, nq1, nr1, bs, bp, bh, bf, bl, bg] f24 f27 from (hKn.mono k29 sbA)))))))⟩)
    · refine lv_sipush (v := 1023) hx hb dL_links_183 (by decide) ?_
      refine lv_goto (tgt := 199) hx hb dL_links_186 (by decide) ?_
      refine lv_istore (lv' := [(14, .int 1023), (13, .int (nI j13)), (12, .ref lx), (11, .int 0), (10, .int 0), (0, .ref xo), (1, .int (nI ac)), (2, .int u), (3, .int z), (4, .ref lx), (5, .ref ly), (6, .ref lw), (7, .ref la), (8, .ref lq), (9, .ref le)]) hx hb dL_links_199 hl9 (by decide) rfl (fun ls hl9 => ?_)
      refine lv_aload hx hb dL_links_201 (lv_at hl9 12 rfl) ?_
      refine lv_bipush (v := 6) hx hb dL_links_203 (by decide) ?_
      refine lv_iload hx hb dL_links_205 (lv_at hl9 4 rfl) ?_
      refine lv_imul hx hb dL_links_207 ?_
      refine hp_c (v := 0) (by decide) ?_
      refine lv_iload hx hb dL_links_208 (lv_at hl9 1 rfl) ?_
      refine lv_iadd hx hb dL_links_210 ?_
      refine hp_c (v := (nI j13)) (by rw [show (0 : Int32) = nI 0 from rfl, nI_add, Nat.zero_add]) ?_
      refine hp_iald B0 hw k_la (vp_in_nI (show j13 < 12 by omega) (by omega)) dL_links_211 ?_
      refine hp_c (v := (ga0 j13)) ((by rw [nI_clamp (by omega)]; exact j6_0 (by omega))) ?_
      refine lv_istore (lv' := [(15, .int (ga0 j13)), (14, .int 1023), (13, .int (nI j13)), (12, .ref lx), (11, .int 0), (10, .int 0), (0, .ref xo), (1, .int (nI ac)), (2, .int u), (3, .int z), (4, .ref lx), (5, .ref ly), (6, .ref lw), (7, .ref la), (8, .ref lq), (9, .ref le)]) hx hb dL_links_212 hl9 (by decide) rfl (fun ls hl9 => ?_)
      refine lv_aload hx hb dL_links_214 (lv_at hl9 13 rfl) ?_
      refine lv_bipush (v := 6) hx hb dL_links_216 (by decide) ?_
      refine lv_iload hx hb dL_links_218 (lv_at hl9 5 rfl) ?_
      refine lv_imul hx hb dL_links_220 ?_
      refine hp_c (v := 0) (by decide) ?_
      refine lv_iload hx hb dL_links_221 (lv_at hl9 2 rfl) ?_
      refine lv_iadd hx hb dL_links_223 ?_
      refine hp_c (v := (nI j13)) (by rw [show (0 : Int32) = nI 0 from rfl, nI_add, Nat.zero_add]) ?_
      refine lv_iload hx hb dL_links_224 (lv_at hl9 1 rfl) ?_
      refine hp_iast B0 hw hS k_la (vp_in_nI (show j13 < 12 by omega) (by omega)) dL_links_226 (fun H locs f60 ef60 hw hS => ?_)
      rw [show (upd (j6 ga0 ga1) ((nI j13) : Int32).toNatClampNeg 1023 : Nat → Int32) = (j6 (upd ga0 j13 1023) ga1) from (by rw [nI_clamp (by omega), j6_u0 (by omega)])] at ef60
      have h61 : f60 la = some (.inl (cI G, 12, .inl (j6 (upd ga0 j13 1023) ga1))) := by rw [ef60, va_up_self]
      refine lv_aload_n hx hb dL_links_227 rfl (lv_at hl9 6 rfl) ?_
      refine lv_iconst (v := (-1)) hx hb dL_links_228 (by decide) ?_
      refine lv_iload hx hb dL_links_229 (lv_at hl9 2 rfl) ?_
      refine lv_iconst (v := 0) hx hb dL_links_231 (by decide) ?_
      have h62 : f60 lx = some (.inl (cJ G, 64, .inr (.inl xs0))) := by rw [ef60, va_up_ne _ _ n_lx_la]; exact k_lx
      have h63 : f60 ly = some (.inl (cJ G, 64, .inr (.inl xs1))) := by rw [ef60, va_up_ne _ _ n_ly_la]; exact k_ly
      have h64 : f60 lw = some (.inl (cI G, 12, .inl (j6 gw0 gw1))) := by rw [ef60, va_up_ne _ _ n_lw_la]; exact k_lw
      have h65 : f60 lq = some (.inl (cI G, 12, .inl (j6 S0.2.2.2.2.2.2.2.1 S1.2.2.2.2.2.2.2.1))) := by rw [ef60, va_up_ne _ _ (Ne.symm n_la_lq)]; exact k_lq
      have h66 : f60 le = some (.inl (cI G, 16, .inl (jE (e8 S0.1 S0.2.1 S0.2.2.1 S0.2.2.2.1 S0.2.2.2.2.1 S0.2.2.2.2.2.1 S0.2.2.2.2.2.2.1 (nI S0.2.2.2.2.2.2.2.2.length)) (eS S1)))) := by rw [ef60, va_up_ne _ _ (Ne.symm n_la_le)]; exact h1
      have hC67 : CXW G f60 xo ez eo bu nw0 na0 nq0 nr0 nw1 na1 nq1 nr1 bs bp bh bf bl bg S0 S1 gw0 ga0 gw1 ga1 n a cg x sa pk fl gv gh gl := CXW.eq hC (show hEq [lx, ly, lw, la, lq, le] f f60 from (by rw [ef60]; exact hEq.up (List.mem_cons_of_mem _ (List.mem_cons_of_mem _ (List.mem_cons_of_mem _ List.mem_cons_self))))) hdis (fun b9 hb9 => by
          simp only [List.mem_cons, List.not_mem_nil, or_false] at hb9
          rcases hb9 with hb9 | hb9 | hb9 | hb9 | hb9 | hb9
          · rw [hb9]; exact ⟨_, _, k_lx, h62, (Nat.ne_of_beq_eq_false rfl), (Nat.ne_of_beq_eq_false rfl)⟩
          · rw [hb9]; exact ⟨_, _, k_ly, h63, (Nat.ne_of_beq_eq_false rfl), (Nat.ne_of_beq_eq_false rfl)⟩
          · rw [hb9]; exact ⟨_, _, k_lw, h64, (Nat.ne_of_beq_eq_false rfl), (Nat.ne_of_beq_eq_false rfl)⟩
          · rw [hb9]; exact ⟨_, _, k_la, h61, (Nat.ne_of_beq_eq_false rfl), (Nat.ne_of_beq_eq_false rfl)⟩
          · rw [hb9]; exact ⟨_, _, k_lq, h65, (Nat.ne_of_beq_eq_false rfl), (Nat.ne_of_beq_eq_false rfl)⟩
          · rw [hb9]; exact ⟨_, _, h1, h66, (Nat.ne_of_beq_eq_false rfl), (Nat.ne_of_beq_eq_false rfl)⟩)
      refine hp_SH (As := [.ref xo, .int (-1), .int (nI j13), .int 0]) (rest := []) B0 hw hS (c_V_allow_E hl G f60 xo ez eo bu nw0 na0 nq0 nr0 nw1 na1 nq1 nr1 bs bp bh bf bl bg S0 S1 gw0 ga0 gw1 ga1 n a cg x sa pk fl gv gh gl hC67 (Nat.lt_of_le_of_lt hl0 (by decide)) (Nat.lt_of_le_of_lt hl1 (by decide)) (-1) (nI j13) 0 (by decide)) mH_L_allow qM_L_100 rfl rfl hl9.1 (Nat.le_of_ble_eq_true rfl) ⟨⟨Nat.le_of_ble_eq_true rfl, Nat.le_of_ble_eq_true rfl⟩, Nat.le_of_ble_eq_true rfl, Nat.le_of_ble_eq_true rfl⟩ dL_links_232 (fun E ce q9 f68 H locs hPX hw hS hce hcv hcl => ?_) (fun v f68 H locs hP hw hS => ?_)
      · exact hPX.elim
      · obtain ⟨ev9, hC69, k70⟩ := hP
        subst ev9
        have hC69 : CXW G f68 xo ez eo bu nw0 na0 nq0 nr0 nw1 na1 nq1 nr1 bs bp bh bf bl bg S0 S1 gw0 ga0 gw1 ga1 n a cg x sa pk fl gv gh gl := hC69
        refine W.eq (g2 := F0 m 235 ls [.int (-71)]) rfl ?_
        refine lv_bipush (v := (-71)) hx hb dL_links_235 (by decide) ?_
        refine lv_icmp_ne (tgt := 302) hx hb dL_links_237 (by decide) (fun c9 => absurd (by decide) c9) (fun _ => ?_)
        refine lv_aload_n hx hb dL_links_240 rfl (lv_at hl9 6 rfl) ?_
        refine lv_iload hx hb dL_links_241 (lv_at hl9 5 rfl) ?_
        refine lv_iconst (v := (-1)) hx hb dL_links_243 (by decide) ?_
        refine lv_iconst (v := 0) hx hb dL_links_244 (by decide) ?_
        refine hp_SH (As := [.ref xo, .int 0, .int (-1), .int 0]) (rest := []) B0 hw hS (c_V_allow_O0 hl G f68 xo ez eo bu nw0 na0 nq0 nr0 nw1 na1 nq1 nr1 bs bp bh bf bl bg S0 S1 gw0 ga0 gw1 ga1 n a cg x sa pk fl gv gh gl hC69 (Nat.lt_of_le_of_lt hl0 (by decide)) (Nat.lt_of_le_of_lt hl1 (by decide)) (-1) 0 (by decide)) mH_L_allow qM_L_100 rfl rfl hl9.1 (Nat.le_of_ble_eq_true rfl) ⟨⟨Nat.le_of_ble_eq_true rfl, Nat.le_of_ble_eq_true rfl⟩, Nat.le_of_ble_eq_true rfl, Nat.le_of_ble_eq_true rfl⟩ dL_links_245 (fun E ce q9 f71 H locs hPX hw hS hce hcv hcl => ?_) (fun v f71 H locs hP hw hS => ?_)
        · exact hPX.elim
        · obtain ⟨ev9, hC72, k73⟩ := hP
          subst ev9
          have hC72 : CXW G f71 xo ez eo bu nw0 na0 nq0 nr0 nw1 na1 nq1 nr1 bs bp bh bf bl bg S0 S1 gw0 ga0 gw1 ga1 n a cg x sa pk fl gv gh gl := hC72
          refine W.eq (g2 := F0 m 248 ls [.int (-71)]) rfl ?_
          refine lv_bipush (v := (-71)) hx hb dL_links_248 (by decide) ?_
          refine lv_icmp_ne (tgt := 302) hx hb dL_links_250 (by decide) (fun c9 => absurd (by decide) c9) (fun _ => ?_)
          refine lv_aload_n hx hb dL_links_253 rfl (lv_at hl9 6 rfl) ?_
          refine lv_iload hx hb dL_links_254 (lv_at hl9 5 rfl) ?_
          refine lv_iload hx hb dL_links_256 (lv_at hl9 2 rfl) ?_
          refine lv_sipush (v := 1024) hx hb dL_links_258 (by decide) ?_
          refine hp_SH (As := [.ref xo, .int 0, .int (nI j13), .int 1024]) (rest := []) B0 hw hS (c_V_allow_V0 hl G f71 xo ez eo bu nw0 na0 nq0 nr0 nw1 na1 nq1 nr1 bs bp bh bf bl bg S0 S1 gw0 ga0 gw1 ga1 n a cg x sa pk fl gv gh gl hC72 (Nat.lt_of_le_of_lt hl0 (by decide)) (Nat.lt_of_le_of_lt hl1 (by decide)) j13 (by omega) 1024 (by decide)) mH_L_allow qM_L_100 rfl rfl hl9.1 (Nat.le_of_ble_eq_true rfl) ⟨⟨Nat.le_of_ble_eq_true rfl, Nat.le_of_ble_eq_true rfl⟩, Nat.le_of_ble_eq_true rfl, Nat.le_of_ble_eq_true rfl⟩ dL_links_261 (fun E ce q9 f74 H locs hPX hw hS hce hcv hcl => ?_) (fun v f74 H locs hP hw hS => ?_)
          · exact hPX.elim
          · obtain ⟨ev9, hC75, k76⟩ := hP
            subst ev9
            have hC75 : CXW G f74 xo ez eo bu nw0 na0 nq0 nr0 nw1 na1 nq1 nr1 bs bp bh bf bl bg S0 S1 gw0 ga0 gw1 ga1 n a cg x sa pk fl gv gh gl := hC75
            refine W.eq (g2 := F0 m 264 ls [.int (-72)]) rfl ?_
            refine lv_bipush (v := (-72)) hx hb dL_links_264 (by decide) ?_
            refine lv_icmp_ne (tgt := 302) hx hb dL_links_266 (by decide) (fun c9 => absurd (by decide) c9) (fun _ => ?_)
            refine lv_aload_n hx hb dL_links_269 rfl (lv_at hl9 6 rfl) ?_
            refine lv_iload hx hb dL_links_270 (lv_at hl9 5 rfl) ?_
            refine lv_iload hx hb dL_links_272 (lv_at hl9 2 rfl) ?_
            refine lv_iconst (v := (-1)) hx hb dL_links_274 (by decide) ?_
            refine hp_SH (As := [.ref xo, .int 0, .int (nI j13), .int (-1)]) (rest := []) B0 hw hS (c_V_allow_V0 hl G f74 xo ez eo bu nw0 na0 nq0 nr0 nw1 na1 nq1 nr1 bs bp bh bf bl bg S0 S1 gw0 ga0 gw1 ga1 n a cg x sa pk fl gv gh gl hC75 (Nat.lt_of_le_of_lt hl0 (by decide)) (Nat.lt_of_le_of_lt hl1 (by decide)) j13 (by omega) (-1) (by decide)) mH_L_allow qM_L_100 rfl rfl hl9.1 (Nat.le_of_ble_eq_true rfl) ⟨⟨Nat.le_of_ble_eq_true rfl, Nat.le_of_ble_eq_true rfl⟩, Nat.le_of_ble_eq_true rfl, Nat.le_of_ble_eq_true rfl⟩ dL_links_275 (fun E ce q9 f77 H locs hPX hw hS hce hcv hcl => ?_) (fun v f77 H locs hP hw hS => ?_)
            · exact hPX.elim
            · obtain ⟨ev9, hC78, k79⟩ := hP
              subst ev9
              have hC78 : CXW G f77 xo ez eo bu nw0 na0 nq0 nr0 nw1 na1 nq1 nr1 bs bp bh bf bl bg S0 S1 gw0 ga0 gw1 ga1 n a cg x sa pk fl gv gh gl := hC78
              refine W.eq (g2 := F0 m 278 ls [.int (-72)]) rfl ?_
              refine lv_bipush (v := (-72)) hx hb dL_links_278 (by decide) ?_
              refine lv_icmp_ne (tgt := 302) hx hb dL_links_280 (by decide) (fun c9 => absurd (by decide) c9) (fun _ => ?_)
              refine lv_aload_n hx hb dL_links_283 rfl (lv_at hl9 6 rfl) ?_
              refine lv_iload hx hb dL_links_284 (lv_at hl9 5 rfl) ?_
              refine lv_iload hx hb dL_links_286 (lv_at hl9 2 rfl) ?_
              refine lv_iload hx hb dL_links_288 (lv_at hl9 1 rfl) ?_
              refine hp_SH (As := [.ref xo, .int 0, .int (nI j13), .int 1023]) (rest := []) B0 hw hS (c_V_allow_0 hl G f77 xo ez eo bu nw0 na0 nq0 nr0 nw1 na1 nq1 nr1 bs bp bh bf bl bg S0 S1 gw0 ga0 gw1 ga1 n a cg x sa pk fl gv gh gl hC78 (Nat.lt_of_le_of_lt hl0 (by decide)) (Nat.lt_of_le_of_lt hl1 (by decide)) j13 (by omega) 1023 (by unfold AOK; decide)) mH_L_allow qM_L_100 rfl rfl hl9.1 (Nat.le_of_ble_eq_true rfl) ⟨⟨Nat.le_of_ble_eq_true rfl, Nat.le_of_ble_eq_true rfl⟩, Nat.le_of_ble_eq_true rfl, Nat.le_of_ble_eq_true rfl⟩ dL_links_290 (fun E ce q9 f80 H locs hPX hw hS hce hcv hcl => ?_) (fun v f80 H locs hP hw hS => ?_)
              · exact hPX.elim
              · obtain ⟨ev9, hC81, k82⟩ := hP
                subst ev9
                have hC81 : CXW G f80 xo ez eo bu nw0 na0 nq0 nr0 nw1 na1 nq1 nr1 bs bp bh bf bl bg S0 S1 gw0 (upd ga0 j13 1023) gw1 ga1 n a cg x sa pk fl gv gh gl := hC81
                refine W.eq (g2 := F0 m 293 ls [.int ((ga0 j13))]) rfl ?_
                refine lv_iload hx hb dL_links_293 (lv_at hl9 0 rfl) ?_
                refine lv_icmp_ne (tgt := 302) hx hb dL_links_295 (by decide) (fun c9 => absurd rfl c9) (fun _ => ?_)
                refine lv_iconst (v := 1) hx hb dL_links_298 (by decide) ?_
                refine lv_goto (tgt := 303) hx hb dL_links_299 (by decide) ?_
                have h83 : f68 lx = some (.inl (cJ G, 64, .inr (.inl xs0))) := k70 _ _ h62 (Nat.ne_of_beq_eq_false rfl) (hdos _ List.mem_cons_self)
                have h84 : f71 lx = some (.inl (cJ G, 64, .inr (.inl xs0))) := k73 _ _ h83 (Nat.ne_of_beq_eq_false rfl) (hdos _ List.mem_cons_self)
                have h85 : f74 lx = some (.inl (cJ G, 64, .inr (.inl xs0))) := k76 _ _ h84 (Nat.ne_of_beq_eq_false rfl) (hdos _ List.mem_cons_self)
                have h86 : f77 lx = some (.inl (cJ G, 64, .inr (.inl xs0))) := k79 _ _ h85 (Nat.ne_of_beq_eq_false rfl) (hdos _ List.mem_cons_self)
                have h87 : f80 lx = some (.inl (cJ G, 64, .inr (.inl xs0))) := k82 _ _ h86 (Nat.ne_of_beq_eq_false rfl) (hdos _ List.mem_cons_self)
                have h88 : f68 ly = some (.inl (cJ G, 64, .inr (.inl xs1))) := k70 _ _ h63 (Nat.ne_of_beq_eq_false rfl) (hdos _ (List.mem_cons_of_mem _ List.mem_cons_self))
                have h89 : f71 ly = some (.inl (cJ G, 64, .inr (.inl xs1))) := k73 _ _ h88 (Nat.ne_of_beq_eq_false rfl) (hdos _ (List.mem_cons_of_mem _ List.mem_cons_self))
                have h90 : f74 ly = some (.inl (cJ G, 64, .inr (.inl xs1))) := k76 _ _ h89 (Nat.ne_of_beq_eq_false rfl) (hdos _ (List.mem_cons_of_mem _ List.mem_cons_self))
                have h91 : f77 ly = some (.inl (cJ G, 64, .inr (.inl xs1))) := k79 _ _ h90 (Nat.ne_of_beq_eq_false rfl) (hdos _ (List.mem_cons_of_mem _ List.mem_cons_self))
                have h92 : f80 ly = some (.inl (cJ G, 64, .inr (.inl xs1))) := k82 _ _ h91 (Nat.ne_of_beq_eq_false rfl) (hdos _ (List.mem_cons_of_mem _ List.mem_cons_self))
                have h93 : f68 lw = some (.inl (cI G, 12, .inl (j6 gw0 gw1))) := k70 _ _ h64 (Nat.ne_of_beq_eq_false rfl) (hdos _ (List.mem_cons_of_mem _ (List.mem_cons_of_mem _ List.mem_cons_self)))
                have h94 : f71 lw = some (.inl (cI G, 12, .inl (j6 gw0 gw1))) := k73 _ _ h93 (Nat.ne_of_beq_eq_false rfl) (hdos _ (List.mem_cons_of_mem _ (List.mem_cons_of_mem _ List.mem_cons_self)))
                have h95 : f74 lw = some (.inl (cI G, 12, .inl (j6 gw0 gw1))) := k76 _ _ h94 (Nat.ne_of_beq_eq_false rfl) (hdos _ (List.mem_cons_of_mem _ (List.mem_cons_of_mem _ List.mem_cons_self)))
                have h96 : f77 lw = some (.inl (cI G, 12, .inl (j6 gw0 gw1))) := k79 _ _ h95 (Nat.ne_of_beq_eq_false rfl) (hdos _ (List.mem_cons_of_mem _ (List.mem_cons_of_mem _ List.mem_cons_self)))
                have h97 : f80 lw = some (.inl (cI G, 12, .inl (j6 gw0 gw1))) := k82 _ _ h96 (Nat.ne_of_beq_eq_false rfl) (hdos _ (List.mem_cons_of_mem _ (List.mem_cons_of_mem _ List.mem_cons_self)))
                have h98 : f68 la = some (.inl (cI G, 12, .inl (j6 (upd ga0 j13 1023) ga1))) := k70 _ _ h61 (Nat.ne_of_beq_eq_false rfl) (hdos _ (List.mem_cons_of_mem _ (List.mem_cons_of_mem _ (List.mem_cons_of_mem _ List.mem_cons_self))))
                have h99 : f71 la = some (.inl (cI G, 12, .inl (j6 (upd ga0 j13 1023) ga1))) := k73 _ _ h98 (Nat.ne_of_beq_eq_false rfl) (hdos _ (List.mem_cons_of_mem _ (List.mem_cons_of_mem _ (List.mem_cons_of_mem _ List.mem_cons_self))))
                have h100 : f74 la = some (.inl (cI G, 12, .inl (j6 (upd ga0 j13 1023) ga1))) := k76 _ _ h99 (Nat.ne_of_beq_eq_false rfl) (hdos _ (List.mem_cons_of_mem _ (List.mem_cons_of_mem _ (List.mem_cons_of_mem _ List.mem_cons_self))))
                have h101 : f77 la = some (.inl (cI G, 12, .inl (j6 (upd ga0 j13 1023) ga1))) := k79 _ _ h100 (Nat.ne_of_beq_eq_false rfl) (hdos _ (List.mem_cons_of_mem _ (List.mem_cons_of_mem _ (List.mem_cons_of_mem _ List.mem_cons_self))))
                have h102 : f80 la = some (.inl (cI G, 12, .inl (j6 (upd ga0 j13 1023) ga1))) := k82 _ _ h101 (Nat.ne_of_beq_eq_false rfl) (hdos _ (List.mem_cons_of_mem _ (List.mem_cons_of_mem _ (List.mem_cons_of_mem _ List.mem_cons_self))))
                have h103 : f68 lq = some (.inl (cI G, 12, .inl (j6 S0.2.2.2.2.2.2.2.1 S1.2.2.2.2.2.2.2.1))) := k70 _ _ h65 (Nat.ne_of_beq_eq_false rfl) (hdos _ (List.mem_cons_of_mem _ (List.mem_cons_of_mem _ (List.mem_cons_of_mem _ (List.mem_cons_of_mem _ List.mem_cons_self)))))
                have h104 : f71 lq = some (.inl (cI G, 12, .inl (j6 S0.2.2.2.2.2.2.2.1 S1.2.2.2.2.2.2.2.1))) := k73 _ _ h103 (Nat.ne_of_beq_eq_false rfl) (hdos _ (List.mem_cons_of_mem _ (List.mem_cons_of_mem _ (List.mem_cons_of_mem _ (List.mem_cons_of_mem _ List.mem_cons_self)))))
                have h105 : f74 lq = some (.inl (cI G, 12, .inl (j6 S0.2.2.2.2.2.2.2.1 S1.2.2.2.2.2.2.2.1))) := k76 _ _ h104 (Nat.ne_of_beq_eq_false rfl) (hdos _ (List.mem_cons_of_mem _ (List.mem_cons_of_mem _ (List.mem_cons_of_mem _ (List.mem_cons_of_mem _ List.mem_cons_self)))))
                have h106 : f77 lq = some (.inl (cI G, 12, .inl (j6 S0.2.2.2.2.2.2.2.1 S1.2.2.2.2.2.2.2.1))) := k79 _ _ h105 (Nat.ne_of_beq_eq_false rfl) (hdos _ (List.mem_cons_of_mem _ (List.mem_cons_of_mem _ (List.mem_cons_of_mem _ (List.mem_cons_of_mem _ List.mem_cons_self)))))
                have h107 : f80 lq = some (.inl (cI G, 12, .inl (j6 S0.2.2.2.2.2.2.2.1 S1.2.2.2.2.2.2.2.1))) := k82 _ _ h106 (Nat.ne_of_beq_eq_false rfl) (hdos _ (List.mem_cons_of_mem _ (List.mem_cons_of_mem _ (List.mem_cons_of_mem _ (List.mem_cons_of_mem _ List.mem_cons_self)))))
                have h108 : f68 le = some (.inl (cI G, 16, .inl (jE (e8 S0.1 S0.2.1 S0.2.2.1 S0.2.2.2.1 S0.2.2.2.2.1 S0.2.2.2.2.2.1 S0.2.2.2.2.2.2.1 (nI S0.2.2.2.2.2.2.2.2.length)) (eS S1)))) := k70 _ _ h66 (Nat.ne_of_beq_eq_false rfl) (hdos _ (List.mem_cons_of_mem _ (List.mem_cons_of_mem _ (List.mem_cons_of_mem _ (List.mem_cons_of_mem _ (List.mem_cons_of_mem _ List.mem_cons_self))))))
                have h109 : f71 le = some (.inl (cI G, 16, .inl (jE (e8 S0.1 S0.2.1 S0.2.2.1 S0.2.2.2.1 S0.2.2.2.2.1 S0.2.2.2.2.2.1 S0.2.2.2.2.2.2.1 (nI S0.2.2.2.2.2.2.2.2.length)) (eS S1)))) := k73 _ _ h108 (Nat.ne_of_beq_eq_false rfl) (hdos _ (List.mem_cons_of_mem _ (List.mem_cons_of_mem _ (List.mem_cons_of_mem _ (List.mem_cons_of_mem _ (List.mem_cons_of_mem _ List.mem_cons_self))))))
                have h110 : f74 le = some (.inl (cI G, 16, .inl (jE (e8 S0.1 S0.2.1 S0.2.2.1 S0.2.2.2.1 S0.2.2.2.2.1 S0.2.2.2.2.2.1 S0.2.2.2.2.2.2.1 (nI S0.2.2.2.2.2.2.2.2.length)) (eS S1)))) := k76 _ _ h109 (Nat.ne_of_beq_eq_false rfl) (hdos _ (List.mem_cons_of_mem _ (List.mem_cons_of_mem _ (List.mem_cons_of_mem _ (List.mem_cons_of_mem _ (List.mem_cons_of_mem _ List.mem_cons_self))))))
                have h111 : f77 le = some (.inl (cI G, 16, .inl (jE (e8 S0.1 S0.2.1 S0.2.2.1 S0.2.2.2.1 S0.2.2.2.2.1 S0.2.2.2.2.2.1 S0.2.2.2.2.2.2.1 (nI S0.2.2.2.2.2.2.2.2.length)) (eS S1)))) := k79 _ _ h110 (Nat.ne_of_beq_eq_false rfl) (hdos _ (List.mem_cons_of_mem _ (List.mem_cons_of_mem _ (List.mem_cons_of_mem _ (List.mem_cons_of_mem _ (List.mem_cons_of_mem _ List.mem_cons_self))))))
                have h112 : f80 le = some (.inl (cI G, 16, .inl (jE (e8 S0.1 S0.2.1 S0.2.2.1 S0.2.2.2.1 S0.2.2.2.2.1 S0.2.2.2.2.2.1 S0.2.2.2.2.2.2.1 (nI S0.2.2.2.2.2.2.2.2.length)) (eS S1)))) := k82 _ _ h111 (Nat.ne_of_beq_eq_false rfl) (hdos _ (List.mem_cons_of_mem _ (List.mem_cons_of_mem _ (List.mem_cons_of_mem _ (List.mem_cons_of_mem _ (List.mem_cons_of_mem _ List.mem_cons_self))))))
                exact hp_zret (v := 1) B0 hw hS hr ⟨Nat.le_of_ble_eq_true rfl, Nat.le_of_ble_eq_true rfl⟩ (rfl) dL_links_303 (⟨rfl, S0, S1, gw0, (upd ga0 j13 1023), gw1, ga1, hC81, ⟨⟨_, h87, hX0⟩, ⟨_, h92, hX1⟩, h97, h102, h107, h112⟩, ⟨SOK.mono hSo0 (by omega), SOK.mono hSo1 (by omega), hgw0, (AOK_upd hga0 (by unfold AOK; decide)), hgw1, hga1⟩, hl0, hl1, ((show hKn [lx, ly, lw, la, lq, le, xo, ez, eo, bu, nw0, na0, nq0, nr0, nw1, na1, nq1, nr1, bs, bp, bh, bf, bl, bg] f f60 from (by rw [ef60]; exact hKn.up (List.mem_cons_of_mem _ (List.mem_cons_of_mem _ (List.mem_cons_of_mem _ List.mem_cons_self))))).tr ((show hKn [lx, ly, lw, la, lq, le, xo, ez, eo, bu, nw0, na0, nq0, nr0, nw1, na1, nq1, nr1, bs, bp, bh, bf, bl, bg] f60 f68 from (hKn.mono k70 sbA)).tr ((show hKn [lx, ly, lw, la, lq, le, xo, ez, eo, bu, nw0, na0, nq0, nr0, nw1, na1, nq1, nr1, bs, bp, bh, bf, bl, bg] f68 f71 from (hKn.mono k73 sbA)).tr ((show hKn [lx, ly, lw, la, lq, le, xo, ez, eo, bu, nw0, na0, nq0, nr0, nw1, na1, nq1, nr1, bs, bp, bh, bf, bl, bg] f71 f74 from (hKn.mono k76 sbA)).tr ((show hKn [lx, ly, lw, la, lq, le, xo, ez, eo, bu, nw0, na0, nq0, nr0, nw1, na1, nq1, nr1, bs, bp, bh, bf, bl, bg] f74 f77 from (hKn.mono k79 sbA)).tr (show hKn [lx, ly, lw, la, lq, le, xo, ez, eo, bu, nw0, na0, nq0, nr0, nw1, na1, nq1, nr1, bs, bp, bh, bf, bl, bg] f77 f80 from (hKn.mono k82 sbA)))))))⟩)
  · refine lv_iconst (v := 0) hx hb dL_links_170 (by decide) ?_
    refine lv_goto (tgt := 199) hx hb dL_links_171 (by decide) ?_
    refine lv_istore (lv' := [(14, .int 0), (13, .int (nI j13)), (12, .ref lx), (11, .int 0), (10, .int 0), (0, .ref xo), (1, .int (nI ac)), (2, .int u), (3, .int z), (4, .ref lx), (5, .ref ly), (6, .ref lw), (7, .ref la), (8, .ref lq), (9, .ref le)]) hx hb dL_links_199 hl9 (by decide) rfl (fun ls hl9 => ?_)
    refine lv_aload hx hb dL_links_201 (lv_at hl9 12 rfl) ?_
    refine lv_bipush (v := 6) hx hb dL_links_203 (by decide) ?_
    refine lv_iload hx hb dL_links_205 (lv_at hl9 4 rfl) ?_
    refine lv_imul hx hb dL_links_207 ?_
    refine hp_c (v := 0) (by decide) ?_
    refine lv_iload hx hb dL_links_208 (lv_at hl9 1 rfl) ?_
    refine lv_iadd hx hb dL_links_210 ?_
    refine hp_c (v := (nI j13)) (by rw [show (0 : Int32) = nI 0 from rfl, nI_add, Nat.zero_add]) ?_
    refine hp_iald B0 hw k_la (vp_in_nI (show j13 < 12 by omega) (by omega)) dL_links_211 ?_
    refine hp_c (v := (ga0 j13)) ((by rw [nI_clamp (by omega)]; exact j6_0 (by omega))) ?_
    refine lv_istore (lv' := [(15, .int (ga0 j13)), (14, .int 0), (13, .int (nI j13)), (12, .ref lx), (11, .int 0), (10, .int 0), (0, .ref xo), (1, .int (nI ac)), (2, .int u), (3, .int z), (4, .ref lx), (5, .ref ly), (6, .ref lw), (7, .ref la), (8, .ref lq), (9, .ref le)]) hx hb dL_links_212 hl9 (by decide) rfl (fun ls hl9 => ?_)
    refine lv_aload hx hb dL_links_214 (lv_at hl9 13 rfl) ?_
    refine lv_bipush (v := 6) hx hb dL_links_216 (by decide) ?_
    refine lv_iload hx hb dL_links_218 (lv_at hl9 5 rfl) ?_
    refine lv_imul hx hb dL_links_220 ?_
    refine hp_c (v := 0) (by decide) ?_
    refine lv_iload hx hb dL_links_221 (lv_at hl9 2 rfl) ?_
    refine lv_iadd hx hb dL_links_223 ?_
    refine hp_c (v := (nI j13)) (by rw [show (0 : Int32) = nI 0 from rfl, nI_add, Nat.zero_add]) ?_
    refine lv_iload hx hb dL_links_224 (lv_at hl9 1 rfl) ?_
    refine hp_iast B0 hw hS k_la (vp_in_nI (show j13 < 12 by omega) (by omega)) dL_links_226 (fun H locs f113 ef113 hw hS => ?_)
    rw [show (upd (j6 ga0 ga1) ((nI j13) : Int32).toNatClampNeg 0 : Nat → Int32) = (j6 (upd ga0 j13 0) ga1) from (by rw [nI_clamp (by omega), j6_u0 (by omega)])] at ef113
    have h114 : f113 la = some (.inl (cI G, 12, .inl (j6 (upd ga0 j13 0) ga1))) := by rw [ef113, va_up_self]
    refine lv_aload_n hx hb dL_links_227 rfl (lv_at hl9 6 rfl) ?_
    refine lv_iconst (v := (-1)) hx hb dL_links_228 (by decide) ?_
    refine lv_iload hx hb dL_links_229 (lv_at hl9 2 rfl) ?_
    refine lv_iconst (v := 0) hx hb dL_links_231 (by decide) ?_
    have h115 : f113 lx = some (.inl (cJ G, 64, .inr (.inl xs0))) := by rw [ef113, va_up_ne _ _ n_lx_la]; exact k_lx
    have h116 : f113 ly = some (.inl (cJ G, 64, .inr (.inl xs1))) := by rw [ef113, va_up_ne _ _ n_ly_la]; exact k_ly
    have h117 : f113 lw = some (.inl (cI G, 12, .inl (j6 gw0 gw1))) := by rw [ef113, va_up_ne _ _ n_lw_la]; exact k_lw
    have h118 : f113 lq = some (.inl (cI G, 12, .inl (j6 S0.2.2.2.2.2.2.2.1 S1.2.2.2.2.2.2.2.1))) := by rw [ef113, va_up_ne _ _ (Ne.symm n_la_lq)]; exact k_lq
    have h119 : f113 le = some (.inl (cI G, 16, .inl (jE (e8 S0.1 S0.2.1 S0.2.2.1 S0.2.2.2.1 S0.2.2.2.2.1 S0.2.2.2.2.2.1 S0.2.2.2.2.2.2.1 (nI S0.2.2.2.2.2.2.2.2.length)) (eS S1)))) := by rw [ef113, va_up_ne _ _ (Ne.symm n_la_le)]; exact h1
    have hC120 : CXW G f113 xo ez eo bu nw0 na0 nq0 nr0 nw1 na1 nq1 nr1 bs bp bh bf bl bg S0 S1 gw0 ga0 gw1 ga1 n a cg x sa pk fl gv gh gl := CXW.eq hC (show hEq [lx, ly, lw, la, lq, le] f f113 from (by rw [ef113]; exact hEq.up (List.mem_cons_of_mem _ (List.mem_cons_of_mem _ (List.mem_cons_of_mem _ List.mem_cons_self))))) hdis (fun b9 hb9 => by
        simp only [List.mem_cons, List.not_mem_nil, or_false] at hb9
        rcases hb9 with hb9 | hb9 | hb9 | hb9 | hb9 | hb9
        · rw [hb9]; exact ⟨_, _, k_lx, h115, (Nat.ne_of_beq_eq_false rfl), (Nat.ne_of_beq_eq_false rfl)⟩
        · rw [hb9]; exact ⟨_, _, k_ly, h116, (Nat.ne_of_beq_eq_false rfl), (Nat.ne_of_beq_eq_false rfl)⟩
        · rw [hb9]; exact ⟨_, _, k_lw, h117, (Nat.ne_of_beq_eq_false rfl), (Nat.ne_of_beq_eq_false rfl)⟩
        · rw [hb9]; exact ⟨_, _, k_la, h114, (Nat.ne_of_beq_eq_false rfl), (Nat.ne_of_beq_eq_false rfl)⟩
        · rw [hb9]; exact ⟨_, _, k_lq, h118, (Nat.ne_of_beq_eq_false rfl), (Nat.ne_of_beq_eq_false rfl)⟩
        · rw [hb9]; exact ⟨_, _, h1, h119, (Nat.ne_of_beq_eq_false rfl), (Nat.ne_of_beq_eq_false rfl)⟩)
    refine hp_SH (As := [.ref xo, .int (-1), .int (nI j13), .int 0]) (rest := []) B0 hw hS (c_V_allow_E hl G f113 xo ez eo bu nw0 na0 nq0 nr0 nw1 na1 nq1 nr1 bs bp bh bf bl bg S0 S1 gw0 ga0 gw1 ga1 n a cg x sa pk fl gv gh gl hC120 (Nat.lt_of_le_of_lt hl0 (by decide)) (Nat.lt_of_le_of_lt hl1 (by decide)) (-1) (nI j13) 0 (by decide)) mH_L_allow qM_L_100 rfl rfl hl9.1 (Nat.le_of_ble_eq_true rfl) ⟨⟨Nat.le_of_ble_eq_true rfl, Nat.le_of_ble_eq_true rfl⟩, Nat.le_of_ble_eq_true rfl, Nat.le_of_ble_eq_true rfl⟩ dL_links_232 (fun E ce q9 f121 H locs hPX hw hS hce hcv hcl => ?_) (fun v f121 H locs hP hw hS => ?_)
    · exact hPX.elim
    · obtain ⟨ev9, hC122, k123⟩ := hP
      subst ev9
      have hC122 : CXW G f121 xo ez eo bu nw0 na0 nq0 nr0 nw1 na1 nq1 nr1 bs bp bh bf bl bg S0 S1 gw0 ga0 gw1 ga1 n a cg x sa pk fl gv gh gl := hC122
      refine W.eq (g2 := F0 m 235 ls [.int (-71)]) rfl ?_
      refine lv_bipush (v := (-71)) hx hb dL_links_235 (by decide) ?_
      refine lv_icmp_ne (tgt := 302) hx hb dL_links_237 (by decide) (fun c9 => absurd (by decide) c9) (fun _ => ?_)
      refine lv_aload_n hx hb dL_links_240 rfl (lv_at hl9 6 rfl) ?_
      refine lv_iload hx hb dL_links_241 (lv_at hl9 5 rfl) ?_
      refine lv_iconst (v := (-1)) hx hb dL_links_243 (by decide) ?_
      refine lv_iconst (v := 0) hx hb dL_links_244 (by decide) ?_
      refine hp_SH (As := [.ref xo, .int 0, .int (-1), .int 0]) (rest := []) B0 hw hS (c_V_allow_O0 hl G f121 xo ez eo bu nw0 na0 nq0 nr0 nw1 na1 nq1 nr1 bs bp bh bf bl bg S0 S1 gw0 ga0 gw1 ga1 n a cg x sa pk fl gv gh gl hC122 (Nat.lt_of_le_of_lt hl0 (by decide)) (Nat.lt_of_le_of_lt hl1 (by decide)) (-1) 0 (by decide)) mH_L_allow qM_L_100 rfl rfl hl9.1 (Nat.le_of_ble_eq_true rfl) ⟨⟨Nat.le_of_ble_eq_true rfl, Nat.le_of_ble_eq_true rfl⟩, Nat.le_of_ble_eq_true rfl, Nat.le_of_ble_eq_true rfl⟩ dL_links_245 (fun E ce q9 f124 H locs hPX hw hS hce hcv hcl => ?_) (fun v f124 H locs hP hw hS => ?_)
      · exact hPX.elim
      · obtain ⟨ev9, hC125, k126⟩ := hP
        subst ev9
        have hC125 : CXW G f124 xo ez eo bu nw0 na0 nq0 nr0 nw1 na1 nq1 nr1 bs bp bh bf bl bg S0 S1 gw0 ga0 gw1 ga1 n a cg x sa pk fl gv gh gl := hC125
        refine W.eq (g2 := F0 m 248 ls [.int (-71)]) rfl ?_
        refine lv_bipush (v := (-71)) hx hb dL_links_248 (by decide) ?_
        refine lv_icmp_ne (tgt := 302) hx hb dL_links_250 (by decide) (fun c9 => absurd (by decide) c9) (fun _ => ?_)
        refine lv_aload_n hx hb dL_links_253 rfl (lv_at hl9 6 rfl) ?_
        refine lv_iload hx hb dL_links_254 (lv_at hl9 5 rfl) ?_
        refine lv_iload hx hb dL_links_256 (lv_at hl9 2 rfl) ?_
        refine lv_sipush (v := 1024) hx hb dL_links_258 (by decide) ?_
        refine hp_SH (As := [.ref xo, .int 0, .int (nI j13), .int 1024]) (rest := []) B0 hw hS (c_V_allow_V0 hl G f124 xo ez eo bu nw0 na0 nq0 nr0 nw1 na1 nq1 nr1 bs bp bh bf bl bg S0 S1 gw0 ga0 gw1 ga1 n a cg x sa pk fl gv gh gl hC125 (Nat.lt_of_le_of_lt hl0 (by decide)) (Nat.lt_of_le_of_lt hl1 (by decide)) j13 (by omega) 1024 (by decide)) mH_L_allow qM_L_100 rfl rfl hl9.1 (Nat.le_of_ble_eq_true rfl) ⟨⟨Nat.le_of_ble_eq_true rfl, Nat.le_of_ble_eq_true rfl⟩, Nat.le_of_ble_eq_true rfl, Nat.le_of_ble_eq_true rfl⟩ dL_links_261 (fun E ce q9 f127 H locs hPX hw hS hce hcv hcl => ?_) (fun v f127 H locs hP hw hS => ?_)
        · exact hPX.elim
        · obtain ⟨ev9, hC128, k129⟩ := hP
          subst ev9
          have hC128 : CXW G f127 xo ez eo bu nw0 na0 nq0 nr0 nw1 na1 nq1 nr1 bs bp bh bf bl bg S0 S1 gw0 ga0 gw1 ga1 n a cg x sa pk fl gv gh gl := hC128
          refine W.eq (g2 := F0 m 264 ls [.int (-72)]) rfl ?_
          refine lv_bipush (v := (-72)) hx hb dL_links_264 (by decide) ?_
          refine lv_icmp_ne (tgt := 302) hx hb dL_links_266 (by decide) (fun c9 => absurd (by decide) c9) (fun _ => ?_)
          refine lv_aload_n hx hb dL_links_269 rfl (lv_at hl9 6 rfl) ?_
          refine lv_iload hx hb dL_links_270 (lv_at hl9 5 rfl) ?_
          refine lv_iload hx hb dL_links_272 (lv_at hl9 2 rfl) ?_
          refine lv_iconst (v := (-1)) hx hb dL_links_274 (by decide) ?_
          refine hp_SH (As := [.ref xo, .int 0, .int (nI j13), .int (-1)]) (rest := []) B0 hw hS (c_V_allow_V0 hl G f127 xo ez eo bu nw0 na0 nq0 nr0 nw1 na1 nq1 nr1 bs bp bh bf bl bg S0 S1 gw0 ga0 gw1 ga1 n a cg x sa pk fl gv gh gl hC128 (Nat.lt_of_le_of_lt hl0 (by decide)) (Nat.lt_of_le_of_lt hl1 (by decide)) j13 (by omega) (-1) (by decide)) mH_L_allow qM_L_100 rfl rfl hl9.1 (Nat.le_of_ble_eq_true rfl) ⟨⟨Nat.le_of_ble_eq_true rfl, Nat.le_of_ble_eq_true rfl⟩, Nat.le_of_ble_eq_true rfl, Nat.le_of_ble_eq_true rfl⟩ dL_links_275 (fun E ce q9 f130 H locs hPX hw hS hce hcv hcl => ?_) (fun v f130 H locs hP hw hS => ?_)
          · exact hPX.elim
          · obtain ⟨ev9, hC131, k132⟩ := hP
            subst ev9
            have hC131 : CXW G f130 xo ez eo bu nw0 na0 nq0 nr0 nw1 na1 nq1 nr1 bs bp bh bf bl bg S0 S1 gw0 ga0 gw1 ga1 n a cg x sa pk fl gv gh gl := hC131
            refine W.eq (g2 := F0 m 278 ls [.int (-72)]) rfl ?_
            refine lv_bipush (v := (-72)) hx hb dL_links_278 (by decide) ?_
            refine lv_icmp_ne (tgt := 302) hx hb dL_links_280 (by decide) (fun c9 => absurd (by decide) c9) (fun _ => ?_)
            refine lv_aload_n hx hb dL_links_283 rfl (lv_at hl9 6 rfl) ?_
            refine lv_iload hx hb dL_links_284 (lv_at hl9 5 rfl) ?_
            refine lv_iload hx hb dL_links_286 (lv_at hl9 2 rfl) ?_
            refine lv_iload hx hb dL_links_288 (lv_at hl9 1 rfl) ?_
            refine hp_SH (As := [.ref xo, .int 0, .int (nI j13), .int 0]) (rest := []) B0 hw hS (c_V_allow_0 hl G f130 xo ez eo bu nw0 na0 nq0 nr0 nw1 na1 nq1 nr1 bs bp bh bf bl bg S0 S1 gw0 ga0 gw1 ga1 n a cg x sa pk fl gv gh gl hC131 (Nat.lt_of_le_of_lt hl0 (by decide)) (Nat.lt_of_le_of_lt hl1 (by decide)) j13 (by omega) 0 (by unfold AOK; decide)) mH_L_allow qM_L_100 rfl rfl hl9.1 (Nat.le_of_ble_eq_true rfl) ⟨⟨Nat.le_of_ble_eq_true rfl, Nat.le_of_ble_eq_true rfl⟩, Nat.le_of_ble_eq_true rfl, Nat.le_of_ble_eq_true rfl⟩ dL_links_290 (fun E ce q9 f133 H locs hPX hw hS hce hcv hcl => ?_) (fun v f133 H locs hP hw hS => ?_)
            · exact hPX.elim
            · obtain ⟨ev9, hC134, k135⟩ := hP
              subst ev9
              have hC134 : CXW G f133 xo ez eo bu nw0 na0 nq0 nr0 nw1 na1 nq1 nr1 bs bp bh bf bl bg S0 S1 gw0 (upd ga0 j13 0) gw1 ga1 n a cg x sa pk fl gv gh gl := hC134
              refine W.eq (g2 := F0 m 293 ls [.int ((ga0 j13))]) rfl ?_
              refine lv_iload hx hb dL_links_293 (lv_at hl9 0 rfl) ?_
              refine lv_icmp_ne (tgt := 302) hx hb dL_links_295 (by decide) (fun c9 => absurd rfl c9) (fun _ => ?_)
              refine lv_iconst (v := 1) hx hb dL_links_298 (by decide) ?_
              refine lv_goto (tgt := 303) hx hb dL_links_299 (by decide) ?_
              have h136 : f121 lx = some (.inl (cJ G, 64, .inr (.inl xs0))) := k123 _ _ h115 (Nat.ne_of_beq_eq_false rfl) (hdos _ List.mem_cons_self)
              have h137 : f124 lx = some (.inl (cJ G, 64, .inr (.inl xs0))) := k126 _ _ h136 (Nat.ne_of_beq_eq_false rfl) (hdos _ List.mem_cons_self)
              have h138 : f127 lx = some (.inl (cJ G, 64, .inr (.inl xs0))) := k129 _ _ h137 (Nat.ne_of_beq_eq_false rfl) (hdos _ List.mem_cons_self)
              have h139 : f130 lx = some (.inl (cJ G, 64, .inr (.inl xs0))) := k132 _ _ h138 (Nat.ne_of_beq_eq_false rfl) (hdos _ List.mem_cons_self)
              have h140 : f133 lx = some (.inl (cJ G, 64, .inr (.inl xs0))) := k135 _ _ h139 (Nat.ne_of_beq_eq_false rfl) (hdos _ List.mem_cons_self)
              have h141 : f121 ly = some (.inl (cJ G, 64, .inr (.inl xs1))) := k123 _ _ h116 (Nat.ne_of_beq_eq_false rfl) (hdos _ (List.mem_cons_of_mem _ List.mem_cons_self))
              have h142 : f124 ly = some (.inl (cJ G, 64, .inr (.inl xs1))) := k126 _ _ h141 (Nat.ne_of_beq_eq_false rfl) (hdos _ (List.mem_cons_of_mem _ List.mem_cons_self))
              have h143 : f127 ly = some (.inl (cJ G, 64, .inr (.inl xs1))) := k129 _ _ h142 (Nat.ne_of_beq_eq_false rfl) (hdos _ (List.mem_cons_of_mem _ List.mem_cons_self))
              have h144 : f130 ly = some (.inl (cJ G, 64, .inr (.inl xs1))) := k132 _ _ h143 (Nat.ne_of_beq_eq_false rfl) (hdos _ (List.mem_cons_of_mem _ List.mem_cons_self))
              have h145 : f133 ly = some (.inl (cJ G, 64, .inr (.inl xs1))) := k135 _ _ h144 (Nat.ne_of_beq_eq_false rfl) (hdos _ (List.mem_cons_of_mem _ List.mem_cons_self))
              have h146 : f121 lw = some (.inl (cI G, 12, .inl (j6 gw0 gw1))) := k123 _ _ h117 (Nat.ne_of_beq_eq_false rfl) (hdos _ (List.mem_cons_of_mem _ (List.mem_cons_of_mem _ List.mem_cons_self)))
              have h147 : f124 lw = some (.inl (cI G, 12, .inl (j6 gw0 gw1))) := k126 _ _ h146 (Nat.ne_of_beq_eq_false rfl) (hdos _ (List.mem_cons_of_mem _ (List.mem_cons_of_mem _ List.mem_cons_self)))
              have h148 : f127 lw = some (.inl (cI G, 12, .inl (j6 gw0 gw1))) := k129 _ _ h147 (Nat.ne_of_beq_eq_false rfl) (hdos _ (List.mem_cons_of_mem _ (List.mem_cons_of_mem _ List.mem_cons_self)))
              have h149 : f130 lw = some (.inl (cI G, 12, .inl (j6 gw0 gw1))) := k132 _ _ h148 (Nat.ne_of_beq_eq_false rfl) (hdos _ (List.mem_cons_of_mem _ (List.mem_cons_of_mem _ List.mem_cons_self)))
              have h150 : f133 lw = some (.inl (cI G, 12, .inl (j6 gw0 gw1))) := k135 _ _ h149 (Nat.ne_of_beq_eq_false rfl) (hdos _ (List.mem_cons_of_mem _ (List.mem_cons_of_mem _ List.mem_cons_self)))
              have h151 : f121 la = some (.inl (cI G, 12, .inl (j6 (upd ga0 j13 0) ga1))) := k123 _ _ h114 (Nat.ne_of_beq_eq_false rfl) (hdos _ (List.mem_cons_of_mem _ (List.mem_cons_of_mem _ (List.mem_cons_of_mem _ List.mem_cons_self))))
              have h152 : f124 la = some (.inl (cI G, 12, .inl (j6 (upd ga0 j13 0) ga1))) := k126 _ _ h151 (Nat.ne_of_beq_eq_false rfl) (hdos _ (List.mem_cons_of_mem _ (List.mem_cons_of_mem _ (List.mem_cons_of_mem _ List.mem_cons_self))))
              have h153 : f127 la = some (.inl (cI G, 12, .inl (j6 (upd ga0 j13 0) ga1))) := k129 _ _ h152 (Nat.ne_of_beq_eq_false rfl) (hdos _ (List.mem_cons_of_mem _ (List.mem_cons_of_mem _ (List.mem_cons_of_mem _ List.mem_cons_self))))
              have h154 : f130 la = some (.inl (cI G, 12, .inl (j6 (upd ga0 j13 0) ga1))) := k132 _ _ h153 (Nat.ne_of_beq_eq_false rfl) (hdos _ (List.mem_cons_of_mem _ (List.mem_cons_of_mem _ (List.mem_cons_of_mem _ List.mem_cons_self))))
              have h155 : f133 la = some (.inl (cI G, 12, .inl (j6 (upd ga0 j13 0) ga1))) := k135 _ _ h154 (Nat.ne_of_beq_eq_false rfl) (hdos _ (List.mem_cons_of_mem _ (List.mem_cons_of_mem _ (List.mem_cons_of_mem _ List.mem_cons_self))))
              have h156 : f121 lq = some (.inl (cI G, 12, .inl (j6 S0.2.2.2.2.2.2.2.1 S1.2.2.2.2.2.2.2.1))) := k123 _ _ h118 (Nat.ne_of_beq_eq_false rfl) (hdos _ (List.mem_cons_of_mem _ (List.mem_cons_of_mem _ (List.mem_cons_of_mem _ (List.mem_cons_of_mem _ List.mem_cons_self)))))
              have h157 : f124 lq = some (.inl (cI G, 12, .inl (j6 S0.2.2.2.2.2.2.2.1 S1.2.2.2.2.2.2.2.1))) := k126 _ _ h156 (Nat.ne_of_beq_eq_false rfl) (hdos _ (List.mem_cons_of_mem _ (List.mem_cons_of_mem _ (List.mem_cons_of_mem _ (List.mem_cons_of_mem _ List.mem_cons_self)))))
              have h158 : f127 lq = some (.inl (cI G, 12, .inl (j6 S0.2.2.2.2.2.2.2.1 S1.2.2.2.2.2.2.2.1))) := k129 _ _ h157 (Nat.ne_of_beq_eq_false rfl) (hdos _ (List.mem_cons_of_mem _ (List.mem_cons_of_mem _ (List.mem_cons_of_mem _ (List.mem_cons_of_mem _ List.mem_cons_self)))))
              have h159 : f130 lq = some (.inl (cI G, 12, .inl (j6 S0.2.2.2.2.2.2.2.1 S1.2.2.2.2.2.2.2.1))) := k132 _ _ h158 (Nat.ne_of_beq_eq_false rfl) (hdos _ (List.mem_cons_of_mem _ (List.mem_cons_of_mem _ (List.mem_cons_of_mem _ (List.mem_cons_of_mem _ List.mem_cons_self)))))
              have h160 : f133 lq = some (.inl (cI G, 12, .inl (j6 S0.2.2.2.2.2.2.2.1 S1.2.2.2.2.2.2.2.1))) := k135 _ _ h159 (Nat.ne_of_beq_eq_false rfl) (hdos _ (List.mem_cons_of_mem _ (List.mem_cons_of_mem _ (List.mem_cons_of_mem _ (List.mem_cons_of_mem _ List.mem_cons_self)))))
              have h161 : f121 le = some (.inl (cI G, 16, .inl (jE (e8 S0.1 S0.2.1 S0.2.2.1 S0.2.2.2.1 S0.2.2.2.2.1 S0.2.2.2.2.2.1 S0.2.2.2.2.2.2.1 (nI S0.2.2.2.2.2.2.2.2.length)) (eS S1)))) := k123 _ _ h119 (Nat.ne_of_beq_eq_false rfl) (hdos _ (List.mem_cons_of_mem _ (List.mem_cons_of_mem _ (List.mem_cons_of_mem _ (List.mem_cons_of_mem _ (List.mem_cons_of_mem _ List.mem_cons_self))))))
              have h162 : f124 le = some (.inl (cI G, 16, .inl (jE (e8 S0.1 S0.2.1 S0.2.2.1 S0.2.2.2.1 S0.2.2.2.2.1 S0.2.2.2.2.2.1 S0.2.2.2.2.2.2.1 (nI S0.2.2.2.2.2.2.2.2.length)) (eS S1)))) := k126 _ _ h161 (Nat.ne_of_beq_eq_false rfl) (hdos _ (List.mem_cons_of_mem _ (List.mem_cons_of_mem _ (List.mem_cons_of_mem _ (List.mem_cons_of_mem _ (List.mem_cons_of_mem _ List.mem_cons_self))))))
              have h163 : f127 le = some (.inl (cI G, 16, .inl (jE (e8 S0.1 S0.2.1 S0.2.2.1 S0.2.2.2.1 S0.2.2.2.2.1 S0.2.2.2.2.2.1 S0.2.2.2.2.2.2.1 (nI S0.2.2.2.2.2.2.2.2.length)) (eS S1)))) := k129 _ _ h162 (Nat.ne_of_beq_eq_false rfl) (hdos _ (List.mem_cons_of_mem _ (List.mem_cons_of_mem _ (List.mem_cons_of_mem _ (List.mem_cons_of_mem _ (List.mem_cons_of_mem _ List.mem_cons_self))))))
              have h164 : f130 le = some (.inl (cI G, 16, .inl (jE (e8 S0.1 S0.2.1 S0.2.2.1 S0.2.2.2.1 S0.2.2.2.2.1 S0.2.2.2.2.2.1 S0.2.2.2.2.2.2.1 (nI S0.2.2.2.2.2.2.2.2.length)) (eS S1)))) := k132 _ _ h163 (Nat.ne_of_beq_eq_false rfl) (hdos _ (List.mem_cons_of_mem _ (List.mem_cons_of_mem _ (List.mem_cons_of_mem _ (List.mem_cons_of_mem _ (List.mem_cons_of_mem _ List.mem_cons_self))))))
              have h165 : f133 le = some (.inl (cI G, 16, .inl (jE (e8 S0.1 S0.2.1 S0.2.2.1 S0.2.2.2.1 S0.2.2.2.2.1 S0.2.2.2.2.2.1 S0.2.2.2.2.2.2.1 (nI S0.2.2.2.2.2.2.2.2.length)) (eS S1)))) := k135 _ _ h164 (Nat.ne_of_beq_eq_false rfl) (hdos _ (List.mem_cons_of_mem _ (List.mem_cons_of_mem _ (List.mem_cons_of_mem _ (List.mem_cons_of_mem _ (List.mem_cons_of_mem _ List.mem_cons_self))))))
              exact hp_zret (v := 1) B0 hw hS hr ⟨Nat.le_of_ble_eq_true rfl, Nat.le_of_ble_eq_true rfl⟩ (rfl) dL_links_303 (⟨rfl, S0, S1, gw0, (upd ga0 j13 0), gw1, ga1, hC134, ⟨⟨_, h140, hX0⟩, ⟨_, h145, hX1⟩, h150, h155, h160, h165⟩, ⟨SOK.mono hSo0 (by omega), SOK.mono hSo1 (by omega), hgw0, (AOK_upd hga0 (by unfold AOK; decide)), hgw1, hga1⟩, hl0, hl1, ((show hKn [lx, ly, lw, la, lq, le, xo, ez, eo, bu, nw0, na0, nq0, nr0, nw1, na1, nq1, nr1, bs, bp, bh, bf, bl, bg] f f113 from (by rw [ef113]; exact hKn.up (List.mem_cons_of_mem _ (List.mem_cons_of_mem _ (List.mem_cons_of_mem _ List.mem_cons_self))))).tr ((show hKn [lx, ly, lw, la, lq, le, xo, ez, eo, bu, nw0, na0, nq0, nr0, nw1, na1, nq1, nr1, bs, bp, bh, bf, bl, bg] f113 f121 from (hKn.mono k123 sbA)).tr ((show hKn [lx, ly, lw, la, lq, le, xo, ez, eo, bu, nw0, na0, nq0, nr0, nw1, na1, nq1, nr1, bs, bp, bh, bf, bl, bg] f121 f124 from (hKn.mono k126 sbA)).tr ((show hKn [lx, ly, lw, la, lq, le, xo, ez, eo, bu, nw0, na0, nq0, nr0, nw1, na1, nq1, nr1, bs, bp, bh, bf, bl, bg] f124 f127 from (hKn.mono k129 sbA)).tr ((show hKn [lx, ly, lw, la, lq, le, xo, ez, eo, bu, nw0, na0, nq0, nr0, nw1, na1, nq1, nr1, bs, bp, bh, bf, bl, bg] f127 f130 from (hKn.mono k132 sbA)).tr (show hKn [lx, ly, lw, la, lq, le, xo, ez, eo, bu, nw0, na0, nq0, nr0, nw1, na1, nq1, nr1, bs, bp, bh, bf, bl, bg] f130 f133 from (hKn.mono k135 sbA)))))))⟩)

set_option maxHeartbeats 4000000 in
set_option maxRecDepth 100000 in
theorem lk_a_1 {l : Launch} (hl : l.stackTraces = false) (G : hG) (f : hM) (xo ez eo bu nw0 na0 nq0 nr0 nw1 na1 nq1 nr1 bs bp bh bf bl bg : Nat) (S0 : ES) (S1 : ES) (gw0 : Nat → Int32) (ga0 : Nat → Int32) (gw1 : Nat → Int32) (ga1 : Nat → Int32) (n : Nat) (a : Nat) (cg : Nat) (x : Nat) (sa : Nat → Nat) (pk : Nat → Nat) (fl : Nat → Nat) (gv : Nat → Nat) (gh : Nat → Int32) (gl : Nat → Int32) (hC : CXW G f xo ez eo bu nw0 na0 nq0 nr0 nw1 na1 nq1 nr1 bs bp bh bf bl bg S0 S1 gw0 ga0 gw1 ga1 n a cg x sa pk fl gv gh gl) (lx ly lw la lq le : Nat) (hdis : ∀ p, p ∈ [xo, ez, eo, bu, nw0, na0, nq0, nr0, nw1, na1, nq1, nr1, bs, bp, bh, bf, bl, bg] → p ∉ [lx, ly, lw, la, lq, le]) (hdos : ∀ p, p ∈ [lx, ly, lw, la, lq, le] → p ∉ [xo, ez, eo, bu, nw0, na0, nq0, nr0, nw1, na1, nq1, nr1, bs, bp, bh, bf, bl, bg]) (n_lx_ly : lx ≠ ly) (n_lw_la : lw ≠ la) (n_lw_lq : lw ≠ lq) (n_la_lq : la ≠ lq) (hLX : LX G f lx ly lw la lq le S0 S1 gw0 ga0 gw1 ga1) (b : Nat) (hInv : INV b S0 S1 gw0 ga0 gw1 ga1) (hbb : b + 200 ≤ 1000000) (hl0 : S0.2.2.2.2.2.2.2.2.length ≤ 52) (hl1 : S1.2.2.2.2.2.2.2.2.length ≤ 52) (ac : Nat) (hac : ac < 24) (hact : ac ≠ 22 → S0.2.2.2.2.2.2.2.2.length ≤ 40 ∧ S1.2.2.2.2.2.2.2.2.length ≤ 40) (u z : Int32) {p : Program} {e : Env} {s : State} {m : MethodId} {args : Array Value} {below : List Frame} {meth : Method} {c : Code} (B0 : hB p l s m args meth c cL_links 17 RL G) (hr : meth.sig.returnType = some .boolean) {H : Heap} {locs : List Loc} {ls : Array Slot} (hw : hW G f H) (hS : va_S (hFr G) s.heap H locs) (j13 : Nat) (hj13 : j13 < 6) (hl9 : lv_has ls 17 [(13, .int (nI j13)), (12, .ref ly), (11, .int 8), (10, .int 1), (0, .ref xo), (1, .int (nI ac)), (2, .int u), (3, .int z), (4, .ref lx), (5, .ref ly), (6, .ref lw), (7, .ref la), (8, .ref lq), (9, .ref le)]) : W p l e { frames := 9, cells := 203, slots := 1118, locals := 178 } s m args below meth c H locs 0 0 (vx_MQ below (hQ G (fun v f1 => v = some (.int 1) ∧ ∃ (S2 S3 : ES) (w0 a0 w1 a1 : Nat → Int32), CXW G f1 xo ez eo bu nw0 na0 nq0 nr0 nw1 na1 nq1 nr1 bs bp bh bf bl bg S2 S3 w0 a0 w1 a1 n a cg x sa pk fl gv gh gl ∧ LX G f1 lx ly lw la lq le S2 S3 w0 a0 w1 a1 ∧ INV (b + 100) S2 S3 w0 a0 w1 a1 ∧ S2.2.2.2.2.2.2.2.2.length ≤ 52 ∧ S3.2.2.2.2.2.2.2.2.length ≤ 52 ∧ hKn [lx, ly, lw, la, lq, le, xo, ez, eo, bu, nw0, na0, nq0, nr0, nw1, na1, nq1, nr1, bs, bp, bh, bf, bl, bg] f f1)) (hX G (fun E f1 => False)) args s 203 1118 (hFr G)) (F0 m 163 ls []) := by
  have hx := B0.1
  have hb := B0.2.1
  obtain ⟨⟨xs0, k_lx, hX0⟩, ⟨xs1, k_ly, hX1⟩, k_lw, k_la, k_lq, k_le⟩ := hLX
  obtain ⟨hSo0, hSo1, hgw0, hga0, hgw1, hga1⟩ := id hInv
  have n_lx_lw : lx ≠ lw := hneL k_lx k_lw (Nat.ne_of_beq_eq_false rfl)
  have n_lx_la : lx ≠ la := hneL k_lx k_la (Nat.ne_of_beq_eq_false rfl)
  have n_lx_lq : lx ≠ lq := hneL k_lx k_lq (Nat.ne_of_beq_eq_false rfl)
  have n_lx_le : lx ≠ le := hneL k_lx k_le (Nat.ne_of_beq_eq_false rfl)
  have n_ly_lw : ly ≠ lw := hneL k_ly k_lw (Nat.ne_of_beq_eq_false rfl)
  have n_ly_la : ly ≠ la := hneL k_ly k_la (Nat.ne_of_beq_eq_false rfl)
  have n_ly_lq : ly ≠ lq := hneL k_ly k_lq (Nat.ne_of_beq_eq_false rfl)
  have n_ly_le : ly ≠ le := hneL k_ly k_le (Nat.ne_of_beq_eq_false rfl)
  have n_lw_le : lw ≠ le := hneL k_lw k_le (Nat.ne_of_beq_eq_false rfl)
  have n_la_le : la ≠ le := hneL k_la k_le (Nat.ne_of_beq_eq_false rfl)
  have n_lq_le : lq ≠ le := hneL k_lq k_le (Nat.ne_of_beq_eq_false rfl)
  have sbA : ∀ x9, x9 ∈ [xo, ez, eo, bu, nw0, na0, nq0, nr0, nw1, na1, nq1, nr1, bs, bp, bh, bf, bl, bg] → x9 ∈ [lx, ly, lw, la, lq, le, xo, ez, eo, bu, nw0, na0, nq0, nr0, nw1, na1, nq1, nr1, bs, bp, bh, bf, bl, bg] := sbA
  obtain ⟨xx, hxx, hx4⟩ := hSo1.2.2.2.2.1
  have h1 : f le = some (.inl (cI G, 16, .inl (jE (eS S0) (e8 S1.1 S1.2.1 S1.2.2.1 S1.2.2.2.1 S1.2.2.2.2.1 S1.2.2.2.2.2.1 S1.2.2.2.2.2.2.1 (nI S1.2.2.2.2.2.2.2.2.length))))) := k_le
  refine lv_iload_n hx hb dL_links_163 rfl (lv_at hl9 7 rfl) ?_
  refine lv_bipush (v := 96) hx hb dL_links_164 (by decide) ?_
  refine lv_iand hx hb dL_links_166 ?_
  refine lv_if_ne (tgt := 174) hx hb dL_links_167 (by decide) (fun c2 => ?_) (fun c2 => ?_)
  · refine lv_iload_n hx hb dL_links_174 rfl (lv_at hl9 7 rfl) ?_
    refine lv_bipush (v := 96) hx hb dL_links_175 (by decide) ?_
    refine lv_iand hx hb dL_links_177 ?_
    refine lv_bipush (v := 32) hx hb dL_links_178 (by decide) ?_
    refine lv_icmp_ne (tgt := 189) hx hb dL_links_180 (by decide) (fun c3 => ?_) (fun c3 => ?_)
    · refine lv_iload_n hx hb dL_links_189 rfl (lv_at hl9 7 rfl) ?_
      refine lv_bipush (v := 7) hx hb dL_links_190 (by decide) ?_
      refine lv_ishr hx hb dL_links_192 ?_
      refine lv_sipush (v := 1024) hx hb dL_links_193 (by decide) ?_
      refine hp_S (As := [.int (z >>> (7 &&& 31)), .int 1024]) (rest := []) B0 hw hS (c_L_low hl G f (z >>> (7 &&& 31)) 1024 (by omega) (by omega)) mS_L_low qM_L_94 rfl rfl hl9.1 (Nat.le_of_ble_eq_true rfl) ⟨⟨Nat.le_of_ble_eq_true rfl, Nat.le_of_ble_eq_true rfl⟩, Nat.le_of_ble_eq_true rfl, Nat.le_of_ble_eq_true rfl⟩ dL_links_196 (fun E ce q9 f4 H locs hPX hw hS hce hcv hcl => ?_) (fun v f4 H locs hP hw hS => ?_)
      · exact hPX.elim
      · obtain ⟨ef9, j5, hj6, ev9⟩ := hP
        rw [ef9] at hw
        subst ev9
        refine W.eq (g2 := F0 m 199 ls [.int (nI j5)]) rfl ?_
        refine lv_istore (lv' := [(14, .int (nI j5)), (13, .int (nI j13)), (12, .ref ly), (11, .int 8), (10, .int 1), (0, .ref xo), (1, .int (nI ac)), (2, .int u), (3, .int z), (4, .ref lx), (5, .ref ly), (6, .ref lw), (7, .ref la), (8, .ref lq), (9, .ref le)]) hx hb dL_links_199 hl9 (by decide) rfl (fun ls hl9 => ?_)
        refine lv_aload hx hb dL_links_201 (lv_at hl9 12 rfl) ?_
        refine lv_bipush (v := 6) hx hb dL_links_203 (by decide) ?_
        refine lv_iload hx hb dL_links_205 (lv_at hl9 4 rfl) ?_
        refine lv_imul hx hb dL_links_207 ?_
        refine hp_c (v := 6) (by decide) ?_
        refine lv_iload hx hb dL_links_208 (lv_at hl9 1 rfl) ?_
        refine lv_iadd hx hb dL_links_210 ?_
        refine hp_c (v := (nI (6 + j13))) (nI_add 6 j13) ?_
        refine hp_iald B0 hw k_la (vp_in_nI (show 6 + j13 < 12 by omega) (by omega)) dL_links_211 ?_
        refine hp_c (v := (ga1 j13)) ((by rw [nI_clamp (by omega)]; exact j6_1)) ?_
        refine lv_istore (lv' := [(15, .int (ga1 j13)), (14, .int (nI j5)), (13, .int (nI j13)), (12, .ref ly), (11, .int 8), (10, .int 1), (0, .ref xo), (1, .int (nI ac)), (2, .int u), (3, .int z), (4, .ref lx), (5, .ref ly), (6, .ref lw), (7, .ref la), (8, .ref lq), (9, .ref le)]) hx hb dL_links_212 hl9 (by decide) rfl (fun ls hl9 => ?_)
        refine lv_aload hx hb dL_links_214 (lv_at hl9 13 rfl) ?_
        refine lv_bipush (v := 6) hx hb dL_links_216 (by decide) ?_
        refine lv_iload hx hb dL_links_218 (lv_at hl9 5 rfl) ?_
        refine lv_imul hx hb dL_links_220 ?_
        refine hp_c (v := 6) (by decide) ?_
        refine lv_iload hx hb dL_links_221 (lv_at hl9 2 rfl) ?_
        refine lv_iadd hx hb dL_links_223 ?_
        refine hp_c (v := (nI (6 + j13))) (nI_add 6 j13) ?_
        refine lv_iload hx hb dL_links_224 (lv_at hl9 1 rfl) ?_
        refine hp_iast B0 hw hS k_la (vp_in_nI (show 6 + j13 < 12 by omega) (by omega)) dL_links_226 (fun H locs f7 ef7 hw hS => ?_)
        rw [show (upd (j6 ga0 ga1) ((nI (6 + j13)) : Int32).toNatClampNeg (nI j5) : Nat → Int32) = (j6 ga0 (upd ga1 j13 (nI j5))) from (by rw [nI_clamp (by omega), j6_u1])] at ef7
        have h8 : f7 la = some (.inl (cI G, 12, .inl (j6 ga0 (upd ga1 j13 (nI j5))))) := by rw [ef7, va_up_self]
        refine lv_aload_n hx hb dL_links_227 rfl (lv_at hl9 6 rfl) ?_
        refine lv_iconst (v := (-1)) hx hb dL_links_228 (by decide) ?_
        refine lv_iload hx hb dL_links_229 (lv_at hl9 2 rfl) ?_
        refine lv_iconst (v := 0) hx hb dL_links_231 (by decide) ?_
        have h9 : f7 lx = some (.inl (cJ G, 64, .inr (.inl xs0))) := by rw [ef7, va_up_ne _ _ n_lx_la]; exact k_lx
        have h10 : f7 ly = some (.inl (cJ G, 64, .inr (.inl xs1))) := by rw [ef7, va_up_ne _ _ n_ly_la]; exact k_ly
        have h11 : f7 lw = some (.inl (cI G, 12, .inl (j6 gw0 gw1))) := by rw [ef7, va_up_ne _ _ n_lw_la]; exact k_lw
        have h12 : f7 lq = some (.inl (cI G, 12, .inl (j6 S0.2.2.2.2.2.2.2.1 S1.2.2.2.2.2.2.2.1))) := by rw [ef7, va_up_ne _ _ (Ne.symm n_la_lq)]; exact k_lq
        have h13 : f7 le = some (.inl (cI G, 16, .inl (jE (eS S0) (e8 S1.1 S1.2.1 S1.2.2.1 S1.2.2.2.1 S1.2.2.2.2.1 S1.2.2.2.2.2.1 S1.2.2.2.2.2.2.1 (nI S1.2.2.2.2.2.2.2.2.length))))) := by rw [ef7, va_up_ne _ _ (Ne.symm n_la_le)]; exact h1
        have hC14 : CXW G f7 xo ez eo bu nw0 na0 nq0 nr0 nw1 na1 nq1 nr1 bs bp bh bf bl bg S0 S1 gw0 ga0 gw1 ga1 n a cg x sa pk fl gv gh gl := CXW.eq hC (show hEq [lx, ly, lw, la, lq, le] f f7 from (by rw [ef7]; exact hEq.up (List.mem_cons_of_mem _ (List.mem_cons_of_mem _ (List.mem_cons_of_mem _ List.mem_cons_self))))) hdis (fun b9 hb9 => by
            simp only [List.mem_cons, List.not_mem_nil, or_false] at hb9
            rcases hb9 with hb9 | hb9 | hb9 | hb9 | hb9 | hb9
            · rw [hb9]; exact ⟨_, _, k_lx, h9, (Nat.ne_of_beq_eq_false rfl), (Nat.ne_of_beq_eq_false rfl)⟩
            · rw [hb9]; exact ⟨_, _, k_ly, h10, (Nat.ne_of_beq_eq_false rfl), (Nat.ne_of_beq_eq_false rfl)⟩
            · rw [hb9]; exact ⟨_, _, k_lw, h11, (Nat.ne_of_beq_eq_false rfl), (Nat.ne_of_beq_eq_false rfl)⟩
            · rw [hb9]; exact ⟨_, _, k_la, h8, (Nat.ne_of_beq_eq_false rfl), (Nat.ne_of_beq_eq_false rfl)⟩
            · rw [hb9]; exact ⟨_, _, k_lq, h12, (Nat.ne_of_beq_eq_false rfl), (Nat.ne_of_beq_eq_false rfl)⟩
            · rw [hb9]; exact ⟨_, _, h1, h13, (Nat.ne_of_beq_eq_false rfl), (Nat.ne_of_beq_eq_false rfl)⟩)
        refine hp_SH (As := [.ref xo, .int (-1), .int (nI j13), .int 0]) (rest := []) B0 hw hS (c_V_allow_E hl G f7 xo ez eo bu nw0 na0 nq0 nr0 nw1 na1 nq1 nr1 bs bp bh bf bl bg S0 S1 gw0 ga0 gw1 ga1 n a cg x sa pk fl gv gh gl hC14 (Nat.lt_of_le_of_lt hl0 (by decide)) (Nat.lt_of_le_of_lt hl1 (by decide)) (-1) (nI j13) 0 (by decide)) mH_L_allow qM_L_100 rfl rfl hl9.1 (Nat.le_of_ble_eq_true rfl) ⟨⟨Nat.le_of_ble_eq_true rfl, Nat.le_of_ble_eq_true rfl⟩, Nat.le_of_ble_eq_true rfl, Nat.le_of_ble_eq_true rfl⟩ dL_links_232 (fun E ce q9 f15 H locs hPX hw hS hce hcv hcl => ?_) (fun v f15 H locs hP hw hS => ?_)
        · exact hPX.elim
        · obtain ⟨ev9, hC16, k17⟩ := hP
          subst ev9
          have hC16 : CXW G f15 xo ez eo bu nw0 na0 nq0 nr0 nw1 na1 nq1 nr1 bs bp bh bf bl bg S0 S1 gw0 ga0 gw1 ga1 n a cg x sa pk fl gv gh gl := hC16
          refine W.eq (g2 := F0 m 235 ls [.int (-71)]) rfl ?_
          refine lv_bipush (v := (-71)) hx hb dL_links_235 (by decide) ?_
          refine lv_icmp_ne (tgt := 302) hx hb dL_links_237 (by decide) (fun c9 => absurd (by decide) c9) (fun _ => ?_)
          refine lv_aload_n hx hb dL_links_240 rfl (lv_at hl9 6 rfl) ?_
          refine lv_iload hx hb dL_links_241 (lv_at hl9 5 rfl) ?_
          refine lv_iconst (v := (-1)) hx hb dL_links_243 (by decide) ?_
          refine lv_iconst (v := 0) hx hb dL_links_244 (by decide) ?_
          refine hp_SH (As := [.ref xo, .int 1, .int (-1), .int 0]) (rest := []) B0 hw hS (c_V_allow_O1 hl G f15 xo ez eo bu nw0 na0 nq0 nr0 nw1 na1 nq1 nr1 bs bp bh bf bl bg S0 S1 gw0 ga0 gw1 ga1 n a cg x sa pk fl gv gh gl hC16 (Nat.lt_of_le_of_lt hl0 (by decide)) (Nat.lt_of_le_of_lt hl1 (by decide)) (-1) 0 (by decide)) mH_L_allow qM_L_100 rfl rfl hl9.1 (Nat.le_of_ble_eq_true rfl) ⟨⟨Nat.le_of_ble_eq_true rfl, Nat.le_of_ble_eq_true rfl⟩, Nat.le_of_ble_eq_true rfl, Nat.le_of_ble_eq_true rfl⟩ dL_links_245 (fun E ce q9 f18 H locs hPX hw hS hce hcv hcl => ?_) (fun v f18 H locs hP hw hS => ?_)
          · exact hPX.elim
          · obtain ⟨ev9, hC19, k20⟩ := hP
            subst ev9
            have hC19 : CXW G f18 xo ez eo bu nw0 na0 nq0 nr0 nw1 na1 nq1 nr1 bs bp bh bf bl bg S0 S1 gw0 ga0 gw1 ga1 n a cg x sa pk fl gv gh gl := hC19
            refine W.eq (g2 := F0 m 248 ls [.int (-71)]) rfl ?_
            refine lv_bipush (v := (-71)) hx hb dL_links_248 (by decide) ?_
            refine lv_icmp_ne (tgt := 302) hx hb dL_links_250 (by decide) (fun c9 => absurd (by decide) c9) (fun _ => ?_)
            refine lv_aload_n hx hb dL_links_253 rfl (lv_at hl9 6 rfl) ?_
            refine lv_iload hx hb dL_links_254 (lv_at hl9 5 rfl) ?_
            refine lv_iload hx hb dL_links_256 (lv_at hl9 2 rfl) ?_
            refine lv_sipush (v := 1024) hx hb dL_links_258 (by decide) ?_
            refine hp_SH (As := [.ref xo, .int 1, .int (nI j13), .int 1024]) (rest := []) B0 hw hS (c_V_allow_V1 hl G f18 xo ez eo bu nw0 na0 nq0 nr0 nw1 na1 nq1 nr1 bs bp bh bf bl bg S0 S1 gw0 ga0 gw1 ga1 n a cg x sa pk fl gv gh gl hC19 (Nat.lt_of_le_of_lt hl0 (by decide)) (Nat.lt_of_le_of_lt hl1 (by decide)) j13 (by omega) 1024 (by decide)) mH_L_allow qM_L_100 rfl rfl hl9.1 (Nat.le_of_ble_eq_true rfl) ⟨⟨Nat.le_of_ble_eq_true rfl, Nat.le_of_ble_eq_true rfl⟩, Nat.le_of_ble_eq_true rfl, Nat.le_of_ble_eq_true rfl⟩ dL_links_261 (fun E ce q9 f21 H locs hPX hw hS hce hcv hcl => ?_) (fun v f21 H locs hP hw hS => ?_)
            · exact hPX.elim
            · obtain ⟨ev9, hC22, k23⟩ := hP
              subst ev9
              have hC22 : CXW G f21 xo ez eo bu nw0 na0 nq0 nr0 nw1 na1 nq1 nr1 bs bp bh bf bl bg S0 S1 gw0 ga0 gw1 ga1 n a cg x sa pk fl gv gh gl := hC22
              refine W.eq (g2 := F0 m 264 ls [.int (-72)]) rfl ?_
              refine lv_bipush (v := (-72)) hx hb dL_links_264 (by decide) ?_
              refine lv_icmp_ne (tgt := 302) hx hb dL_links_266 (by decide) (fun c9 => absurd (by decide) c9) (fun _ => ?_)
              refine lv_aload_n hx hb dL_links_269 rfl (lv_at hl9 6 rfl) ?_
              refine lv_iload hx hb dL_links_270 (lv_at hl9 5 rfl) ?_
              refine lv_iload hx hb dL_links_272 (lv_at hl9 2 rfl) ?_
              refine lv_iconst (v := (-1)) hx hb dL_links_274 (by decide) ?_
              refine hp_SH (As := [.ref xo, .int 1, .int (nI j13), .int (-1)]) (rest := []) B0 hw hS (c_V_allow_V1 hl G f21 xo ez eo bu nw0 na0 nq0 nr0 nw1 na1 nq1 nr1 bs bp bh bf bl bg S0 S1 gw0 ga0 gw1 ga1 n a cg x sa pk fl gv gh gl hC22 (Nat.lt_of_le_of_lt hl0 (by decide)) (Nat.lt_of_le_of_lt hl1 (by decide)) j13 (by omega) (-1) (by decide)) mH_L_allow qM_L_100 rfl rfl hl9.1 (Nat.le_of_ble_eq_true rfl) ⟨⟨Nat.le_of_ble_eq_true rfl, Nat.le_of_ble_eq_true rfl⟩, Nat.le_of_ble_eq_true rfl, Nat.le_of_ble_eq_true rfl⟩ dL_links_275 (fun E ce q9 f24 H locs hPX hw hS hce hcv hcl => ?_) (fun v f24 H locs hP hw hS => ?_)
              · exact hPX.elim
              · obtain ⟨ev9, hC25, k26⟩ := hP
                subst ev9
                have hC25 : CXW G f24 xo ez eo bu nw0 na0 nq0 nr0 nw1 na1 nq1 nr1 bs bp bh bf bl bg S0 S1 gw0 ga0 gw1 ga1 n a cg x sa pk fl gv gh gl := hC25
                refine W.eq (g2 := F0 m 278 ls [.int (-72)]) rfl ?_
                refine lv_bipush (v := (-72)) hx hb dL_links_278 (by decide) ?_
                refine lv_icmp_ne (tgt := 302) hx hb dL_links_280 (by decide) (fun c9 => absurd (by decide) c9) (fun _ => ?_)
                refine lv_aload_n hx hb dL_links_283 rfl (lv_at hl9 6 rfl) ?_
                refine lv_iload hx hb dL_links_284 (lv_at hl9 5 rfl) ?_
                refine lv_iload hx hb dL_links_286 (lv_at hl9 2 rfl) ?_
                refine lv_iload hx hb dL_links_288 (lv_at hl9 1 rfl) ?_
                refine hp_SH (As := [.ref xo, .int 1, .int (nI j13), .int (nI j5)]) (rest := []) B0 hw hS (c_V_allow_1 hl G f24 xo ez eo bu nw0 na0 nq0 nr0 nw1 na1 nq1 nr1 bs bp bh bf bl bg S0 S1 gw0 ga0 gw1 ga1 n a cg x sa pk fl gv gh gl hC25 (Nat.lt_of_le_of_lt hl0 (by decide)) (Nat.lt_of_le_of_lt hl1 (by decide)) j13 (by omega) (nI j5) (AOK_nI hj6)) mH_L_allow qM_L_100 rfl rfl hl9.1 (Nat.le_of_ble_eq_true rfl) ⟨⟨Nat.le_of_ble_eq_true rfl, Nat.le_of_ble_eq_true rfl⟩, Nat.le_of_ble_eq_true rfl, Nat.le_of_ble_eq_true rfl⟩ dL_links_290 (fun E ce q9 f27 H locs hPX hw hS hce hcv hcl => ?_) (fun v f27 H locs hP hw hS => ?_)
                · exact hPX.elim
                · obtain ⟨ev9, hC28, k29⟩ := hP
                  subst ev9
                  have hC28 : CXW G f27 xo ez eo bu nw0 na0 nq0 nr0 nw1 na1 nq1 nr1 bs bp bh bf bl bg S0 S1 gw0 ga0 gw1 (upd ga1 j13 (nI j5)) n a cg x sa pk fl gv gh gl := hC28
                  refine W.eq (g2 := F0 m 293 ls [.int ((ga1 j13))]) rfl ?_
                  refine lv_iload hx hb dL_links_293 (lv_at hl9 0 rfl) ?_
                  refine lv_icmp_ne (tgt := 302) hx hb dL_links_295 (by decide) (fun c9 => absurd rfl c9) (fun _ => ?_)
                  refine lv_iconst (v := 1) hx hb dL_links_298 (by decide) ?_
                  refine lv_goto (tgt := 303) hx hb dL_links_299 (by decide) ?_
                  have h30 : f15 lx = some (.inl (cJ G, 64, .inr (.inl xs0))) := k17 _ _ h9 (Nat.ne_of_beq_eq_false rfl) (hdos _ List.mem_cons_self)
                  have h31 : f18 lx = some (.inl (cJ G, 64, .inr (.inl xs0))) := k20 _ _ h30 (Nat.ne_of_beq_eq_false rfl) (hdos _ List.mem_cons_self)
                  have h32 : f21 lx = some (.inl (cJ G, 64, .inr (.inl xs0))) := k23 _ _ h31 (Nat.ne_of_beq_eq_false rfl) (hdos _ List.mem_cons_self)
                  have h33 : f24 lx = some (.inl (cJ G, 64, .inr (.inl xs0))) := k26 _ _ h32 (Nat.ne_of_beq_eq_false rfl) (hdos _ List.mem_cons_self)
                  have h34 : f27 lx = some (.inl (cJ G, 64, .inr (.inl xs0))) := k29 _ _ h33 (Nat.ne_of_beq_eq_false rfl) (hdos _ List.mem_cons_self)
                  have h35 : f15 ly = some (.inl (cJ G, 64, .inr (.inl xs1))) := k17 _ _ h10 (Nat.ne_of_beq_eq_false rfl) (hdos _ (List.mem_cons_of_mem _ List.mem_cons_self))
                  have h36 : f18 ly = some (.inl (cJ G, 64, .inr (.inl xs1))) := k20 _ _ h35 (Nat.ne_of_beq_eq_false rfl) (hdos _ (List.mem_cons_of_mem _ List.mem_cons_self))
                  have h37 : f21 ly = some (.inl (cJ G, 64, .inr (.inl xs1))) := k23 _ _ h36 (Nat.ne_of_beq_eq_false rfl) (hdos _ (List.mem_cons_of_mem _ List.mem_cons_self))
                  have h38 : f24 ly = some (.inl (cJ G, 64, .inr (.inl xs1))) := k26 _ _ h37 (Nat.ne_of_beq_eq_false rfl) (hdos _ (List.mem_cons_of_mem _ List.mem_cons_self))
                  have h39 : f27 ly = some (.inl (cJ G, 64, .inr (.inl xs1))) := k29 _ _ h38 (Nat.ne_of_beq_eq_false rfl) (hdos _ (List.mem_cons_of_mem _ List.mem_cons_self))
                  have h40 : f15 lw = some (.inl (cI G, 12, .inl (j6 gw0 gw1))) := k17 _ _ h11 (Nat.ne_of_beq_eq_false rfl) (hdos _ (List.mem_cons_of_mem _ (List.mem_cons_of_mem _ List.mem_cons_self)))
                  have h41 : f18 lw = some (.inl (cI G, 12, .inl (j6 gw0 gw1))) := k20 _ _ h40 (Nat.ne_of_beq_eq_false rfl) (hdos _ (List.mem_cons_of_mem _ (List.mem_cons_of_mem _ List.mem_cons_self)))
                  have h42 : f21 lw = some (.inl (cI G, 12, .inl (j6 gw0 gw1))) := k23 _ _ h41 (Nat.ne_of_beq_eq_false rfl) (hdos _ (List.mem_cons_of_mem _ (List.mem_cons_of_mem _ List.mem_cons_self)))
                  have h43 : f24 lw = some (.inl (cI G, 12, .inl (j6 gw0 gw1))) := k26 _ _ h42 (Nat.ne_of_beq_eq_false rfl) (hdos _ (List.mem_cons_of_mem _ (List.mem_cons_of_mem _ List.mem_cons_self)))
                  have h44 : f27 lw = some (.inl (cI G, 12, .inl (j6 gw0 gw1))) := k29 _ _ h43 (Nat.ne_of_beq_eq_false rfl) (hdos _ (List.mem_cons_of_mem _ (List.mem_cons_of_mem _ List.mem_cons_self)))
                  have h45 : f15 la = some (.inl (cI G, 12, .inl (j6 ga0 (upd ga1 j13 (nI j5))))) := k17 _ _ h8 (Nat.ne_of_beq_eq_false rfl) (hdos _ (List.mem_cons_of_mem _ (List.mem_cons_of_mem _ (List.mem_cons_of_mem _ List.mem_cons_self))))
                  have h46 : f18 la = some (.inl (cI G, 12, .inl (j6 ga0 (upd ga1 j13 (nI j5))))) := k20 _ _ h45 (Nat.ne_of_beq_eq_false rfl) (hdos _ (List.mem_cons_of_mem _ (List.mem_cons_of_mem _ (List.mem_cons_of_mem _ List.mem_cons_self))))
                  have h47 : f21 la = some (.inl (cI G, 12, .inl (j6 ga0 (upd ga1 j13 (nI j5))))) := k23 _ _ h46 (Nat.ne_of_beq_eq_false rfl) (hdos _ (List.mem_cons_of_mem _ (List.mem_cons_of_mem _ (List.mem_cons_of_mem _ List.mem_cons_self))))
                  have h48 : f24 la = some (.inl (cI G, 12, .inl (j6 ga0 (upd ga1 j13 (nI j5))))) := k26 _ _ h47 (Nat.ne_of_beq_eq_false rfl) (hdos _ (List.mem_cons_of_mem _ (List.mem_cons_of_mem _ (List.mem_cons_of_mem _ List.mem_cons_self))))
                  have h49 : f27 la = some (.inl (cI G, 12, .inl (j6 ga0 (upd ga1 j13 (nI j5))))) := k29 _ _ h48 (Nat.ne_of_beq_eq_false rfl) (hdos _ (List.mem_cons_of_mem _ (List.mem_cons_of_mem _ (List.mem_cons_of_mem _ List.mem_cons_self))))
                  have h50 : f15 lq = some (.inl (cI G, 12, .inl (j6 S0.2.2.2.2.2.2.2.1 S1.2.2.2.2.2.2.2.1))) := k17 _ _ h12 (Nat.ne_of_beq_eq_false rfl) (hdos _ (List.mem_cons_of_mem _ (List.mem_cons_of_mem _ (List.mem_cons_of_mem _ (List.mem_cons_of_mem _ List.mem_cons_self)))))
                  have h51 : f18 lq = some (.inl (cI G, 12, .inl (j6 S0.2.2.2.2.2.2.2.1 S1.2.2.2.2.2.2.2.1))) := k20 _ _ h50 (Nat.ne_of_beq_eq_false rfl) (hdos _ (List.mem_cons_of_mem _ (List.mem_cons_of_mem _ (List.mem_cons_of_mem _ (List.mem_cons_of_mem _ List.mem_cons_self)))))
                  have h52 : f21 lq = some (.inl (cI G, 12, .inl (j6 S0.2.2.2.2.2.2.2.1 S1.2.2.2.2.2.2.2.1))) := k23 _ _ h51 (Nat.ne_of_beq_eq_false rfl) (hdos _ (List.mem_cons_of_mem _ (List.mem_cons_of_mem _ (List.mem_cons_of_mem _ (List.mem_cons_of_mem _ List.mem_cons_self)))))
                  have h53 : f24 lq = some (.inl (cI G, 12, .inl (j6 S0.2.2.2.2.2.2.2.1 S1.2.2.2.2.2.2.2.1))) := k26 _ _ h52 (Nat.ne_of_beq_eq_false rfl) (hdos _ (List.mem_cons_of_mem _ (List.mem_cons_of_mem _ (List.mem_cons_of_mem _ (List.mem_cons_of_mem _ List.mem_cons_self)))))
                  have h54 : f27 lq = some (.inl (cI G, 12, .inl (j6 S0.2.2.2.2.2.2.2.1 S1.2.2.2.2.2.2.2.1))) := k29 _ _ h53 (Nat.ne_of_beq_eq_false rfl) (hdos _ (List.mem_cons_of_mem _ (List.mem_cons_of_mem _ (List.mem_cons_of_mem _ (List.mem_cons_of_mem _ List.mem_cons_self)))))
                  have h55 : f15 le = some (.inl (cI G, 16, .inl (jE (eS S0) (e8 S1.1 S1.2.1 S1.2.2.1 S1.2.2.2.1 S1.2.2.2.2.1 S1.2.2.2.2.2.1 S1.2.2.2.2.2.2.1 (nI S1.2.2.2.2.2.2.2.2.length))))) := k17 _ _ h13 (Nat.ne_of_beq_eq_false rfl) (hdos _ (List.mem_cons_of_mem _ (List.mem_cons_of_mem _ (List.mem_cons_of_mem _ (List.mem_cons_of_mem _ (List.mem_cons_of_mem _ List.mem_cons_self))))))
                  have h56 : f18 le = some (.inl (cI G, 16, .inl (jE (eS S0) (e8 S1.1 S1.2.1 S1.2.2.1 S1.2.2.2.1 S1.2.2.2.2.1 S1.2.2.2.2.2.1 S1.2.2.2.2.2.2.1 (nI S1.2.2.2.2.2.2.2.2.length))))) := k20 _ _ h55 (Nat.ne_of_beq_eq_false rfl) (hdos _ (List.mem_cons_of_mem _ (List.mem_cons_of_mem _ (List.mem_cons_of_mem _ (List.mem_cons_of_mem _ (List.mem_cons_of_mem _ List.mem_cons_self))))))
                  have h57 : f21 le = some (.inl (cI G, 16, .inl (jE (eS S0) (e8 S1.1 S1.2.1 S1.2.2.1 S1.2.2.2.1 S1.2.2.2.2.1 S1.2.2.2.2.2.1 S1.2.2.2.2.2.2.1 (nI S1.2.2.2.2.2.2.2.2.length))))) := k23 _ _ h56 (Nat.ne_of_beq_eq_false rfl) (hdos _ (List.mem_cons_of_mem _ (List.mem_cons_of_mem _ (List.mem_cons_of_mem _ (List.mem_cons_of_mem _ (List.mem_cons_of_mem _ List.mem_cons_self))))))
                  have h58 : f24 le = some (.inl (cI G, 16, .inl (jE (eS S0) (e8 S1.1 S1.2.1 S1.2.2.1 S1.2.2.2.1 S1.2.2.2.2.1 S1.2.2.2.2.2.1 S1.2.2.2.2.2.2.1 (nI S1.2.2.2.2.2.2.2.2.length))))) := k26 _ _ h57 (Nat.ne_of_beq_eq_false rfl) (hdos _ (List.mem_cons_of_mem _ (List.mem_cons_of_mem _ (List.mem_cons_of_mem _ (List.mem_cons_of_mem _ (List.mem_cons_of_mem _ List.mem_cons_self))))))
                  have h59 : f27 le = some (.inl (cI G, 16, .inl (jE (eS S0) (e8 S1.1 S1.2.1 S1.2.2.1 S1.2.2.2.1 S1.2.2.2.2.1 S1.2.2.2.2.2.1 S1.2.2.2.2.2.2.1 (nI S1.2.2.2.2.2.2.2.2.length))))) := k29 _ _ h58 (Nat.ne_of_beq_eq_false rfl) (hdos _ (List.mem_cons_of_mem _ (List.mem_cons_of_mem _ (List.mem_cons_of_mem _ (List.mem_cons_of_mem _ (List.mem_cons_of_mem _ List.mem_cons_self))))))
                  exact hp_zret (v := 1) B0 hw hS hr ⟨Nat.le_of_ble_eq_true rfl, Nat.le_of_ble_eq_true rfl⟩ (rfl) dL_links_303 (⟨rfl, S0, S1, gw0, ga0, gw1, (upd ga1 j13 (nI j5)), hC28, ⟨⟨_, h34, hX0⟩, ⟨_, h39, hX1⟩, h44, h49, h54, h59⟩, ⟨SOK.mono hSo0 (by omega), SOK.mono hSo1 (by omega), hgw0, hga0, hgw1, (AOK_upd hga1 (AOK_nI hj6))⟩, hl0, hl1, ((show hKn [lx, ly, lw, la, lq, le, xo, ez, eo, bu, nw0, na0, nq0, nr0, nw1, na1, nq1, nr1, bs, bp, bh, bf, bl, bg] f f7 from (by rw [ef7]; exact hKn.up (List.mem_cons_of_mem _ (List.mem_cons_of_mem _ (List.mem_cons_of_mem _ List.mem_cons_self))))).tr ((show hKn [lx, ly, lw, la, lq, le, xo, ez, eo, bu, nw0, na0, nq0, nr0, nw1, na1, nq1, nr1, bs, bp, bh, bf, bl, bg] f7 f15 from (hKn.mono k17 sbA)).tr ((show hKn [lx, ly, lw, la, lq, le, xo, ez, eo, bu, nw0, na0, nq0, nr0, nw1, na1, nq1, nr1, bs, bp, bh, bf, bl, bg] f15 f18 from (hKn.mono k20 sbA)).tr ((show hKn [lx, ly, lw, la, lq, le, xo, ez, eo, bu, nw0, na0, nq0, nr0, nw1, na1, nq1, nr1, bs, bp, bh, bf, bl, bg] f18 f21 from (hKn.mono k23 sbA)).tr ((show hKn [lx, ly, lw, la, lq, le, xo, ez, eo, bu, nw0, na0, nq0, nr0, nw1, na1, nq1, nr1, bs, bp, bh, bf, bl, bg] f21 f24 from (hKn.mono k26 sbA)).tr (show hKn [lx, ly, lw, la, lq, le, xo, ez, eo, bu, nw0, na0, nq0, nr0, nw1, na1, nq1, nr1, bs, bp, bh, bf, bl, bg] f24 f27 from (hKn.mono k29 sbA)))))))⟩)
    · refine lv_sipush (v := 1023) hx hb dL_links_183 (by decide) ?_
      refine lv_goto (tgt := 199) hx hb dL_links_186 (by decide) ?_
      refine lv_istore (lv' := [(14, .int 1023), (13, .int (nI j13)), (12, .ref ly), (11, .int 8), (10, .int 1), (0, .ref xo), (1, .int (nI ac)), (2, .int u), (3, .int z), (4, .ref lx), (5, .ref ly), (6, .ref lw), (7, .ref la), (8, .ref lq), (9, .ref le)]) hx hb dL_links_199 hl9 (by decide) rfl (fun ls hl9 => ?_)
      refine lv_aload hx hb dL_links_201 (lv_at hl9 12 rfl) ?_
      refine lv_bipush (v := 6) hx hb dL_links_203 (by decide) ?_
      refine lv_iload hx hb dL_links_205 (lv_at hl9 4 rfl) ?_
      refine lv_imul hx hb dL_links_207 ?_
      refine hp_c (v := 6) (by decide) ?_
      refine lv_iload hx hb dL_links_208 (lv_at hl9 1 rfl) ?_
      refine lv_iadd hx hb dL_links_210 ?_
      refine hp_c (v := (nI (6 + j13))) (nI_add 6 j13) ?_
      refine hp_iald B0 hw k_la (vp_in_nI (show 6 + j13 < 12 by omega) (by omega)) dL_links_211 ?_
      refine hp_c (v := (ga1 j13)) ((by rw [nI_clamp (by omega)]; exact j6_1)) ?_
      refine lv_istore (lv' := [(15, .int (ga1 j13)), (14, .int 1023), (13, .int (nI j13)), (12, .ref ly), (11, .int 8), (10, .int 1), (0, .ref xo), (1, .int (nI ac)), (2, .int u), (3, .int z), (4, .ref lx), (5, .ref ly), (6, .ref lw), (7, .ref la), (8, .ref lq), (9, .ref le)]) hx hb dL_links_212 hl9 (by decide) rfl (fun ls hl9 => ?_)
      refine lv_aload hx hb dL_links_214 (lv_at hl9 13 rfl) ?_
      refine lv_bipush (v := 6) hx hb dL_links_216 (by decide) ?_
      refine lv_iload hx hb dL_links_218 (lv_at hl9 5 rfl) ?_
      refine lv_imul hx hb dL_links_220 ?_
      refine hp_c (v := 6) (by decide) ?_
      refine lv_iload hx hb dL_links_221 (lv_at hl9 2 rfl) ?_
      refine lv_iadd hx hb dL_links_223 ?_
      refine hp_c (v := (nI (6 + j13))) (nI_add 6 j13) ?_
      refine lv_iload hx hb dL_links_224 (lv_at hl9 1 rfl) ?_
      refine hp_iast B0 hw hS k_la (vp_in_nI (show 6 + j13 < 12 by omega) (by omega)) dL_links_226 (fun H locs f60 ef60 hw hS => ?_)
      rw [show (upd (j6 ga0 ga1) ((nI (6 + j13)) : Int32).toNatClampNeg 1023 : Nat → Int32) = (j6 ga0 (upd ga1 j13 1023)) from (by rw [nI_clamp (by omega), j6_u1])] at ef60
      have h61 : f60 la = some (.inl (cI G, 12, .inl (j6 ga0 (upd ga1 j13 1023)))) := by rw [ef60, va_up_self]
      refine lv_aload_n hx hb dL_links_227 rfl (lv_at hl9 6 rfl) ?_
      refine lv_iconst (v := (-1)) hx hb dL_links_228 (by decide) ?_
      refine lv_iload hx hb dL_links_229 (lv_at hl9 2 rfl) ?_
      refine lv_iconst (v := 0) hx hb dL_links_231 (by decide) ?_
      have h62 : f60 lx = some (.inl (cJ G, 64, .inr (.inl xs0))) := by rw [ef60, va_up_ne _ _ n_lx_la]; exact k_lx
      have h63 : f60 ly = some (.inl (cJ G, 64, .inr (.inl xs1))) := by rw [ef60, va_up_ne _ _ n_ly_la]; exact k_ly
      have h64 : f60 lw = some (.inl (cI G, 12, .inl (j6 gw0 gw1))) := by rw [ef60, va_up_ne _ _ n_lw_la]; exact k_lw
      have h65 : f60 lq = some (.inl (cI G, 12, .inl (j6 S0.2.2.2.2.2.2.2.1 S1.2.2.2.2.2.2.2.1))) := by rw [ef60, va_up_ne _ _ (Ne.symm n_la_lq)]; exact k_lq
      have h66 : f60 le = some (.inl (cI G, 16, .inl (jE (eS S0) (e8 S1.1 S1.2.1 S1.2.2.1 S1.2.2.2.1 S1.2.2.2.2.1 S1.2.2.2.2.2.1 S1.2.2.2.2.2.2.1 (nI S1.2.2.2.2.2.2.2.2.length))))) := by rw [ef60, va_up_ne _ _ (Ne.symm n_la_le)]; exact h1
      have hC67 : CXW G f60 xo ez eo bu nw0 na0 nq0 nr0 nw1 na1 nq1 nr1 bs bp bh bf bl bg S0 S1 gw0 ga0 gw1 ga1 n a cg x sa pk fl gv gh gl := CXW.eq hC (show hEq [lx, ly, lw, la, lq, le] f f60 from (by rw [ef60]; exact hEq.up (List.mem_cons_of_mem _ (List.mem_cons_of_mem _ (List.mem_cons_of_mem _ List.mem_cons_self))))) hdis (fun b9 hb9 => by
          simp only [List.mem_cons, List.not_mem_nil, or_false] at hb9
          rcases hb9 with hb9 | hb9 | hb9 | hb9 | hb9 | hb9
          · rw [hb9]; exact ⟨_, _, k_lx, h62, (Nat.ne_of_beq_eq_false rfl), (Nat.ne_of_beq_eq_false rfl)⟩
          · rw [hb9]; exact ⟨_, _, k_ly, h63, (Nat.ne_of_beq_eq_false rfl), (Nat.ne_of_beq_eq_false rfl)⟩
          · rw [hb9]; exact ⟨_, _, k_lw, h64, (Nat.ne_of_beq_eq_false rfl), (Nat.ne_of_beq_eq_false rfl)⟩
          · rw [hb9]; exact ⟨_, _, k_la, h61, (Nat.ne_of_beq_eq_false rfl), (Nat.ne_of_beq_eq_false rfl)⟩
          · rw [hb9]; exact ⟨_, _, k_lq, h65, (Nat.ne_of_beq_eq_false rfl), (Nat.ne_of_beq_eq_false rfl)⟩
          · rw [hb9]; exact ⟨_, _, h1, h66, (Nat.ne_of_beq_eq_false rfl), (Nat.ne_of_beq_eq_false rfl)⟩)
      refine hp_SH (As := [.ref xo, .int (-1), .int (nI j13), .int 0]) (rest := []) B0 hw hS (c_V_allow_E hl G f60 xo ez eo bu nw0 na0 nq0 nr0 nw1 na1 nq1 nr1 bs bp bh bf bl bg S0 S1 gw0 ga0 gw1 ga1 n a cg x sa pk fl gv gh gl hC67 (Nat.lt_of_le_of_lt hl0 (by decide)) (Nat.lt_of_le_of_lt hl1 (by decide)) (-1) (nI j13) 0 (by decide)) mH_L_allow qM_L_100 rfl rfl hl9.1 (Nat.le_of_ble_eq_true rfl) ⟨⟨Nat.le_of_ble_eq_true rfl, Nat.le_of_ble_eq_true rfl⟩, Nat.le_of_ble_eq_true rfl, Nat.le_of_ble_eq_true rfl⟩ dL_links_232 (fun E ce q9 f68 H locs hPX hw hS hce hcv hcl => ?_) (fun v f68 H locs hP hw hS => ?_)
      · exact hPX.elim
      · obtain ⟨ev9, hC69, k70⟩ := hP
        subst ev9
        have hC69 : CXW G f68 xo ez eo bu nw0 na0 nq0 nr0 nw1 na1 nq1 nr1 bs bp bh bf bl bg S0 S1 gw0 ga0 gw1 ga1 n a cg x sa pk fl gv gh gl := hC69
        refine W.eq (g2 := F0 m 235 ls [.int (-71)]) rfl ?_
        refine lv_bipush (v := (-71)) hx hb dL_links_235 (by decide) ?_
        refine lv_icmp_ne (tgt := 302) hx hb dL_links_237 (by decide) (fun c9 => absurd (by decide) c9) (fun _ => ?_)
        refine lv_aload_n hx hb dL_links_240 rfl (lv_at hl9 6 rfl) ?_
        refine lv_iload hx hb dL_links_241 (lv_at hl9 5 rfl) ?_
        refine lv_iconst (v := (-1)) hx hb dL_links_243 (by decide) ?_
        refine lv_iconst (v := 0) hx hb dL_links_244 (by decide) ?_
        refine hp_SH (As := [.ref xo, .int 1, .int (-1), .int 0]) (rest := []) B0 hw hS (c_V_allow_O1 hl G f68 xo ez eo bu nw0 na0 nq0 nr0 nw1 na1 nq1 nr1 bs bp bh bf bl bg S0 S1 gw0 ga0 gw1 ga1 n a cg x sa pk fl gv gh gl hC69 (Nat.lt_of_le_of_lt hl0 (by decide)) (Nat.lt_of_le_of_lt hl1 (by decide)) (-1) 0 (by decide)) mH_L_allow qM_L_100 rfl rfl hl9.1 (Nat.le_of_ble_eq_true rfl) ⟨⟨Nat.le_of_ble_eq_true rfl, Nat.le_of_ble_eq_true rfl⟩, Nat.le_of_ble_eq_true rfl, Nat.le_of_ble_eq_true rfl⟩ dL_links_245 (fun E ce q9 f71 H locs hPX hw hS hce hcv hcl => ?_) (fun v f71 H locs hP hw hS => ?_)
        · exact hPX.elim
        · obtain ⟨ev9, hC72, k73⟩ := hP
          subst ev9
          have hC72 : CXW G f71 xo ez eo bu nw0 na0 nq0 nr0 nw1 na1 nq1 nr1 bs bp bh bf bl bg S0 S1 gw0 ga0 gw1 ga1 n a cg x sa pk fl gv gh gl := hC72
          refine W.eq (g2 := F0 m 248 ls [.int (-71)]) rfl ?_
          refine lv_bipush (v := (-71)) hx hb dL_links_248 (by decide) ?_
          refine lv_icmp_ne (tgt := 302) hx hb dL_links_250 (by decide) (fun c9 => absurd (by decide) c9) (fun _ => ?_)
          refine lv_aload_n hx hb dL_links_253 rfl (lv_at hl9 6 rfl) ?_
          refine lv_iload hx hb dL_links_254 (lv_at hl9 5 rfl) ?_
          refine lv_iload hx hb dL_links_256 (lv_at hl9 2 rfl) ?_
          refine lv_sipush (v := 1024) hx hb dL_links_258 (by decide) ?_
          refine hp_SH (As := [.ref xo, .int 1, .int (nI j13), .int 1024]) (rest := []) B0 hw hS (c_V_allow_V1 hl G f71 xo ez eo bu nw0 na0 nq0 nr0 nw1 na1 nq1 nr1 bs bp bh bf bl bg S0 S1 gw0 ga0 gw1 ga1 n a cg x sa pk fl gv gh gl hC72 (Nat.lt_of_le_of_lt hl0 (by decide)) (Nat.lt_of_le_of_lt hl1 (by decide)) j13 (by omega) 1024 (by decide)) mH_L_allow qM_L_100 rfl rfl hl9.1 (Nat.le_of_ble_eq_true rfl) ⟨⟨Nat.le_of_ble_eq_true rfl, Nat.le_of_ble_eq_true rfl⟩, Nat.le_of_ble_eq_true rfl, Nat.le_of_ble_eq_true rfl⟩ dL_links_261 (fun E ce q9 f74 H locs hPX hw hS hce hcv hcl => ?_) (fun v f74 H locs hP hw hS => ?_)
          · exact hPX.elim
          · obtain ⟨ev9, hC75, k76⟩ := hP
            subst ev9
            have hC75 : CXW G f74 xo ez eo bu nw0 na0 nq0 nr0 nw1 na1 nq1 nr1 bs bp bh bf bl bg S0 S1 gw0 ga0 gw1 ga1 n a cg x sa pk fl gv gh gl := hC75
            refine W.eq (g2 := F0 m 264 ls [.int (-72)]) rfl ?_
            refine lv_bipush (v := (-72)) hx hb dL_links_264 (by decide) ?_
            refine lv_icmp_ne (tgt := 302) hx hb dL_links_266 (by decide) (fun c9 => absurd (by decide) c9) (fun _ => ?_)
            refine lv_aload_n hx hb dL_links_269 rfl (lv_at hl9 6 rfl) ?_
            refine lv_iload hx hb dL_links_270 (lv_at hl9 5 rfl) ?_
            refine lv_iload hx hb dL_links_272 (lv_at hl9 2 rfl) ?_
            refine lv_iconst (v := (-1)) hx hb dL_links_274 (by decide) ?_
            refine hp_SH (As := [.ref xo, .int 1, .int (nI j13), .int (-1)]) (rest := []) B0 hw hS (c_V_allow_V1 hl G f74 xo ez eo bu nw0 na0 nq0 nr0 nw1 na1 nq1 nr1 bs bp bh bf bl bg S0 S1 gw0 ga0 gw1 ga1 n a cg x sa pk fl gv gh gl hC75 (Nat.lt_of_le_of_lt hl0 (by decide)) (Nat.lt_of_le_of_lt hl1 (by decide)) j13 (by omega) (-1) (by decide)) mH_L_allow qM_L_100 rfl rfl hl9.1 (Nat.le_of_ble_eq_true rfl) ⟨⟨Nat.le_of_ble_eq_true rfl, Nat.le_of_ble_eq_true rfl⟩, Nat.le_of_ble_eq_true rfl, Nat.le_of_ble_eq_true rfl⟩ dL_links_275 (fun E ce q9 f77 H locs hPX hw hS hce hcv hcl => ?_) (fun v f77 H locs hP hw hS => ?_)
            · exact hPX.elim
            · obtain ⟨ev9, hC78, k79⟩ := hP
              subst ev9
              have hC78 : CXW G f77 xo ez eo bu nw0 na0 nq0 nr0 nw1 na1 nq1 nr1 bs bp bh bf bl bg S0 S1 gw0 ga0 gw1 ga1 n a cg x sa pk fl gv gh gl := hC78
              refine W.eq (g2 := F0 m 278 ls [.int (-72)]) rfl ?_
              refine lv_bipush (v := (-72)) hx hb dL_links_278 (by decide) ?_
              refine lv_icmp_ne (tgt := 302) hx hb dL_links_280 (by decide) (fun c9 => absurd (by decide) c9) (fun _ => ?_)
              refine lv_aload_n hx hb dL_links_283 rfl (lv_at hl9 6 rfl) ?_
              refine lv_iload hx hb dL_links_284 (lv_at hl9 5 rfl) ?_
              refine lv_iload hx hb dL_links_286 (lv_at hl9 2 rfl) ?_
              refine lv_iload hx hb dL_links_288 (lv_at hl9 1 rfl) ?_
              refine hp_SH (As := [.ref xo, .int 1, .int (nI j13), .int 1023]) (rest := []) B0 hw hS (c_V_allow_1 hl G f77 xo ez eo bu nw0 na0 nq0 nr0 nw1 na1 nq1 nr1 bs bp bh bf bl bg S0 S1 gw0 ga0 gw1 ga1 n a cg x sa pk fl gv gh gl hC78 (Nat.lt_of_le_of_lt hl0 (by decide)) (Nat.lt_of_le_of_lt hl1 (by decide)) j13 (by omega) 1023 (by unfold AOK; decide)) mH_L_allow qM_L_100 rfl rfl hl9.1 (Nat.le_of_ble_eq_true rfl) ⟨⟨Nat.le_of_ble_eq_true rfl, Nat.le_of_ble_eq_true rfl⟩, Nat.le_of_ble_eq_true rfl, Nat.le_of_ble_eq_true rfl⟩ dL_links_290 (fun E ce q9 f80 H locs hPX hw hS hce hcv hcl => ?_) (fun v f80 H locs hP hw hS => ?_)
              · exact hPX.elim
              · obtain ⟨ev9, hC81, k82⟩ := hP
                subst ev9
                have hC81 : CXW G f80 xo ez eo bu nw0 na0 nq0 nr0 nw1 na1 nq1 nr1 bs bp bh bf bl bg S0 S1 gw0 ga0 gw1 (upd ga1 j13 1023) n a cg x sa pk fl gv gh gl := hC81
                refine W.eq (g2 := F0 m 293 ls [.int ((ga1 j13))]) rfl ?_
                refine lv_iload hx hb dL_links_293 (lv_at hl9 0 rfl) ?_
                refine lv_icmp_ne (tgt := 302) hx hb dL_links_295 (by decide) (fun c9 => absurd rfl c9) (fun _ => ?_)
                refine lv_iconst (v := 1) hx hb dL_links_298 (by decide) ?_
                refine lv_goto (tgt := 303) hx hb dL_links_299 (by decide) ?_
                have h83 : f68 lx = some (.inl (cJ G, 64, .inr (.inl xs0))) := k70 _ _ h62 (Nat.ne_of_beq_eq_false rfl) (hdos _ List.mem_cons_self)
                have h84 : f71 lx = some (.inl (cJ G, 64, .inr (.inl xs0))) := k73 _ _ h83 (Nat.ne_of_beq_eq_false rfl) (hdos _ List.mem_cons_self)
                have h85 : f74 lx = some (.inl (cJ G, 64, .inr (.inl xs0))) := k76 _ _ h84 (Nat.ne_of_beq_eq_false rfl) (hdos _ List.mem_cons_self)
                have h86 : f77 lx = some (.inl (cJ G, 64, .inr (.inl xs0))) := k79 _ _ h85 (Nat.ne_of_beq_eq_false rfl) (hdos _ List.mem_cons_self)
                have h87 : f80 lx = some (.inl (cJ G, 64, .inr (.inl xs0))) := k82 _ _ h86 (Nat.ne_of_beq_eq_false rfl) (hdos _ List.mem_cons_self)
                have h88 : f68 ly = some (.inl (cJ G, 64, .inr (.inl xs1))) := k70 _ _ h63 (Nat.ne_of_beq_eq_false rfl) (hdos _ (List.mem_cons_of_mem _ List.mem_cons_self))
                have h89 : f71 ly = some (.inl (cJ G, 64, .inr (.inl xs1))) := k73 _ _ h88 (Nat.ne_of_beq_eq_false rfl) (hdos _ (List.mem_cons_of_mem _ List.mem_cons_self))
                have h90 : f74 ly = some (.inl (cJ G, 64, .inr (.inl xs1))) := k76 _ _ h89 (Nat.ne_of_beq_eq_false rfl) (hdos _ (List.mem_cons_of_mem _ List.mem_cons_self))
                have h91 : f77 ly = some (.inl (cJ G, 64, .inr (.inl xs1))) := k79 _ _ h90 (Nat.ne_of_beq_eq_false rfl) (hdos _ (List.mem_cons_of_mem _ List.mem_cons_self))
                have h92 : f80 ly = some (.inl (cJ G, 64, .inr (.inl xs1))) := k82 _ _ h91 (Nat.ne_of_beq_eq_false rfl) (hdos _ (List.mem_cons_of_mem _ List.mem_cons_self))
                have h93 : f68 lw = some (.inl (cI G, 12, .inl (j6 gw0 gw1))) := k70 _ _ h64 (Nat.ne_of_beq_eq_false rfl) (hdos _ (List.mem_cons_of_mem _ (List.mem_cons_of_mem _ List.mem_cons_self)))
                have h94 : f71 lw = some (.inl (cI G, 12, .inl (j6 gw0 gw1))) := k73 _ _ h93 (Nat.ne_of_beq_eq_false rfl) (hdos _ (List.mem_cons_of_mem _ (List.mem_cons_of_mem _ List.mem_cons_self)))
                have h95 : f74 lw = some (.inl (cI G, 12, .inl (j6 gw0 gw1))) := k76 _ _ h94 (Nat.ne_of_beq_eq_false rfl) (hdos _ (List.mem_cons_of_mem _ (List.mem_cons_of_mem _ List.mem_cons_self)))
                have h96 : f77 lw = some (.inl (cI G, 12, .inl (j6 gw0 gw1))) := k79 _ _ h95 (Nat.ne_of_beq_eq_false rfl) (hdos _ (List.mem_cons_of_mem _ (List.mem_cons_of_mem _ List.mem_cons_self)))
                have h97 : f80 lw = some (.inl (cI G, 12, .inl (j6 gw0 gw1))) := k82 _ _ h96 (Nat.ne_of_beq_eq_false rfl) (hdos _ (List.mem_cons_of_mem _ (List.mem_cons_of_mem _ List.mem_cons_self)))
                have h98 : f68 la = some (.inl (cI G, 12, .inl (j6 ga0 (upd ga1 j13 1023)))) := k70 _ _ h61 (Nat.ne_of_beq_eq_false rfl) (hdos _ (List.mem_cons_of_mem _ (List.mem_cons_of_mem _ (List.mem_cons_of_mem _ List.mem_cons_self))))
                have h99 : f71 la = some (.inl (cI G, 12, .inl (j6 ga0 (upd ga1 j13 1023)))) := k73 _ _ h98 (Nat.ne_of_beq_eq_false rfl) (hdos _ (List.mem_cons_of_mem _ (List.mem_cons_of_mem _ (List.mem_cons_of_mem _ List.mem_cons_self))))
                have h100 : f74 la = some (.inl (cI G, 12, .inl (j6 ga0 (upd ga1 j13 1023)))) := k76 _ _ h99 (Nat.ne_of_beq_eq_false rfl) (hdos _ (List.mem_cons_of_mem _ (List.mem_cons_of_mem _ (List.mem_cons_of_mem _ List.mem_cons_self))))
                have h101 : f77 la = some (.inl (cI G, 12, .inl (j6 ga0 (upd ga1 j13 1023)))) := k79 _ _ h100 (Nat.ne_of_beq_eq_false rfl) (hdos _ (List.mem_cons_of_mem _ (List.mem_cons_of_mem _ (List.mem_cons_of_mem _ List.mem_cons_self))))
                have h102 : f80 la = some (.inl (cI G, 12, .inl (j6 ga0 (upd ga1 j13 1023)))) := k82 _ _ h101 (Nat.ne_of_beq_eq_false rfl) (hdos _ (List.mem_cons_of_mem _ (List.mem_cons_of_mem _ (List.mem_cons_of_mem _ List.mem_cons_self))))
                have h103 : f68 lq = some (.inl (cI G, 12, .inl (j6 S0.2.2.2.2.2.2.2.1 S1.2.2.2.2.2.2.2.1))) := k70 _ _ h65 (Nat.ne_of_beq_eq_false rfl) (hdos _ (List.mem_cons_of_mem _ (List.mem_cons_of_mem _ (List.mem_cons_of_mem _ (List.mem_cons_of_mem _ List.mem_cons_self)))))
                have h104 : f71 lq = some (.inl (cI G, 12, .inl (j6 S0.2.2.2.2.2.2.2.1 S1.2.2.2.2.2.2.2.1))) := k73 _ _ h103 (Nat.ne_of_beq_eq_false rfl) (hdos _ (List.mem_cons_of_mem _ (List.mem_cons_of_mem _ (List.mem_cons_of_mem _ (List.mem_cons_of_mem _ List.mem_cons_self)))))
                have h105 : f74 lq = some (.inl (cI G, 12, .inl (j6 S0.2.2.2.2.2.2.2.1 S1.2.2.2.2.2.2.2.1))) := k76 _ _ h104 (Nat.ne_of_beq_eq_false rfl) (hdos _ (List.mem_cons_of_mem _ (List.mem_cons_of_mem _ (List.mem_cons_of_mem _ (List.mem_cons_of_mem _ List.mem_cons_self)))))
                have h106 : f77 lq = some (.inl (cI G, 12, .inl (j6 S0.2.2.2.2.2.2.2.1 S1.2.2.2.2.2.2.2.1))) := k79 _ _ h105 (Nat.ne_of_beq_eq_false rfl) (hdos _ (List.mem_cons_of_mem _ (List.mem_cons_of_mem _ (List.mem_cons_of_mem _ (List.mem_cons_of_mem _ List.mem_cons_self)))))
                have h107 : f80 lq = some (.inl (cI G, 12, .inl (j6 S0.2.2.2.2.2.2.2.1 S1.2.2.2.2.2.2.2.1))) := k82 _ _ h106 (Nat.ne_of_beq_eq_false rfl) (hdos _ (List.mem_cons_of_mem _ (List.mem_cons_of_mem _ (List.mem_cons_of_mem _ (List.mem_cons_of_mem _ List.mem_cons_self)))))
                have h108 : f68 le = some (.inl (cI G, 16, .inl (jE (eS S0) (e8 S1.1 S1.2.1 S1.2.2.1 S1.2.2.2.1 S1.2.2.2.2.1 S1.2.2.2.2.2.1 S1.2.2.2.2.2.2.1 (nI S1.2.2.2.2.2.2.2.2.length))))) := k70 _ _ h66 (Nat.ne_of_beq_eq_false rfl) (hdos _ (List.mem_cons_of_mem _ (List.mem_cons_of_mem _ (List.mem_cons_of_mem _ (List.mem_cons_of_mem _ (List.mem_cons_of_mem _ List.mem_cons_self))))))
                have h109 : f71 le = some (.inl (cI G, 16, .inl (jE (eS S0) (e8 S1.1 S1.2.1 S1.2.2.1 S1.2.2.2.1 S1.2.2.2.2.1 S1.2.2.2.2.2.1 S1.2.2.2.2.2.2.1 (nI S1.2.2.2.2.2.2.2.2.length))))) := k73 _ _ h108 (Nat.ne_of_beq_eq_false rfl) (hdos _ (List.mem_cons_of_mem _ (List.mem_cons_of_mem _ (List.mem_cons_of_mem _ (List.mem_cons_of_mem _ (List.mem_cons_of_mem _ List.mem_cons_self))))))
                have h110 : f74 le = some (.inl (cI G, 16, .inl (jE (eS S0) (e8 S1.1 S1.2.1 S1.2.2.1 S1.2.2.2.1 S1.2.2.2.2.1 S1.2.2.2.2.2.1 S1.2.2.2.2.2.2.1 (nI S1.2.2.2.2.2.2.2.2.length))))) := k76 _ _ h109 (Nat.ne_of_beq_eq_false rfl) (hdos _ (List.mem_cons_of_mem _ (List.mem_cons_of_mem _ (List.mem_cons_of_mem _ (List.mem_cons_of_mem _ (List.mem_cons_of_mem _ List.mem_cons_self))))))
                have h111 : f77 le = some (.inl (cI G, 16, .inl (jE (eS S0) (e8 S1.1 S1.2.1 S1.2.2.1 S1.2.2.2.1 S1.2.2.2.2.1 S1.2.2.2.2.2.1 S1.2.2.2.2.2.2.1 (nI S1.2.2.2.2.2.2.2.2.length))))) := k79 _ _ h110 (Nat.ne_of_beq_eq_false rfl) (hdos _ (List.mem_cons_of_mem _ (List.mem_cons_of_mem _ (List.mem_cons_of_mem _ (List.mem_cons_of_mem _ (List.mem_cons_of_mem _ List.mem_cons_self))))))
                have h112 : f80 le = some (.inl (cI G, 16, .inl (jE (eS S0) (e8 S1.1 S1.2.1 S1.2.2.1 S1.2.2.2.1 S1.2.2.2.2.1 S1.2.2.2.2.2.1 S1.2.2.2.2.2.2.1 (nI S1.2.2.2.2.2.2.2.2.length))))) := k82 _ _ h111 (Nat.ne_of_beq_eq_false rfl) (hdos _ (List.mem_cons_of_mem _ (List.mem_cons_of_mem _ (List.mem_cons_of_mem _ (List.mem_cons_of_mem _ (List.mem_cons_of_mem _ List.mem_cons_self))))))
                exact hp_zret (v := 1) B0 hw hS hr ⟨Nat.le_of_ble_eq_true rfl, Nat.le_of_ble_eq_true rfl⟩ (rfl) dL_links_303 (⟨rfl, S0, S1, gw0, ga0, gw1, (upd ga1 j13 1023), hC81, ⟨⟨_, h87, hX0⟩, ⟨_, h92, hX1⟩, h97, h102, h107, h112⟩, ⟨SOK.mono hSo0 (by omega), SOK.mono hSo1 (by omega), hgw0, hga0, hgw1, (AOK_upd hga1 (by unfold AOK; decide))⟩, hl0, hl1, ((show hKn [lx, ly, lw, la, lq, le, xo, ez, eo, bu, nw0, na0, nq0, nr0, nw1, na1, nq1, nr1, bs, bp, bh, bf, bl, bg] f f60 from (by rw [ef60]; exact hKn.up (List.mem_cons_of_mem _ (List.mem_cons_of_mem _ (List.mem_cons_of_mem _ List.mem_cons_self))))).tr ((show hKn [lx, ly, lw, la, lq, le, xo, ez, eo, bu, nw0, na0, nq0, nr0, nw1, na1, nq1, nr1, bs, bp, bh, bf, bl, bg] f60 f68 from (hKn.mono k70 sbA)).tr ((show hKn [lx, ly, lw, la, lq, le, xo, ez, eo, bu, nw0, na0, nq0, nr0, nw1, na1, nq1, nr1, bs, bp, bh, bf, bl, bg] f68 f71 from (hKn.mono k73 sbA)).tr ((show hKn [lx, ly, lw, la, lq, le, xo, ez, eo, bu, nw0, na0, nq0, nr0, nw1, na1, nq1, nr1, bs, bp, bh, bf, bl, bg] f71 f74 from (hKn.mono k76 sbA)).tr ((show hKn [lx, ly, lw, la, lq, le, xo, ez, eo, bu, nw0, na0, nq0, nr0, nw1, na1, nq1, nr1, bs, bp, bh, bf, bl, bg] f74 f77 from (hKn.mono k79 sbA)).tr (show hKn [lx, ly, lw, la, lq, le, xo, ez, eo, bu, nw0, na0, nq0, nr0, nw1, na1, nq1, nr1, bs, bp, bh, bf, bl, bg] f77 f80 from (hKn.mono k82 sbA)))))))⟩)
  · refine lv_iconst (v := 0) hx hb dL_links_170 (by decide) ?_
    refine lv_goto (tgt := 199) hx hb dL_links_171 (by decide) ?_
    refine lv_istore (lv' := [(14, .int 0), (13, .int (nI j13)), (12, .ref ly), (11, .int 8), (10, .int 1), (0, .ref xo), (1, .int (nI ac)), (2, .int u), (3, .int z), (4, .ref lx), (5, .ref ly), (6, .ref lw), (7, .ref la), (8, .ref lq), (9, .ref le)]) hx hb dL_links_199 hl9 (by decide) rfl (fun ls hl9 => ?_)
    refine lv_aload hx hb dL_links_201 (lv_at hl9 12 rfl) ?_
    refine lv_bipush (v := 6) hx hb dL_links_203 (by decide) ?_
    refine lv_iload hx hb dL_links_205 (lv_at hl9 4 rfl) ?_
    refine lv_imul hx hb dL_links_207 ?_
    refine hp_c (v := 6) (by decide) ?_
    refine lv_iload hx hb dL_links_208 (lv_at hl9 1 rfl) ?_
    refine lv_iadd hx hb dL_links_210 ?_
    refine hp_c (v := (nI (6 + j13))) (nI_add 6 j13) ?_
    refine hp_iald B0 hw k_la (vp_in_nI (show 6 + j13 < 12 by omega) (by omega)) dL_links_211 ?_
    refine hp_c (v := (ga1 j13)) ((by rw [nI_clamp (by omega)]; exact j6_1)) ?_
    refine lv_istore (lv' := [(15, .int (ga1 j13)), (14, .int 0), (13, .int (nI j13)), (12, .ref ly), (11, .int 8), (10, .int 1), (0, .ref xo), (1, .int (nI ac)), (2, .int u), (3, .int z), (4, .ref lx), (5, .ref ly), (6, .ref lw), (7, .ref la), (8, .ref lq), (9, .ref le)]) hx hb dL_links_212 hl9 (by decide) rfl (fun ls hl9 => ?_)
    refine lv_aload hx hb dL_links_214 (lv_at hl9 13 rfl) ?_
    refine lv_bipush (v := 6) hx hb dL_links_216 (by decide) ?_
    refine lv_iload hx hb dL_links_218 (lv_at hl9 5 rfl) ?_
    refine lv_imul hx hb dL_links_220 ?_
    refine hp_c (v := 6) (by decide) ?_
    refine lv_iload hx hb dL_links_221 (lv_at hl9 2 rfl) ?_
    refine lv_iadd hx hb dL_links_223 ?_
    refine hp_c (v := (nI (6 + j13))) (nI_add 6 j13) ?_
    refine lv_iload hx hb dL_links_224 (lv_at hl9 1 rfl) ?_
    refine hp_iast B0 hw hS k_la (vp_in_nI (show 6 + j13 < 12 by omega) (by omega)) dL_links_226 (fun H locs f113 ef113 hw hS => ?_)
    rw [show (upd (j6 ga0 ga1) ((nI (6 + j13)) : Int32).toNatClampNeg 0 : Nat → Int32) = (j6 ga0 (upd ga1 j13 0)) from (by rw [nI_clamp (by omega), j6_u1])] at ef113
    have h114 : f113 la = some (.inl (cI G, 12, .inl (j6 ga0 (upd ga1 j13 0)))) := by rw [ef113, va_up_self]
    refine lv_aload_n hx hb dL_links_227 rfl (lv_at hl9 6 rfl) ?_
    refine lv_iconst (v := (-1)) hx hb dL_links_228 (by decide) ?_
    refine lv_iload hx hb dL_links_229 (lv_at hl9 2 rfl) ?_
    refine lv_iconst (v := 0) hx hb dL_links_231 (by decide) ?_
    have h115 : f113 lx = some (.inl (cJ G, 64, .inr (.inl xs0))) := by rw [ef113, va_up_ne _ _ n_lx_la]; exact k_lx
    have h116 : f113 ly = some (.inl (cJ G, 64, .inr (.inl xs1))) := by rw [ef113, va_up_ne _ _ n_ly_la]; exact k_ly
    have h117 : f113 lw = some (.inl (cI G, 12, .inl (j6 gw0 gw1))) := by rw [ef113, va_up_ne _ _ n_lw_la]; exact k_lw
    have h118 : f113 lq = some (.inl (cI G, 12, .inl (j6 S0.2.2.2.2.2.2.2.1 S1.2.2.2.2.2.2.2.1))) := by rw [ef113, va_up_ne _ _ (Ne.symm n_la_lq)]; exact k_lq
    have h119 : f113 le = some (.inl (cI G, 16, .inl (jE (eS S0) (e8 S1.1 S1.2.1 S1.2.2.1 S1.2.2.2.1 S1.2.2.2.2.1 S1.2.2.2.2.2.1 S1.2.2.2.2.2.2.1 (nI S1.2.2.2.2.2.2.2.2.length))))) := by rw [ef113, va_up_ne _ _ (Ne.symm n_la_le)]; exact h1
    have hC120 : CXW G f113 xo ez eo bu nw0 na0 nq0 nr0 nw1 na1 nq1 nr1 bs bp bh bf bl bg S0 S1 gw0 ga0 gw1 ga1 n a cg x sa pk fl gv gh gl := CXW.eq hC (show hEq [lx, ly, lw, la, lq, le] f f113 from (by rw [ef113]; exact hEq.up (List.mem_cons_of_mem _ (List.mem_cons_of_mem _ (List.mem_cons_of_mem _ List.mem_cons_self))))) hdis (fun b9 hb9 => by
        simp only [List.mem_cons, List.not_mem_nil, or_false] at hb9
        rcases hb9 with hb9 | hb9 | hb9 | hb9 | hb9 | hb9
        · rw [hb9]; exact ⟨_, _, k_lx, h115, (Nat.ne_of_beq_eq_false rfl), (Nat.ne_of_beq_eq_false rfl)⟩
        · rw [hb9]; exact ⟨_, _, k_ly, h116, (Nat.ne_of_beq_eq_false rfl), (Nat.ne_of_beq_eq_false rfl)⟩
        · rw [hb9]; exact ⟨_, _, k_lw, h117, (Nat.ne_of_beq_eq_false rfl), (Nat.ne_of_beq_eq_false rfl)⟩
        · rw [hb9]; exact ⟨_, _, k_la, h114, (Nat.ne_of_beq_eq_false rfl), (Nat.ne_of_beq_eq_false rfl)⟩
        · rw [hb9]; exact ⟨_, _, k_lq, h118, (Nat.ne_of_beq_eq_false rfl), (Nat.ne_of_beq_eq_false rfl)⟩
        · rw [hb9]; exact ⟨_, _, h1, h119, (Nat.ne_of_beq_eq_false rfl), (Nat.ne_of_beq_eq_false rfl)⟩)
    refine hp_SH (As := [.ref xo, .int (-1), .int (nI j13), .int 0]) (rest := []) B0 hw hS (c_V_allow_E hl G f113 xo ez eo bu nw0 na0 nq0 nr0 nw1 na1 nq1 nr1 bs bp bh bf bl bg S0 S1 gw0 ga0 gw1 ga1 n a cg x sa pk fl gv gh gl hC120 (Nat.lt_of_le_of_lt hl0 (by decide)) (Nat.lt_of_le_of_lt hl1 (by decide)) (-1) (nI j13) 0 (by decide)) mH_L_allow qM_L_100 rfl rfl hl9.1 (Nat.le_of_ble_eq_true rfl) ⟨⟨Nat.le_of_ble_eq_true rfl, Nat.le_of_ble_eq_true rfl⟩, Nat.le_of_ble_eq_true rfl, Nat.le_of_ble_eq_true rfl⟩ dL_links_232 (fun E ce q9 f121 H locs hPX hw hS hce hcv hcl => ?_) (fun v f121 H locs hP hw hS => ?_)
    · exact hPX.elim
    · obtain ⟨ev9, hC122, k123⟩ := hP
      subst ev9
      have hC122 : CXW G f121 xo ez eo bu nw0 na0 nq0 nr0 nw1 na1 nq1 nr1 bs bp bh bf bl bg S0 S1 gw0 ga0 gw1 ga1 n a cg x sa pk fl gv gh gl := hC122
      refine W.eq (g2 := F0 m 235 ls [.int (-71)]) rfl ?_
      refine lv_bipush (v := (-71)) hx hb dL_links_235 (by decide) ?_
      refine lv_icmp_ne (tgt := 302) hx hb dL_links_237 (by decide) (fun c9 => absurd (by decide) c9) (fun _ => ?_)
      refine lv_aload_n hx hb dL_links_240 rfl (lv_at hl9 6 rfl) ?_
      refine lv_iload hx hb dL_links_241 (lv_at hl9 5 rfl) ?_
      refine lv_iconst (v := (-1)) hx hb dL_links_243 (by decide) ?_
      refine lv_iconst (v := 0) hx hb dL_links_244 (by decide) ?_
      refine hp_SH (As := [.ref xo, .int 1, .int (-1), .int 0]) (rest := []) B0 hw hS (c_V_allow_O1 hl G f121 xo ez eo bu nw0 na0 nq0 nr0 nw1 na1 nq1 nr1 bs bp bh bf bl bg S0 S1 gw0 ga0 gw1 ga1 n a cg x sa pk fl gv gh gl hC122 (Nat.lt_of_le_of_lt hl0 (by decide)) (Nat.lt_of_le_of_lt hl1 (by decide)) (-1) 0 (by decide)) mH_L_allow qM_L_100 rfl rfl hl9.1 (Nat.le_of_ble_eq_true rfl) ⟨⟨Nat.le_of_ble_eq_true rfl, Nat.le_of_ble_eq_true rfl⟩, Nat.le_of_ble_eq_true rfl, Nat.le_of_ble_eq_true rfl⟩ dL_links_245 (fun E ce q9 f124 H locs hPX hw hS hce hcv hcl => ?_) (fun v f124 H locs hP hw hS => ?_)
      · exact hPX.elim
      · obtain ⟨ev9, hC125, k126⟩ := hP
        subst ev9
        have hC125 : CXW G f124 xo ez eo bu nw0 na0 nq0 nr0 nw1 na1 nq1 nr1 bs bp bh bf bl bg S0 S1 gw0 ga0 gw1 ga1 n a cg x sa pk fl gv gh gl := hC125
        refine W.eq (g2 := F0 m 248 ls [.int (-71)]) rfl ?_
        refine lv_bipush (v := (-71)) hx hb dL_links_248 (by decide) ?_
        refine lv_icmp_ne (tgt := 302) hx hb dL_links_250 (by decide) (fun c9 => absurd (by decide) c9) (fun _ => ?_)
        refine lv_aload_n hx hb dL_links_253 rfl (lv_at hl9 6 rfl) ?_
        refine lv_iload hx hb dL_links_254 (lv_at hl9 5 rfl) ?_
        refine lv_iload hx hb dL_links_256 (lv_at hl9 2 rfl) ?_
        refine lv_sipush (v := 1024) hx hb dL_links_258 (by decide) ?_
        refine hp_SH (As := [.ref xo, .int 1, .int (nI j13), .int 1024]) (rest := []) B0 hw hS (c_V_allow_V1 hl G f124 xo ez eo bu nw0 na0 nq0 nr0 nw1 na1 nq1 nr1 bs bp bh bf bl bg S0 S1 gw0 ga0 gw1 ga1 n a cg x sa pk fl gv gh gl hC125 (Nat.lt_of_le_of_lt hl0 (by decide)) (Nat.lt_of_le_of_lt hl1 (by decide)) j13 (by omega) 1024 (by decide)) mH_L_allow qM_L_100 rfl rfl hl9.1 (Nat.le_of_ble_eq_true rfl) ⟨⟨Nat.le_of_ble_eq_true rfl, Nat.le_of_ble_eq_true rfl⟩, Nat.le_of_ble_eq_true rfl, Nat.le_of_ble_eq_true rfl⟩ dL_links_261 (fun E ce q9 f127 H locs hPX hw hS hce hcv hcl => ?_) (fun v f127 H locs hP hw hS => ?_)
        · exact hPX.elim
        · obtain ⟨ev9, hC128, k129⟩ := hP
          subst ev9
          have hC128 : CXW G f127 xo ez eo bu nw0 na0 nq0 nr0 nw1 na1 nq1 nr1 bs bp bh bf bl bg S0 S1 gw0 ga0 gw1 ga1 n a cg x sa pk fl gv gh gl := hC128
          refine W.eq (g2 := F0 m 264 ls [.int (-72)]) rfl ?_
          refine lv_bipush (v := (-72)) hx hb dL_links_264 (by decide) ?_
          refine lv_icmp_ne (tgt := 302) hx hb dL_links_266 (by decide) (fun c9 => absurd (by decide) c9) (fun _ => ?_)
          refine lv_aload_n hx hb dL_links_269 rfl (lv_at hl9 6 rfl) ?_
          refine lv_iload hx hb dL_links_270 (lv_at hl9 5 rfl) ?_
          refine lv_iload hx hb dL_links_272 (lv_at hl9 2 rfl) ?_
          refine lv_iconst (v := (-1)) hx hb dL_links_274 (by decide) ?_
          refine hp_SH (As := [.ref xo, .int 1, .int (nI j13), .int (-1)]) (rest := []) B0 hw hS (c_V_allow_V1 hl G f127 xo ez eo bu nw0 na0 nq0 nr0 nw1 na1 nq1 nr1 bs bp bh bf bl bg S0 S1 gw0 ga0 gw1 ga1 n a cg x sa pk fl gv gh gl hC128 (Nat.lt_of_le_of_lt hl0 (by decide)) (Nat.lt_of_le_of_lt hl1 (by decide)) j13 (by omega) (-1) (by decide)) mH_L_allow qM_L_100 rfl rfl hl9.1 (Nat.le_of_ble_eq_true rfl) ⟨⟨Nat.le_of_ble_eq_true rfl, Nat.le_of_ble_eq_true rfl⟩, Nat.le_of_ble_eq_true rfl, Nat.le_of_ble_eq_true rfl⟩ dL_links_275 (fun E ce q9 f130 H locs hPX hw hS hce hcv hcl => ?_) (fun v f130 H locs hP hw hS => ?_)
          · exact hPX.elim
          · obtain ⟨ev9, hC131, k132⟩ := hP
            subst ev9
            have hC131 : CXW G f130 xo ez eo bu nw0 na0 nq0 nr0 nw1 na1 nq1 nr1 bs bp bh bf bl bg S0 S1 gw0 ga0 gw1 ga1 n a cg x sa pk fl gv gh gl := hC131
            refine W.eq (g2 := F0 m 278 ls [.int (-72)]) rfl ?_
            refine lv_bipush (v := (-72)) hx hb dL_links_278 (by decide) ?_
            refine lv_icmp_ne (tgt := 302) hx hb dL_links_280 (by decide) (fun c9 => absurd (by decide) c9) (fun _ => ?_)
            refine lv_aload_n hx hb dL_links_283 rfl (lv_at hl9 6 rfl) ?_
            refine lv_iload hx hb dL_links_284 (lv_at hl9 5 rfl) ?_
            refine lv_iload hx hb dL_links_286 (lv_at hl9 2 rfl) ?_
            refine lv_iload hx hb dL_links_288 (lv_at hl9 1 rfl) ?_
            refine hp_SH (As := [.ref xo, .int 1, .int (nI j13), .int 0]) (rest := []) B0 hw hS (c_V_allow_1 hl G f130 xo ez eo bu nw0 na0 nq0 nr0 nw1 na1 nq1 nr1 bs bp bh bf bl bg S0 S1 gw0 ga0 gw1 ga1 n a cg x sa pk fl gv gh gl hC131 (Nat.lt_of_le_of_lt hl0 (by decide)) (Nat.lt_of_le_of_lt hl1 (by decide)) j13 (by omega) 0 (by unfold AOK; decide)) mH_L_allow qM_L_100 rfl rfl hl9.1 (Nat.le_of_ble_eq_true rfl) ⟨⟨Nat.le_of_ble_eq_true rfl, Nat.le_of_ble_eq_true rfl⟩, Nat.le_of_ble_eq_true rfl, Nat.le_of_ble_eq_true rfl⟩ dL_links_290 (fun E ce q9 f133 H locs hPX hw hS hce hcv hcl => ?_) (fun v f133 H locs hP hw hS => ?_)
            · exact hPX.elim
            · obtain ⟨ev9, hC134, k135⟩ := hP
              subst ev9
              have hC134 : CXW G f133 xo ez eo bu nw0 na0 nq0 nr0 nw1 na1 nq1 nr1 bs bp bh bf bl bg S0 S1 gw0 ga0 gw1 (upd ga1 j13 0) n a cg x sa pk fl gv gh gl := hC134
              refine W.eq (g2 := F0 m 293 ls [.int ((ga1 j13))]) rfl ?_
              refine lv_iload hx hb dL_links_293 (lv_at hl9 0 rfl) ?_
              refine lv_icmp_ne (tgt := 302) hx hb dL_links_295 (by decide) (fun c9 => absurd rfl c9) (fun _ => ?_)
              refine lv_iconst (v := 1) hx hb dL_links_298 (by decide) ?_
              refine lv_goto (tgt := 303) hx hb dL_links_299 (by decide) ?_
              have h136 : f121 lx = some (.inl (cJ G, 64, .inr (.inl xs0))) := k123 _ _ h115 (Nat.ne_of_beq_eq_false rfl) (hdos _ List.mem_cons_self)
              have h137 : f124 lx = some (.inl (cJ G, 64, .inr (.inl xs0))) := k126 _ _ h136 (Nat.ne_of_beq_eq_false rfl) (hdos _ List.mem_cons_self)
              have h138 : f127 lx = some (.inl (cJ G, 64, .inr (.inl xs0))) := k129 _ _ h137 (Nat.ne_of_beq_eq_false rfl) (hdos _ List.mem_cons_self)
              have h139 : f130 lx = some (.inl (cJ G, 64, .inr (.inl xs0))) := k132 _ _ h138 (Nat.ne_of_beq_eq_false rfl) (hdos _ List.mem_cons_self)
              have h140 : f133 lx = some (.inl (cJ G, 64, .inr (.inl xs0))) := k135 _ _ h139 (Nat.ne_of_beq_eq_false rfl) (hdos _ List.mem_cons_self)
              have h141 : f121 ly = some (.inl (cJ G, 64, .inr (.inl xs1))) := k123 _ _ h116 (Nat.ne_of_beq_eq_false rfl) (hdos _ (List.mem_cons_of_mem _ List.mem_cons_self))
              have h142 : f124 ly = some (.inl (cJ G, 64, .inr (.inl xs1))) := k126 _ _ h141 (Nat.ne_of_beq_eq_false rfl) (hdos _ (List.mem_cons_of_mem _ List.mem_cons_self))
              have h143 : f127 ly = some (.inl (cJ G, 64, .inr (.inl xs1))) := k129 _ _ h142 (Nat.ne_of_beq_eq_false rfl) (hdos _ (List.mem_cons_of_mem _ List.mem_cons_self))
              have h144 : f130 ly = some (.inl (cJ G, 64, .inr (.inl xs1))) := k132 _ _ h143 (Nat.ne_of_beq_eq_false rfl) (hdos _ (List.mem_cons_of_mem _ List.mem_cons_self))
              have h145 : f133 ly = some (.inl (cJ G, 64, .inr (.inl xs1))) := k135 _ _ h144 (Nat.ne_of_beq_eq_false rfl) (hdos _ (List.mem_cons_of_mem _ List.mem_cons_self))
              have h146 : f121 lw = some (.inl (cI G, 12, .inl (j6 gw0 gw1))) := k123 _ _ h117 (Nat.ne_of_beq_eq_false rfl) (hdos _ (List.mem_cons_of_mem _ (List.mem_cons_of_mem _ List.mem_cons_self)))
              have h147 : f124 lw = some (.inl (cI G, 12, .inl (j6 gw0 gw1))) := k126 _ _ h146 (Nat.ne_of_beq_eq_false rfl) (hdos _ (List.mem_cons_of_mem _ (List.mem_cons_of_mem _ List.mem_cons_self)))
              have h148 : f127 lw = some (.inl (cI G, 12, .inl (j6 gw0 gw1))) := k129 _ _ h147 (Nat.ne_of_beq_eq_false rfl) (hdos _ (List.mem_cons_of_mem _ (List.mem_cons_of_mem _ List.mem_cons_self)))
              have h149 : f130 lw = some (.inl (cI G, 12, .inl (j6 gw0 gw1))) := k132 _ _ h148 (Nat.ne_of_beq_eq_false rfl) (hdos _ (List.mem_cons_of_mem _ (List.mem_cons_of_mem _ List.mem_cons_self)))
              have h150 : f133 lw = some (.inl (cI G, 12, .inl (j6 gw0 gw1))) := k135 _ _ h149 (Nat.ne_of_beq_eq_false rfl) (hdos _ (List.mem_cons_of_mem _ (List.mem_cons_of_mem _ List.mem_cons_self)))
              have h151 : f121 la = some (.inl (cI G, 12, .inl (j6 ga0 (upd ga1 j13 0)))) := k123 _ _ h114 (Nat.ne_of_beq_eq_false rfl) (hdos _ (List.mem_cons_of_mem _ (List.mem_cons_of_mem _ (List.mem_cons_of_mem _ List.mem_cons_self))))
              have h152 : f124 la = some (.inl (cI G, 12, .inl (j6 ga0 (upd ga1 j13 0)))) := k126 _ _ h151 (Nat.ne_of_beq_eq_false rfl) (hdos _ (List.mem_cons_of_mem _ (List.mem_cons_of_mem _ (List.mem_cons_of_mem _ List.mem_cons_self))))
              have h153 : f127 la = some (.inl (cI G, 12, .inl (j6 ga0 (upd ga1 j13 0)))) := k129 _ _ h152 (Nat.ne_of_beq_eq_false rfl) (hdos _ (List.mem_cons_of_mem _ (List.mem_cons_of_mem _ (List.mem_cons_of_mem _ List.mem_cons_self))))
              have h154 : f130 la = some (.inl (cI G, 12, .inl (j6 ga0 (upd ga1 j13 0)))) := k132 _ _ h153 (Nat.ne_of_beq_eq_false rfl) (hdos _ (List.mem_cons_of_mem _ (List.mem_cons_of_mem _ (List.mem_cons_of_mem _ List.mem_cons_self))))
              have h155 : f133 la = some (.inl (cI G, 12, .inl (j6 ga0 (upd ga1 j13 0)))) := k135 _ _ h154 (Nat.ne_of_beq_eq_false rfl) (hdos _ (List.mem_cons_of_mem _ (List.mem_cons_of_mem _ (List.mem_cons_of_mem _ List.mem_cons_self))))
              have h156 : f121 lq = some (.inl (cI G, 12, .inl (j6 S0.2.2.2.2.2.2.2.1 S1.2.2.2.2.2.2.2.1))) := k123 _ _ h118 (Nat.ne_of_beq_eq_false rfl) (hdos _ (List.mem_cons_of_mem _ (List.mem_cons_of_mem _ (List.mem_cons_of_mem _ (List.mem_cons_of_mem _ List.mem_cons_self)))))
              have h157 : f124 lq = some (.inl (cI G, 12, .inl (j6 S0.2.2.2.2.2.2.2.1 S1.2.2.2.2.2.2.2.1))) := k126 _ _ h156 (Nat.ne_of_beq_eq_false rfl) (hdos _ (List.mem_cons_of_mem _ (List.mem_cons_of_mem _ (List.mem_cons_of_mem _ (List.mem_cons_of_mem _ List.mem_cons_self)))))
              have h158 : f127 lq = some (.inl (cI G, 12, .inl (j6 S0.2.2.2.2.2.2.2.1 S1.2.2.2.2.2.2.2.1))) := k129 _ _ h157 (Nat.ne_of_beq_eq_false rfl) (hdos _ (List.mem_cons_of_mem _ (List.mem_cons_of_mem _ (List.mem_cons_of_mem _ (List.mem_cons_of_mem _ List.mem_cons_self)))))
              have h159 : f130 lq = some (.inl (cI G, 12, .inl (j6 S0.2.2.2.2.2.2.2.1 S1.2.2.2.2.2.2.2.1))) := k132 _ _ h158 (Nat.ne_of_beq_eq_false rfl) (hdos _ (List.mem_cons_of_mem _ (List.mem_cons_of_mem _ (List.mem_cons_of_mem _ (List.mem_cons_of_mem _ List.mem_cons_self)))))
              have h160 : f133 lq = some (.inl (cI G, 12, .inl (j6 S0.2.2.2.2.2.2.2.1 S1.2.2.2.2.2.2.2.1))) := k135 _ _ h159 (Nat.ne_of_beq_eq_false rfl) (hdos _ (List.mem_cons_of_mem _ (List.mem_cons_of_mem _ (List.mem_cons_of_mem _ (List.mem_cons_of_mem _ List.mem_cons_self)))))
              have h161 : f121 le = some (.inl (cI G, 16, .inl (jE (eS S0) (e8 S1.1 S1.2.1 S1.2.2.1 S1.2.2.2.1 S1.2.2.2.2.1 S1.2.2.2.2.2.1 S1.2.2.2.2.2.2.1 (nI S1.2.2.2.2.2.2.2.2.length))))) := k123 _ _ h119 (Nat.ne_of_beq_eq_false rfl) (hdos _ (List.mem_cons_of_mem _ (List.mem_cons_of_mem _ (List.mem_cons_of_mem _ (List.mem_cons_of_mem _ (List.mem_cons_of_mem _ List.mem_cons_self))))))
              have h162 : f124 le = some (.inl (cI G, 16, .inl (jE (eS S0) (e8 S1.1 S1.2.1 S1.2.2.1 S1.2.2.2.1 S1.2.2.2.2.1 S1.2.2.2.2.2.1 S1.2.2.2.2.2.2.1 (nI S1.2.2.2.2.2.2.2.2.length))))) := k126 _ _ h161 (Nat.ne_of_beq_eq_false rfl) (hdos _ (List.mem_cons_of_mem _ (List.mem_cons_of_mem _ (List.mem_cons_of_mem _ (List.mem_cons_of_mem _ (List.mem_cons_of_mem _ List.mem_cons_self))))))
              have h163 : f127 le = some (.inl (cI G, 16, .inl (jE (eS S0) (e8 S1.1 S1.2.1 S1.2.2.1 S1.2.2.2.1 S1.2.2.2.2.1 S1.2.2.2.2.2.1 S1.2.2.2.2.2.2.1 (nI S1.2.2.2.2.2.2.2.2.length))))) := k129 _ _ h162 (Nat.ne_of_beq_eq_false rfl) (hdos _ (List.mem_cons_of_mem _ (List.mem_cons_of_mem _ (List.mem_cons_of_mem _ (List.mem_cons_of_mem _ (List.mem_cons_of_mem _ List.mem_cons_self))))))
              have h164 : f130 le = some (.inl (cI G, 16, .inl (jE (eS S0) (e8 S1.1 S1.2.1 S1.2.2.1 S1.2.2.2.1 S1.2.2.2.2.1 S1.2.2.2.2.2.1 S1.2.2.2.2.2.2.1 (nI S1.2.2.2.2.2.2.2.2.length))))) := k132 _ _ h163 (Nat.ne_of_beq_eq_false rfl) (hdos _ (List.mem_cons_of_mem _ (List.mem_cons_of_mem _ (List.mem_cons_of_mem _ (List.mem_cons_of_mem _ (List.mem_cons_of_mem _ List.mem_cons_self))))))
              have h165 : f133 le = some (.inl (cI G, 16, .inl (jE (eS S0) (e8 S1.1 S1.2.1 S1.2.2.1 S1.2.2.2.1 S1.2.2.2.2.1 S1.2.2.2.2.2.1 S1.2.2.2.2.2.2.1 (nI S1.2.2.2.2.2.2.2.2.length))))) := k135 _ _ h164 (Nat.ne_of_beq_eq_false rfl) (hdos _ (List.mem_cons_of_mem _ (List.mem_cons_of_mem _ (List.mem_cons_of_mem _ (List.mem_cons_of_mem _ (List.mem_cons_of_mem _ List.mem_cons_self))))))
              exact hp_zret (v := 1) B0 hw hS hr ⟨Nat.le_of_ble_eq_true rfl, Nat.le_of_ble_eq_true rfl⟩ (rfl) dL_links_303 (⟨rfl, S0, S1, gw0, ga0, gw1, (upd ga1 j13 0), hC134, ⟨⟨_, h140, hX0⟩, ⟨_, h145, hX1⟩, h150, h155, h160, h165⟩, ⟨SOK.mono hSo0 (by omega), SOK.mono hSo1 (by omega), hgw0, hga0, hgw1, (AOK_upd hga1 (by unfold AOK; decide))⟩, hl0, hl1, ((show hKn [lx, ly, lw, la, lq, le, xo, ez, eo, bu, nw0, na0, nq0, nr0, nw1, na1, nq1, nr1, bs, bp, bh, bf, bl, bg] f f113 from (by rw [ef113]; exact hKn.up (List.mem_cons_of_mem _ (List.mem_cons_of_mem _ (List.mem_cons_of_mem _ List.mem_cons_self))))).tr ((show hKn [lx, ly, lw, la, lq, le, xo, ez, eo, bu, nw0, na0, nq0, nr0, nw1, na1, nq1, nr1, bs, bp, bh, bf, bl, bg] f113 f121 from (hKn.mono k123 sbA)).tr ((show hKn [lx, ly, lw, la, lq, le, xo, ez, eo, bu, nw0, na0, nq0, nr0, nw1, na1, nq1, nr1, bs, bp, bh, bf, bl, bg] f121 f124 from (hKn.mono k126 sbA)).tr ((show hKn [lx, ly, lw, la, lq, le, xo, ez, eo, bu, nw0, na0, nq0, nr0, nw1, na1, nq1, nr1, bs, bp, bh, bf, bl, bg] f124 f127 from (hKn.mono k129 sbA)).tr ((show hKn [lx, ly, lw, la, lq, le, xo, ez, eo, bu, nw0, na0, nq0, nr0, nw1, na1, nq1, nr1, bs, bp, bh, bf, bl, bg] f127 f130 from (hKn.mono k132 sbA)).tr (show hKn [lx, ly, lw, la, lq, le, xo, ez, eo, bu, nw0, na0, nq0, nr0, nw1, na1, nq1, nr1, bs, bp, bh, bf, bl, bg] f130 f133 from (hKn.mono k135 sbA)))))))⟩)

set_option maxHeartbeats 4000000 in
set_option maxRecDepth 100000 in
theorem lk_m_0 {l : Launch} (hl : l.stackTraces = false) (G : hG) (f : hM) (xo ez eo bu nw0 na0 nq0 nr0 nw1 na1 nq1 nr1 bs bp bh bf bl bg : Nat) (S0 : ES) (S1 : ES) (gw0 : Nat → Int32) (ga0 : Nat → Int32) (gw1 : Nat → Int32) (ga1 : Nat → Int32) (n : Nat) (a : Nat) (cg : Nat) (x : Nat) (sa : Nat → Nat) (pk : Nat → Nat) (fl : Nat → Nat) (gv : Nat → Nat) (gh : Nat → Int32) (gl : Nat → Int32) (hC : CXW G f xo ez eo bu nw0 na0 nq0 nr0 nw1 na1 nq1 nr1 bs bp bh bf bl bg S0 S1 gw0 ga0 gw1 ga1 n a cg x sa pk fl gv gh gl) (lx ly lw la lq le : Nat) (hdis : ∀ p, p ∈ [xo, ez, eo, bu, nw0, na0, nq0, nr0, nw1, na1, nq1, nr1, bs, bp, bh, bf, bl, bg] → p ∉ [lx, ly, lw, la, lq, le]) (hdos : ∀ p, p ∈ [lx, ly, lw, la, lq, le] → p ∉ [xo, ez, eo, bu, nw0, na0, nq0, nr0, nw1, na1, nq1, nr1, bs, bp, bh, bf, bl, bg]) (n_lx_ly : lx ≠ ly) (n_lw_la : lw ≠ la) (n_lw_lq : lw ≠ lq) (n_la_lq : la ≠ lq) (hLX : LX G f lx ly lw la lq le S0 S1 gw0 ga0 gw1 ga1) (b : Nat) (hInv : INV b S0 S1 gw0 ga0 gw1 ga1) (hbb : b + 200 ≤ 1000000) (hl0 : S0.2.2.2.2.2.2.2.2.length ≤ 52) (hl1 : S1.2.2.2.2.2.2.2.2.length ≤ 52) (ac : Nat) (hac : ac < 24) (hact : ac ≠ 22 → S0.2.2.2.2.2.2.2.2.length ≤ 40 ∧ S1.2.2.2.2.2.2.2.2.length ≤ 40) (u z : Int32) {p : Program} {e : Env} {s : State} {m : MethodId} {args : Array Value} {below : List Frame} {meth : Method} {c : Code} (B0 : hB p l s m args meth c cL_links 17 RL G) (hr : meth.sig.returnType = some .boolean) {H : Heap} {locs : List Loc} {ls : Array Slot} (hw : hW G f H) (hS : va_S (hFr G) s.heap H locs) (j13 : Nat) (hj13 : j13 < 6) (hl9 : lv_has ls 17 [(13, .int (nI j13)), (12, .ref lx), (11, .int 0), (10, .int 0), (0, .ref xo), (1, .int (nI ac)), (2, .int u), (3, .int z), (4, .ref lx), (5, .ref ly), (6, .ref lw), (7, .ref la), (8, .ref lq), (9, .ref le)]) : W p l e { frames := 9, cells := 203, slots := 1118, locals := 178 } s m args below meth c H locs 0 0 (vx_MQ below (hQ G (fun v f1 => v = some (.int 1) ∧ ∃ (S2 S3 : ES) (w0 a0 w1 a1 : Nat → Int32), CXW G f1 xo ez eo bu nw0 na0 nq0 nr0 nw1 na1 nq1 nr1 bs bp bh bf bl bg S2 S3 w0 a0 w1 a1 n a cg x sa pk fl gv gh gl ∧ LX G f1 lx ly lw la lq le S2 S3 w0 a0 w1 a1 ∧ INV (b + 100) S2 S3 w0 a0 w1 a1 ∧ S2.2.2.2.2.2.2.2.2.length ≤ 52 ∧ S3.2.2.2.2.2.2.2.2.length ≤ 52 ∧ hKn [lx, ly, lw, la, lq, le, xo, ez, eo, bu, nw0, na0, nq0, nr0, nw1, na1, nq1, nr1, bs, bp, bh, bf, bl, bg] f f1)) (hX G (fun E f1 => False)) args s 203 1118 (hFr G)) (F0 m 310 ls []) := by
  have hx := B0.1
  have hb := B0.2.1
  obtain ⟨⟨xs0, k_lx, hX0⟩, ⟨xs1, k_ly, hX1⟩, k_lw, k_la, k_lq, k_le⟩ := hLX
  obtain ⟨hSo0, hSo1, hgw0, hga0, hgw1, hga1⟩ := id hInv
  have n_lx_lw : lx ≠ lw := hneL k_lx k_lw (Nat.ne_of_beq_eq_false rfl)
  have n_lx_la : lx ≠ la := hneL k_lx k_la (Nat.ne_of_beq_eq_false rfl)
  have n_lx_lq : lx ≠ lq := hneL k_lx k_lq (Nat.ne_of_beq_eq_false rfl)
  have n_lx_le : lx ≠ le := hneL k_lx k_le (Nat.ne_of_beq_eq_false rfl)
  have n_ly_lw : ly ≠ lw := hneL k_ly k_lw (Nat.ne_of_beq_eq_false rfl)
  have n_ly_la : ly ≠ la := hneL k_ly k_la (Nat.ne_of_beq_eq_false rfl)
  have n_ly_lq : ly ≠ lq := hneL k_ly k_lq (Nat.ne_of_beq_eq_false rfl)
  have n_ly_le : ly ≠ le := hneL k_ly k_le (Nat.ne_of_beq_eq_false rfl)
  have n_lw_le : lw ≠ le := hneL k_lw k_le (Nat.ne_of_beq_eq_false rfl)
  have n_la_le : la ≠ le := hneL k_la k_le (Nat.ne_of_beq_eq_false rfl)
  have n_lq_le : lq ≠ le := hneL k_lq k_le (Nat.ne_of_beq_eq_false rfl)
  have sbA : ∀ x9, x9 ∈ [xo, ez, eo, bu, nw0, na0, nq0, nr0, nw1, na1, nq1, nr1, bs, bp, bh, bf, bl, bg] → x9 ∈ [lx, ly, lw, la, lq, le, xo, ez, eo, bu, nw0, na0, nq0, nr0, nw1, na1, nq1, nr1, bs, bp, bh, bf, bl, bg] := sbA
  obtain ⟨xx, hxx, hx4⟩ := hSo0.2.2.2.2.1
  have h1 : f le = some (.inl (cI G, 16, .inl (jE (e8 S0.1 S0.2.1 S0.2.2.1 S0.2.2.2.1 S0.2.2.2.2.1 S0.2.2.2.2.2.1 S0.2.2.2.2.2.2.1 (nI S0.2.2.2.2.2.2.2.2.length)) (eS S1)))) := k_le
  refine lv_iload_n hx hb dL_links_310 rfl (lv_at hl9 6 rfl) ?_
  refine lv_bipush (v := 48) hx hb dL_links_311 (by decide) ?_
  refine lv_iand hx hb dL_links_313 ?_
  refine lv_if_ne (tgt := 325) hx hb dL_links_314 (by decide) (fun c2 => ?_) (fun c2 => ?_)
  · refine lv_iload hx hb dL_links_325 (lv_at hl9 3 rfl) ?_
    refine lv_istore (lv' := [(14, .int 0), (13, .int (nI j13)), (12, .ref lx), (11, .int 0), (10, .int 0), (0, .ref xo), (1, .int (nI ac)), (2, .int u), (3, .int z), (4, .ref lx), (5, .ref ly), (6, .ref lw), (7, .ref la), (8, .ref lq), (9, .ref le)]) hx hb dL_links_327 hl9 (by decide) rfl (fun ls hl9 => ?_)
    refine lv_aload hx hb dL_links_329 (lv_at hl9 14 rfl) ?_
    refine lv_iload hx hb dL_links_331 (lv_at hl9 3 rfl) ?_
    refine lv_bipush (v := 6) hx hb dL_links_333 (by decide) ?_
    refine lv_iadd hx hb dL_links_335 ?_
    refine hp_c (v := 6) (by decide) ?_
    refine hp_iald B0 hw h1 (by unfold vp_in; decide) dL_links_336 ?_
    refine hp_c (v := (nI xx)) (hxx) ?_
    refine hp_S (As := [.int (nI xx)]) (rest := []) B0 hw hS (c_L_number hl G f xx (by omega)) mS_L_number qM_L_83 rfl rfl hl9.1 (Nat.le_of_ble_eq_true rfl) ⟨⟨Nat.le_of_ble_eq_true rfl, Nat.le_of_ble_eq_true rfl⟩, Nat.le_of_ble_eq_true rfl, Nat.le_of_ble_eq_true rfl⟩ dL_links_337 (fun E ce q9 f3 H locs hPX hw hS hce hcv hcl => ?_) (fun v f3 H locs hP hw hS => ?_)
    · exact hPX.elim
    · obtain ⟨ef9, ev9⟩ := hP
      rw [ef9] at hw
      rw [← hxx] at ev9
      subst ev9
      refine W.eq (g2 := F0 m 340 ls [.int (num S0.2.2.2.2.2.2.1)]) rfl ?_
      refine lv_istore (lv' := [(15, .int (num S0.2.2.2.2.2.2.1)), (14, .int 0), (13, .int (nI j13)), (12, .ref lx), (11, .int 0), (10, .int 0), (0, .ref xo), (1, .int (nI ac)), (2, .int u), (3, .int z), (4, .ref lx), (5, .ref ly), (6, .ref lw), (7, .ref la), (8, .ref lq), (9, .ref le)]) hx hb dL_links_340 hl9 (by decide) rfl (fun ls hl9 => ?_)
      refine lv_aload hx hb dL_links_342 (lv_at hl9 15 rfl) ?_
      refine lv_iload hx hb dL_links_344 (lv_at hl9 4 rfl) ?_
      refine lv_bipush (v := 6) hx hb dL_links_346 (by decide) ?_
      refine lv_iadd hx hb dL_links_348 ?_
      refine hp_c (v := 6) (by decide) ?_
      refine lv_iload hx hb dL_links_349 (lv_at hl9 1 rfl) ?_
      refine hp_iast B0 hw hS h1 (by unfold vp_in; decide) dL_links_351 (fun H locs f4 ef4 hw hS => ?_)
      rw [show (upd (jE (e8 S0.1 S0.2.1 S0.2.2.1 S0.2.2.2.1 S0.2.2.2.2.1 S0.2.2.2.2.2.1 S0.2.2.2.2.2.2.1 (nI S0.2.2.2.2.2.2.2.2.length)) (eS S1)) (6 : Int32).toNatClampNeg 0 : Nat → Int32) = (jE (e8 S0.1 S0.2.1 S0.2.2.1 S0.2.2.2.1 S0.2.2.2.2.1 S0.2.2.2.2.2.1 0 (nI S0.2.2.2.2.2.2.2.2.length)) (eS S1)) from (by rw [show (6 : Int32).toNatClampNeg = 6 from rfl, jE_u0 (by omega), e8_u6])] at ef4
      have h5 : f4 le = some (.inl (cI G, 16, .inl (jE (e8 S0.1 S0.2.1 S0.2.2.1 S0.2.2.2.1 S0.2.2.2.2.1 S0.2.2.2.2.2.1 0 (nI S0.2.2.2.2.2.2.2.2.length)) (eS S1)))) := by rw [ef4, va_up_self]
      have h6 : f4 le = some (.inl (cI G, 16, .inl (jE (e8 ((ixS S0 (nI 0)).1) ((ixS S0 (nI 0)).2.1) ((ixS S0 (nI 0)).2.2.1) ((ixS S0 (nI 0)).2.2.2.1) ((ixS S0 (nI 0)).2.2.2.2.1) ((ixS S0 (nI 0)).2.2.2.2.2.1) ((ixS S0 (nI 0)).2.2.2.2.2.2.1) (nI (ixS S0 (nI 0)).2.2.2.2.2.2.2.2.length)) (eS S1)))) := h5
      refine lv_aload_n hx hb dL_links_352 rfl (lv_at hl9 6 rfl) ?_
      refine lv_iconst (v := 2) hx hb dL_links_353 (by decide) ?_
      refine lv_iconst (v := 5) hx hb dL_links_354 (by decide) ?_
      refine lv_iconst (v := 5) hx hb dL_links_355 (by decide) ?_
      have h7 : f4 lx = some (.inl (cJ G, 64, .inr (.inl xs0))) := by rw [ef4, va_up_ne _ _ n_lx_le]; exact k_lx
      have h8 : f4 ly = some (.inl (cJ G, 64, .inr (.inl xs1))) := by rw [ef4, va_up_ne _ _ n_ly_le]; exact k_ly
      have h9 : f4 lw = some (.inl (cI G, 12, .inl (j6 gw0 gw1))) := by rw [ef4, va_up_ne _ _ n_lw_le]; exact k_lw
      have h10 : f4 la = some (.inl (cI G, 12, .inl (j6 ga0 ga1))) := by rw [ef4, va_up_ne _ _ n_la_le]; exact k_la
      have h11 : f4 lq = some (.inl (cI G, 12, .inl (j6 S0.2.2.2.2.2.2.2.1 S1.2.2.2.2.2.2.2.1))) := by rw [ef4, va_up_ne _ _ n_lq_le]; exact k_lq
      have hC12 : CXW G f4 xo ez eo bu nw0 na0 nq0 nr0 nw1 na1 nq1 nr1 bs bp bh bf bl bg S0 S1 gw0 ga0 gw1 ga1 n a cg x sa pk fl gv gh gl := CXW.eq hC (show hEq [lx, ly, lw, la, lq, le] f f4 from (by rw [ef4]; exact hEq.up (List.mem_cons_of_mem _ (List.mem_cons_of_mem _ (List.mem_cons_of_mem _ (List.mem_cons_of_mem _ (List.mem_cons_of_mem _ List.mem_cons_self))))))) hdis (fun b9 hb9 => by
          simp only [List.mem_cons, List.not_mem_nil, or_false] at hb9
          rcases hb9 with hb9 | hb9 | hb9 | hb9 | hb9 | hb9
          · rw [hb9]; exact ⟨_, _, k_lx, h7, (Nat.ne_of_beq_eq_false rfl), (Nat.ne_of_beq_eq_false rfl)⟩
          · rw [hb9]; exact ⟨_, _, k_ly, h8, (Nat.ne_of_beq_eq_false rfl), (Nat.ne_of_beq_eq_false rfl)⟩
          · rw [hb9]; exact ⟨_, _, k_lw, h9, (Nat.ne_of_beq_eq_false rfl), (Nat.ne_of_beq_eq_false rfl)⟩
          · rw [hb9]; exact ⟨_, _, k_la, h10, (Nat.ne_of_beq_eq_false rfl), (Nat.ne_of_beq_eq_false rfl)⟩
          · rw [hb9]; exact ⟨_, _, k_lq, h11, (Nat.ne_of_beq_eq_false rfl), (Nat.ne_of_beq_eq_false rfl)⟩
          · rw [hb9]; exact ⟨_, _, h1, h6, (Nat.ne_of_beq_eq_false rfl), (Nat.ne_of_beq_eq_false rfl)⟩)
      refine hp_SH (As := [.ref xo, .int 2, .int 5, .int 5]) (rest := []) B0 hw hS (c_V_setMagic_E hl G f4 xo ez eo bu nw0 na0 nq0 nr0 nw1 na1 nq1 nr1 bs bp bh bf bl bg S0 S1 gw0 ga0 gw1 ga1 n a cg x sa pk fl gv gh gl hC12 (Nat.lt_of_le_of_lt hl0 (by decide)) (Nat.lt_of_le_of_lt hl1 (by decide)) 2 5 (by decide)) mH_L_setsMagic qM_L_102 rfl rfl hl9.1 (Nat.le_of_ble_eq_true rfl) ⟨⟨Nat.le_of_ble_eq_true rfl, Nat.le_of_ble_eq_true rfl⟩, Nat.le_of_ble_eq_true rfl, Nat.le_of_ble_eq_true rfl⟩ dL_links_356 (fun E ce q9 f13 H locs hPX hw hS hce hcv hcl => ?_) (fun v f13 H locs hP hw hS => ?_)
      · exact hPX.elim
      · obtain ⟨ev9, hC14, k15⟩ := hP
        subst ev9
        have hC14 : CXW G f13 xo ez eo bu nw0 na0 nq0 nr0 nw1 na1 nq1 nr1 bs bp bh bf bl bg S0 S1 gw0 ga0 gw1 ga1 n a cg x sa pk fl gv gh gl := hC14
        refine W.eq (g2 := F0 m 359 ls [.int 0]) rfl ?_
        refine lv_if_ne (tgt := 382) hx hb dL_links_359 (by decide) (fun c9 => absurd (by decide) c9) (fun _ => ?_)
        refine lv_aload_n hx hb dL_links_362 rfl (lv_at hl9 6 rfl) ?_
        refine lv_iload hx hb dL_links_363 (lv_at hl9 5 rfl) ?_
        refine lv_iload hx hb dL_links_365 (lv_at hl9 1 rfl) ?_
        refine hp_S (As := [.int 0]) (rest := [.int 0, .ref xo]) B0 hw hS (c_L_number hl G f13 0 (by omega)) mS_L_number qM_L_83 rfl rfl hl9.1 (Nat.le_of_ble_eq_true rfl) ⟨⟨Nat.le_of_ble_eq_true rfl, Nat.le_of_ble_eq_true rfl⟩, Nat.le_of_ble_eq_true rfl, Nat.le_of_ble_eq_true rfl⟩ dL_links_367 (fun E ce q9 f16 H locs hPX hw hS hce hcv hcl => ?_) (fun v f16 H locs hP hw hS => ?_)
        · exact hPX.elim
        · obtain ⟨ef9, ev9⟩ := hP
          rw [ef9] at hw
          subst ev9
          refine W.eq (g2 := F0 m 370 ls [.int (num (nI 0)), .int 0, .ref xo]) rfl ?_
          refine lv_iload hx hb dL_links_370 (lv_at hl9 0 rfl) ?_
          refine hp_SH (As := [.ref xo, .int 0, .int (num (nI 0)), .int (num S0.2.2.2.2.2.2.1)]) (rest := []) B0 hw hS (c_V_setMagic_0 hl G f13 xo ez eo bu nw0 na0 nq0 nr0 nw1 na1 nq1 nr1 bs bp bh bf bl bg S0 S1 gw0 ga0 gw1 ga1 n a cg x sa pk fl gv gh gl hC14 (Nat.lt_of_le_of_lt hl0 (by decide)) (Nat.lt_of_le_of_lt hl1 (by decide)) (nI 0)) mH_L_setsMagic qM_L_102 rfl rfl hl9.1 (Nat.le_of_ble_eq_true rfl) ⟨⟨Nat.le_of_ble_eq_true rfl, Nat.le_of_ble_eq_true rfl⟩, Nat.le_of_ble_eq_true rfl, Nat.le_of_ble_eq_true rfl⟩ dL_links_372 (fun E ce q9 f17 H locs hPX hw hS hce hcv hcl => ?_) (fun v f17 H locs hP hw hS => ?_)
          · exact hPX.elim
          · obtain ⟨ev9, hC18, k19⟩ := hP
            subst ev9
            have hC18 : CXW G f17 xo ez eo bu nw0 na0 nq0 nr0 nw1 na1 nq1 nr1 bs bp bh bf bl bg (ixS S0 (nI 0)) S1 gw0 ga0 gw1 ga1 n a cg x sa pk fl gv gh gl := hC18
            refine W.eq (g2 := F0 m 375 ls [.int 1]) rfl ?_
            refine lv_if_eq (tgt := 382) hx hb dL_links_375 (by decide) (fun c9 => absurd c9 (by decide)) (fun _ => ?_)
            refine lv_iconst (v := 1) hx hb dL_links_378 (by decide) ?_
            refine lv_goto (tgt := 383) hx hb dL_links_379 (by decide) ?_
            have h20 : f13 lx = some (.inl (cJ G, 64, .inr (.inl xs0))) := k15 _ _ h7 (Nat.ne_of_beq_eq_false rfl) (hdos _ List.mem_cons_self)
            have h21 : f17 lx = some (.inl (cJ G, 64, .inr (.inl xs0))) := k19 _ _ h20 (Nat.ne_of_beq_eq_false rfl) (hdos _ List.mem_cons_self)
            have h22 : f13 ly = some (.inl (cJ G, 64, .inr (.inl xs1))) := k15 _ _ h8 (Nat.ne_of_beq_eq_false rfl) (hdos _ (List.mem_cons_of_mem _ List.mem_cons_self))
            have h23 : f17 ly = some (.inl (cJ G, 64, .inr (.inl xs1))) := k19 _ _ h22 (Nat.ne_of_beq_eq_false rfl) (hdos _ (List.mem_cons_of_mem _ List.mem_cons_self))
            have h24 : f13 lw = some (.inl (cI G, 12, .inl (j6 gw0 gw1))) := k15 _ _ h9 (Nat.ne_of_beq_eq_false rfl) (hdos _ (List.mem_cons_of_mem _ (List.mem_cons_of_mem _ List.mem_cons_self)))
            have h25 : f17 lw = some (.inl (cI G, 12, .inl (j6 gw0 gw1))) := k19 _ _ h24 (Nat.ne_of_beq_eq_false rfl) (hdos _ (List.mem_cons_of_mem _ (List.mem_cons_of_mem _ List.mem_cons_self)))
            have h26 : f13 la = some (.inl (cI G, 12, .inl (j6 ga0 ga1))) := k15 _ _ h10 (Nat.ne_of_beq_eq_false rfl) (hdos _ (List.mem_cons_of_mem _ (List.mem_cons_of_mem _ (List.mem_cons_of_mem _ List.mem_cons_self))))
            have h27 : f17 la = some (.inl (cI G, 12, .inl (j6 ga0 ga1))) := k19 _ _ h26 (Nat.ne_of_beq_eq_false rfl) (hdos _ (List.mem_cons_of_mem _ (List.mem_cons_of_mem _ (List.mem_cons_of_mem _ List.mem_cons_self))))
            have h28 : f13 lq = some (.inl (cI G, 12, .inl (j6 S0.2.2.2.2.2.2.2.1 S1.2.2.2.2.2.2.2.1))) := k15 _ _ h11 (Nat.ne_of_beq_eq_false rfl) (hdos _ (List.mem_cons_of_mem _ (List.mem_cons_of_mem _ (List.mem_cons_of_mem _ (List.mem_cons_of_mem _ List.mem_cons_self)))))
            have h29 : f17 lq = some (.inl (cI G, 12, .inl (j6 S0.2.2.2.2.2.2.2.1 S1.2.2.2.2.2.2.2.1))) := k19 _ _ h28 (Nat.ne_of_beq_eq_false rfl) (hdos _ (List.mem_cons_of_mem _ (List.mem_cons_of_mem _ (List.mem_cons_of_mem _ (List.mem_cons_of_mem _ List.mem_cons_self)))))
            have h30 : f13 le = some (.inl (cI G, 16, .inl (jE (e8 ((ixS S0 (nI 0)).1) ((ixS S0 (nI 0)).2.1) ((ixS S0 (nI 0)).2.2.1) ((ixS S0 (nI 0)).2.2.2.1) ((ixS S0 (nI 0)).2.2.2.2.1) ((ixS S0 (nI 0)).2.2.2.2.2.1) ((ixS S0 (nI 0)).2.2.2.2.2.2.1) (nI (ixS S0 (nI 0)).2.2.2.2.2.2.2.2.length)) (eS S1)))) := k15 _ _ h6 (Nat.ne_of_beq_eq_false rfl) (hdos _ (List.mem_cons_of_mem _ (List.mem_cons_of_mem _ (List.mem_cons_of_mem _ (List.mem_cons_of_mem _ (List.mem_cons_of_mem _ List.mem_cons_self))))))
            have h31 : f17 le = some (.inl (cI G, 16, .inl (jE (e8 ((ixS S0 (nI 0)).1) ((ixS S0 (nI 0)).2.1) ((ixS S0 (nI 0)).2.2.1) ((ixS S0 (nI 0)).2.2.2.1) ((ixS S0 (nI 0)).2.2.2.2.1) ((ixS S0 (nI 0)).2.2.2.2.2.1) ((ixS S0 (nI 0)).2.2.2.2.2.2.1) (nI (ixS S0 (nI 0)).2.2.2.2.2.2.2.2.length)) (eS S1)))) := k19 _ _ h30 (Nat.ne_of_beq_eq_false rfl) (hdos _ (List.mem_cons_of_mem _ (List.mem_cons_of_mem _ (List.mem_cons_of_mem _ (List.mem_cons_of_mem _ (List.mem_cons_of_mem _ List.mem_cons_self))))))
            exact hp_zret (v := 1) B0 hw hS hr ⟨Nat.le_of_ble_eq_true rfl, Nat.le_of_ble_eq_true rfl⟩ (rfl) dL_links_383 (⟨rfl, (ixS S0 (nI 0)), S1, gw0, ga0, gw1, ga1, hC18, ⟨⟨_, h21, hX0⟩, ⟨_, h23, hX1⟩, h25, h27, h29, h31⟩, ⟨SOK.mono (SOK.ix hSo0 (x := 0) (by omega)) (by omega), SOK.mono hSo1 (by omega), hgw0, hga0, hgw1, hga1⟩, hl0, hl1, ((show hKn [lx, ly, lw, la, lq, le, xo, ez, eo, bu, nw0, na0, nq0, nr0, nw1, na1, nq1, nr1, bs, bp, bh, bf, bl, bg] f f4 from (by rw [ef4]; exact hKn.up (List.mem_cons_of_mem _ (List.mem_cons_of_mem _ (List.mem_cons_of_mem _ (List.mem_cons_of_mem _ (List.mem_cons_of_mem _ List.mem_cons_self))))))).tr ((show hKn [lx, ly, lw, la, lq, le, xo, ez, eo, bu, nw0, na0, nq0, nr0, nw1, na1, nq1, nr1, bs, bp, bh, bf, bl, bg] f4 f13 from (hKn.mono k15 sbA)).tr (show hKn [lx, ly, lw, la, lq, le, xo, ez, eo, bu, nw0, na0, nq0, nr0, nw1, na1, nq1, nr1, bs, bp, bh, bf, bl, bg] f13 f17 from (hKn.mono k19 sbA))))⟩)
  · refine lv_iload_n hx hb dL_links_317 rfl (lv_at hl9 7 rfl) ?_
    refine lv_iconst (v := 5) hx hb dL_links_318 (by decide) ?_
    refine hp_S (As := [.int z, .int 5]) (rest := []) B0 hw hS (c_L_low hl G f z 5 (by omega) (by omega)) mS_L_low qM_L_94 rfl rfl hl9.1 (Nat.le_of_ble_eq_true rfl) ⟨⟨Nat.le_of_ble_eq_true rfl, Nat.le_of_ble_eq_true rfl⟩, Nat.le_of_ble_eq_true rfl, Nat.le_of_ble_eq_true rfl⟩ dL_links_319 (fun E ce q9 f32 H locs hPX hw hS hce hcv hcl => ?_) (fun v f32 H locs hP hw hS => ?_)
    · exact hPX.elim
    · obtain ⟨ef9, j33, hj34, ev9⟩ := hP
      rw [ef9] at hw
      subst ev9
      refine W.eq (g2 := F0 m 322 ls [.int (nI j33)]) rfl ?_
      refine lv_goto (tgt := 327) hx hb dL_links_322 (by decide) ?_
      refine lv_istore (lv' := [(14, .int (nI j33)), (13, .int (nI j13)), (12, .ref lx), (11, .int 0), (10, .int 0), (0, .ref xo), (1, .int (nI ac)), (2, .int u), (3, .int z), (4, .ref lx), (5, .ref ly), (6, .ref lw), (7, .ref la), (8, .ref lq), (9, .ref le)]) hx hb dL_links_327 hl9 (by decide) rfl (fun ls hl9 => ?_)
      refine lv_aload hx hb dL_links_329 (lv_at hl9 14 rfl) ?_
      refine lv_iload hx hb dL_links_331 (lv_at hl9 3 rfl) ?_
      refine lv_bipush (v := 6) hx hb dL_links_333 (by decide) ?_
      refine lv_iadd hx hb dL_links_335 ?_
      refine hp_c (v := 6) (by decide) ?_
      refine hp_iald B0 hw h1 (by unfold vp_in; decide) dL_links_336 ?_
      refine hp_c (v := (nI xx)) (hxx) ?_
      refine hp_S (As := [.int (nI xx)]) (rest := []) B0 hw hS (c_L_number hl G f xx (by omega)) mS_L_number qM_L_83 rfl rfl hl9.1 (Nat.le_of_ble_eq_true rfl) ⟨⟨Nat.le_of_ble_eq_true rfl, Nat.le_of_ble_eq_true rfl⟩, Nat.le_of_ble_eq_true rfl, Nat.le_of_ble_eq_true rfl⟩ dL_links_337 (fun E ce q9 f35 H locs hPX hw hS hce hcv hcl => ?_) (fun v f35 H locs hP hw hS => ?_)
      · exact hPX.elim
      · obtain ⟨ef9, ev9⟩ := hP
        rw [ef9] at hw
        rw [← hxx] at ev9
        subst ev9
        refine W.eq (g2 := F0 m 340 ls [.int (num S0.2.2.2.2.2.2.1)]) rfl ?_
        refine lv_istore (lv' := [(15, .int (num S0.2.2.2.2.2.2.1)), (14, .int (nI j33)), (13, .int (nI j13)), (12, .ref lx), (11, .int 0), (10, .int 0), (0, .ref xo), (1, .int (nI ac)), (2, .int u), (3, .int z), (4, .ref lx), (5, .ref ly), (6, .ref lw), (7, .ref la), (8, .ref lq), (9, .ref le)]) hx hb dL_links_340 hl9 (by decide) rfl (fun ls hl9 => ?_)
        refine lv_aload hx hb dL_links_342 (lv_at hl9 15 rfl) ?_
        refine lv_iload hx hb dL_links_344 (lv_at hl9 4 rfl) ?_
        refine lv_bipush (v := 6) hx hb dL_links_346 (by decide) ?_
        refine lv_iadd hx hb dL_links_348 ?_
        refine hp_c (v := 6) (by decide) ?_
        refine lv_iload hx hb dL_links_349 (lv_at hl9 1 rfl) ?_
        refine hp_iast B0 hw hS h1 (by unfold vp_in; decide) dL_links_351 (fun H locs f36 ef36 hw hS => ?_)
        rw [show (upd (jE (e8 S0.1 S0.2.1 S0.2.2.1 S0.2.2.2.1 S0.2.2.2.2.1 S0.2.2.2.2.2.1 S0.2.2.2.2.2.2.1 (nI S0.2.2.2.2.2.2.2.2.length)) (eS S1)) (6 : Int32).toNatClampNeg (nI j33) : Nat → Int32) = (jE (e8 S0.1 S0.2.1 S0.2.2.1 S0.2.2.2.1 S0.2.2.2.2.1 S0.2.2.2.2.2.1 (nI j33) (nI S0.2.2.2.2.2.2.2.2.length)) (eS S1)) from (by rw [show (6 : Int32).toNatClampNeg = 6 from rfl, jE_u0 (by omega), e8_u6])] at ef36
        have h37 : f36 le = some (.inl (cI G, 16, .inl (jE (e8 S0.1 S0.2.1 S0.2.2.1 S0.2.2.2.1 S0.2.2.2.2.1 S0.2.2.2.2.2.1 (nI j33) (nI S0.2.2.2.2.2.2.2.2.length)) (eS S1)))) := by rw [ef36, va_up_self]
        have h38 : f36 le = some (.inl (cI G, 16, .inl (jE (e8 ((ixS S0 (nI j33)).1) ((ixS S0 (nI j33)).2.1) ((ixS S0 (nI j33)).2.2.1) ((ixS S0 (nI j33)).2.2.2.1) ((ixS S0 (nI j33)).2.2.2.2.1) ((ixS S0 (nI j33)).2.2.2.2.2.1) ((ixS S0 (nI j33)).2.2.2.2.2.2.1) (nI (ixS S0 (nI j33)).2.2.2.2.2.2.2.2.length)) (eS S1)))) := h37
        refine lv_aload_n hx hb dL_links_352 rfl (lv_at hl9 6 rfl) ?_
        refine lv_iconst (v := 2) hx hb dL_links_353 (by decide) ?_
        refine lv_iconst (v := 5) hx hb dL_links_354 (by decide) ?_
        refine lv_iconst (v := 5) hx hb dL_links_355 (by decide) ?_
        have h39 : f36 lx = some (.inl (cJ G, 64, .inr (.inl xs0))) := by rw [ef36, va_up_ne _ _ n_lx_le]; exact k_lx
        have h40 : f36 ly = some (.inl (cJ G, 64, .inr (.inl xs1))) := by rw [ef36, va_up_ne _ _ n_ly_le]; exact k_ly
        have h41 : f36 lw = some (.inl (cI G, 12, .inl (j6 gw0 gw1))) := by rw [ef36, va_up_ne _ _ n_lw_le]; exact k_lw
        have h42 : f36 la = some (.inl (cI G, 12, .inl (j6 ga0 ga1))) := by rw [ef36, va_up_ne _ _ n_la_le]; exact k_la
        have h43 : f36 lq = some (.inl (cI G, 12, .inl (j6 S0.2.2.2.2.2.2.2.1 S1.2.2.2.2.2.2.2.1))) := by rw [ef36, va_up_ne _ _ n_lq_le]; exact k_lq
        have hC44 : CXW G f36 xo ez eo bu nw0 na0 nq0 nr0 nw1 na1 nq1 nr1 bs bp bh bf bl bg S0 S1 gw0 ga0 gw1 ga1 n a cg x sa pk fl gv gh gl := CXW.eq hC (show hEq [lx, ly, lw, la, lq, le] f f36 from (by rw [ef36]; exact hEq.up (List.mem_cons_of_mem _ (List.mem_cons_of_mem _ (List.mem_cons_of_mem _ (List.mem_cons_of_mem _ (List.mem_cons_of_mem _ List.mem_cons_self))))))) hdis (fun b9 hb9 => by
            simp only [List.mem_cons, List.not_mem_nil, or_false] at hb9
            rcases hb9 with hb9 | hb9 | hb9 | hb9 | hb9 | hb9
            · rw [hb9]; exact ⟨_, _, k_lx, h39, (Nat.ne_of_beq_eq_false rfl), (Nat.ne_of_beq_eq_false rfl)⟩
            · rw [hb9]; exact ⟨_, _, k_ly, h40, (Nat.ne_of_beq_eq_false rfl), (Nat.ne_of_beq_eq_false rfl)⟩
            · rw [hb9]; exact ⟨_, _, k_lw, h41, (Nat.ne_of_beq_eq_false rfl), (Nat.ne_of_beq_eq_false rfl)⟩
            · rw [hb9]; exact ⟨_, _, k_la, h42, (Nat.ne_of_beq_eq_false rfl), (Nat.ne_of_beq_eq_false rfl)⟩
            · rw [hb9]; exact ⟨_, _, k_lq, h43, (Nat.ne_of_beq_eq_false rfl), (Nat.ne_of_beq_eq_false rfl)⟩
            · rw [hb9]; exact ⟨_, _, h1, h38, (Nat.ne_of_beq_eq_false rfl), (Nat.ne_of_beq_eq_false rfl)⟩)
        refine hp_SH (As := [.ref xo, .int 2, .int 5, .int 5]) (rest := []) B0 hw hS (c_V_setMagic_E hl G f36 xo ez eo bu nw0 na0 nq0 nr0 nw1 na1 nq1 nr1 bs bp bh bf bl bg S0 S1 gw0 ga0 gw1 ga1 n a cg x sa pk fl gv gh gl hC44 (Nat.lt_of_le_of_lt hl0 (by decide)) (Nat.lt_of_le_of_lt hl1 (by decide)) 2 5 (by decide)) mH_L_setsMagic qM_L_102 rfl rfl hl9.1 (Nat.le_of_ble_eq_true rfl) ⟨⟨Nat.le_of_ble_eq_true rfl, Nat.le_of_ble_eq_true rfl⟩, Nat.le_of_ble_eq_true rfl, Nat.le_of_ble_eq_true rfl⟩ dL_links_356 (fun E ce q9 f45 H locs hPX hw hS hce hcv hcl => ?_) (fun v f45 H locs hP hw hS => ?_)
        · exact hPX.elim
        · obtain ⟨ev9, hC46, k47⟩ := hP
          subst ev9
          have hC46 : CXW G f45 xo ez eo bu nw0 na0 nq0 nr0 nw1 na1 nq1 nr1 bs bp bh bf bl bg S0 S1 gw0 ga0 gw1 ga1 n a cg x sa pk fl gv gh gl := hC46
          refine W.eq (g2 := F0 m 359 ls [.int 0]) rfl ?_
          refine lv_if_ne (tgt := 382) hx hb dL_links_359 (by decide) (fun c9 => absurd (by decide) c9) (fun _ => ?_)
          refine lv_aload_n hx hb dL_links_362 rfl (lv_at hl9 6 rfl) ?_
          refine lv_iload hx hb dL_links_363 (lv_at hl9 5 rfl) ?_
          refine lv_iload hx hb dL_links_365 (lv_at hl9 1 rfl) ?_
          refine hp_S (As := [.int (nI j33)]) (rest := [.int 0, .ref xo]) B0 hw hS (c_L_number hl G f45 j33 (by omega)) mS_L_number qM_L_83 rfl rfl hl9.1 (Nat.le_of_ble_eq_true rfl) ⟨⟨Nat.le_of_ble_eq_true rfl, Nat.le_of_ble_eq_true rfl⟩, Nat.le_of_ble_eq_true rfl, Nat.le_of_ble_eq_true rfl⟩ dL_links_367 (fun E ce q9 f48 H locs hPX hw hS hce hcv hcl => ?_) (fun v f48 H locs hP hw hS => ?_)
          · exact hPX.elim
          · obtain ⟨ef9, ev9⟩ := hP
            rw [ef9] at hw
            subst ev9
            refine W.eq (g2 := F0 m 370 ls [.int (num (nI j33)), .int 0, .ref xo]) rfl ?_
            refine lv_iload hx hb dL_links_370 (lv_at hl9 0 rfl) ?_
            refine hp_SH (As := [.ref xo, .int 0, .int (num (nI j33)), .int (num S0.2.2.2.2.2.2.1)]) (rest := []) B0 hw hS (c_V_setMagic_0 hl G f45 xo ez eo bu nw0 na0 nq0 nr0 nw1 na1 nq1 nr1 bs bp bh bf bl bg S0 S1 gw0 ga0 gw1 ga1 n a cg x sa pk fl gv gh gl hC46 (Nat.lt_of_le_of_lt hl0 (by decide)) (Nat.lt_of_le_of_lt hl1 (by decide)) (nI j33)) mH_L_setsMagic qM_L_102 rfl rfl hl9.1 (Nat.le_of_ble_eq_true rfl) ⟨⟨Nat.le_of_ble_eq_true rfl, Nat.le_of_ble_eq_true rfl⟩, Nat.le_of_ble_eq_true rfl, Nat.le_of_ble_eq_true rfl⟩ dL_links_372 (fun E ce q9 f49 H locs hPX hw hS hce hcv hcl => ?_) (fun v f49 H locs hP hw hS => ?_)
            · exact hPX.elim
            · obtain ⟨ev9, hC50, k51⟩ := hP
              subst ev9
              have hC50 : CXW G f49 xo ez eo bu nw0 na0 nq0 nr0 nw1 na1 nq1 nr1 bs bp bh bf bl bg (ixS S0 (nI j33)) S1 gw0 ga0 gw1 ga1 n a cg x sa pk fl gv gh gl := hC50
              refine W.eq (g2 := F0 m 375 ls [.int 1]) rfl ?_
              refine lv_if_eq (tgt := 382) hx hb dL_links_375 (by decide) (fun c9 => absurd c9 (by decide)) (fun _ => ?_)
              refine lv_iconst (v := 1) hx hb dL_links_378 (by decide) ?_
              refine lv_goto (tgt := 383) hx hb dL_links_379 (by decide) ?_
              have h52 : f45 lx = some (.inl (cJ G, 64, .inr (.inl xs0))) := k47 _ _ h39 (Nat.ne_of_beq_eq_false rfl) (hdos _ List.mem_cons_self)
              have h53 : f49 lx = some (.inl (cJ G, 64, .inr (.inl xs0))) := k51 _ _ h52 (Nat.ne_of_beq_eq_false rfl) (hdos _ List.mem_cons_self)
              have h54 : f45 ly = some (.inl (cJ G, 64, .inr (.inl xs1))) := k47 _ _ h40 (Nat.ne_of_beq_eq_false rfl) (hdos _ (List.mem_cons_of_mem _ List.mem_cons_self))
              have h55 : f49 ly = some (.inl (cJ G, 64, .inr (.inl xs1))) := k51 _ _ h54 (Nat.ne_of_beq_eq_false rfl) (hdos _ (List.mem_cons_of_mem _ List.mem_cons_self))
              have h56 : f45 lw = some (.inl (cI G, 12, .inl (j6 gw0 gw1))) := k47 _ _ h41 (Nat.ne_of_beq_eq_false rfl) (hdos _ (List.mem_cons_of_mem _ (List.mem_cons_of_mem _ List.mem_cons_self)))
              have h57 : f49 lw = some (.inl (cI G, 12, .inl (j6 gw0 gw1))) := k51 _ _ h56 (Nat.ne_of_beq_eq_false rfl) (hdos _ (List.mem_cons_of_mem _ (List.mem_cons_of_mem _ List.mem_cons_self)))
              have h58 : f45 la = some (.inl (cI G, 12, .inl (j6 ga0 ga1))) := k47 _ _ h42 (Nat.ne_of_beq_eq_false rfl) (hdos _ (List.mem_cons_of_mem _ (List.mem_cons_of_mem _ (List.mem_cons_of_mem _ List.mem_cons_self))))
              have h59 : f49 la = some (.inl (cI G, 12, .inl (j6 ga0 ga1))) := k51 _ _ h58 (Nat.ne_of_beq_eq_false rfl) (hdos _ (List.mem_cons_of_mem _ (List.mem_cons_of_mem _ (List.mem_cons_of_mem _ List.mem_cons_self))))
              have h60 : f45 lq = some (.inl (cI G, 12, .inl (j6 S0.2.2.2.2.2.2.2.1 S1.2.2.2.2.2.2.2.1))) := k47 _ _ h43 (Nat.ne_of_beq_eq_false rfl) (hdos _ (List.mem_cons_of_mem _ (List.mem_cons_of_mem _ (List.mem_cons_of_mem _ (List.mem_cons_of_mem _ List.mem_cons_self)))))
              have h61 : f49 lq = some (.inl (cI G, 12, .inl (j6 S0.2.2.2.2.2.2.2.1 S1.2.2.2.2.2.2.2.1))) := k51 _ _ h60 (Nat.ne_of_beq_eq_false rfl) (hdos _ (List.mem_cons_of_mem _ (List.mem_cons_of_mem _ (List.mem_cons_of_mem _ (List.mem_cons_of_mem _ List.mem_cons_self)))))
              have h62 : f45 le = some (.inl (cI G, 16, .inl (jE (e8 ((ixS S0 (nI j33)).1) ((ixS S0 (nI j33)).2.1) ((ixS S0 (nI j33)).2.2.1) ((ixS S0 (nI j33)).2.2.2.1) ((ixS S0 (nI j33)).2.2.2.2.1) ((ixS S0 (nI j33)).2.2.2.2.2.1) ((ixS S0 (nI j33)).2.2.2.2.2.2.1) (nI (ixS S0 (nI j33)).2.2.2.2.2.2.2.2.length)) (eS S1)))) := k47 _ _ h38 (Nat.ne_of_beq_eq_false rfl) (hdos _ (List.mem_cons_of_mem _ (List.mem_cons_of_mem _ (List.mem_cons_of_mem _ (List.mem_cons_of_mem _ (List.mem_cons_of_mem _ List.mem_cons_self))))))
              have h63 : f49 le = some (.inl (cI G, 16, .inl (jE (e8 ((ixS S0 (nI j33)).1) ((ixS S0 (nI j33)).2.1) ((ixS S0 (nI j33)).2.2.1) ((ixS S0 (nI j33)).2.2.2.1) ((ixS S0 (nI j33)).2.2.2.2.1) ((ixS S0 (nI j33)).2.2.2.2.2.1) ((ixS S0 (nI j33)).2.2.2.2.2.2.1) (nI (ixS S0 (nI j33)).2.2.2.2.2.2.2.2.length)) (eS S1)))) := k51 _ _ h62 (Nat.ne_of_beq_eq_false rfl) (hdos _ (List.mem_cons_of_mem _ (List.mem_cons_of_mem _ (List.mem_cons_of_mem _ (List.mem_cons_of_mem _ (List.mem_cons_of_mem _ List.mem_cons_self))))))
              exact hp_zret (v := 1) B0 hw hS hr ⟨Nat.le_of_ble_eq_true rfl, Nat.le_of_ble_eq_true rfl⟩ (rfl) dL_links_383 (⟨rfl, (ixS S0 (nI j33)), S1, gw0, ga0, gw1, ga1, hC50, ⟨⟨_, h53, hX0⟩, ⟨_, h55, hX1⟩, h57, h59, h61, h63⟩, ⟨SOK.mono (SOK.ix hSo0 (x := j33) (by omega)) (by omega), SOK.mono hSo1 (by omega), hgw0, hga0, hgw1, hga1⟩, hl0, hl1, ((show hKn [lx, ly, lw, la, lq, le, xo, ez, eo, bu, nw0, na0, nq0, nr0, nw1, na1, nq1, nr1, bs, bp, bh, bf, bl, bg] f f36 from (by rw [ef36]; exact hKn.up (List.mem_cons_of_mem _ (List.mem_cons_of_mem _ (List.mem_cons_of_mem _ (List.mem_cons_of_mem _ (List.mem_cons_of_mem _ List.mem_cons_self))))))).tr ((show hKn [lx, ly, lw, la, lq, le, xo, ez, eo, bu, nw0, na0, nq0, nr0, nw1, na1, nq1, nr1, bs, bp, bh, bf, bl, bg] f36 f45 from (hKn.mono k47 sbA)).tr (show hKn [lx, ly, lw, la, lq, le, xo, ez, eo, bu, nw0, na0, nq0, nr0, nw1, na1, nq1, nr1, bs, bp, bh, bf, bl, bg] f45 f49 from (hKn.mono k51 sbA))))⟩)

set_option maxHeartbeats 4000000 in
set_option maxRecDepth 100000 in
theorem lk_m_1 {l : Launch} (hl : l.stackTraces = false) (G : hG) (f : hM) (xo ez eo bu nw0 na0 nq0 nr0 nw1 na1 nq1 nr1 bs bp bh bf bl bg : Nat) (S0 : ES) (S1 : ES) (gw0 : Nat → Int32) (ga0 : Nat → Int32) (gw1 : Nat → Int32) (ga1 : Nat → Int32) (n : Nat) (a : Nat) (cg : Nat) (x : Nat) (sa : Nat → Nat) (pk : Nat → Nat) (fl : Nat → Nat) (gv : Nat → Nat) (gh : Nat → Int32) (gl : Nat → Int32) (hC : CXW G f xo ez eo bu nw0 na0 nq0 nr0 nw1 na1 nq1 nr1 bs bp bh bf bl bg S0 S1 gw0 ga0 gw1 ga1 n a cg x sa pk fl gv gh gl) (lx ly lw la lq le : Nat) (hdis : ∀ p, p ∈ [xo, ez, eo, bu, nw0, na0, nq0, nr0, nw1, na1, nq1, nr1, bs, bp, bh, bf, bl, bg] → p ∉ [lx, ly, lw, la, lq, le]) (hdos : ∀ p, p ∈ [lx, ly, lw, la, lq, le] → p ∉ [xo, ez, eo, bu, nw0, na0, nq0, nr0, nw1, na1, nq1, nr1, bs, bp, bh, bf, bl, bg]) (n_lx_ly : lx ≠ ly) (n_lw_la : lw ≠ la) (n_lw_lq : lw ≠ lq) (n_la_lq : la ≠ lq) (hLX : LX G f lx ly lw la lq le S0 S1 gw0 ga0 gw1 ga1) (b : Nat) (hInv : INV b S0 S1 gw0 ga0 gw1 ga1) (hbb : b + 200 ≤ 1000000) (hl0 : S0.2.2.2.2.2.2.2.2.length ≤ 52) (hl1 : S1.2.2.2.2.2.2.2.2.length ≤ 52) (ac : Nat) (hac : ac < 24) (hact : ac ≠ 22 → S0.2.2.2.2.2.2.2.2.length ≤ 40 ∧ S1.2.2.2.2.2.2.2.2.length ≤ 40) (u z : Int32) {p : Program} {e : Env} {s : State} {m : MethodId} {args : Array Value} {below : List Frame} {meth : Method} {c : Code} (B0 : hB p l s m args meth c cL_links 17 RL G) (hr : meth.sig.returnType = some .boolean) {H : Heap} {locs : List Loc} {ls : Array Slot} (hw : hW G f H) (hS : va_S (hFr G) s.heap H locs) (j13 : Nat) (hj13 : j13 < 6) (hl9 : lv_has ls 17 [(13, .int (nI j13)), (12, .ref ly), (11, .int 8), (10, .int 1), (0, .ref xo), (1, .int (nI ac)), (2, .int u), (3, .int z), (4, .ref lx), (5, .ref ly), (6, .ref lw), (7, .ref la), (8, .ref lq), (9, .ref le)]) : W p l e { frames := 9, cells := 203, slots := 1118, locals := 178 } s m args below meth c H locs 0 0 (vx_MQ below (hQ G (fun v f1 => v = some (.int 1) ∧ ∃ (S2 S3 : ES) (w0 a0 w1 a1 : Nat → Int32), CXW G f1 xo ez eo bu nw0 na0 nq0 nr0 nw1 na1 nq1 nr1 bs bp bh bf bl bg S2 S3 w0 a0 w1 a1 n a cg x sa pk fl gv gh gl ∧ LX G f1 lx ly lw la lq le S2 S3 w0 a0 w1 a1 ∧ INV (b + 100) S2 S3 w0 a0 w1 a1 ∧ S2.2.2.2.2.2.2.2.2.length ≤ 52 ∧ S3.2.2.2.2.2.2.2.2.length ≤ 52 ∧ hKn [lx, ly, lw, la, lq, le, xo, ez, eo, bu, nw0, na0, nq0, nr0, nw1, na1, nq1, nr1, bs, bp, bh, bf, bl, bg] f f1)) (hX G (fun E f1 => False)) args s 203 1118 (hFr G)) (F0 m 310 ls []) := by
  have hx := B0.1
  have hb := B0.2.1
  obtain ⟨⟨xs0, k_lx, hX0⟩, ⟨xs1, k_ly, hX1⟩, k_lw, k_la, k_lq, k_le⟩ := hLX
  obtain ⟨hSo0, hSo1, hgw0, hga0, hgw1, hga1⟩ := id hInv
  have n_lx_lw : lx ≠ lw := hneL k_lx k_lw (Nat.ne_of_beq_eq_false rfl)
  have n_lx_la : lx ≠ la := hneL k_lx k_la (Nat.ne_of_beq_eq_false rfl)
  have n_lx_lq : lx ≠ lq := hneL k_lx k_lq (Nat.ne_of_beq_eq_false rfl)
  have n_lx_le : lx ≠ le := hneL k_lx k_le (Nat.ne_of_beq_eq_false rfl)
  have n_ly_lw : ly ≠ lw := hneL k_ly k_lw (Nat.ne_of_beq_eq_false rfl)
  have n_ly_la : ly ≠ la := hneL k_ly k_la (Nat.ne_of_beq_eq_false rfl)
  have n_ly_lq : ly ≠ lq := hneL k_ly k_lq (Nat.ne_of_beq_eq_false rfl)
  have n_ly_le : ly ≠ le := hneL k_ly k_le (Nat.ne_of_beq_eq_false rfl)
  have n_lw_le : lw ≠ le := hneL k_lw k_le (Nat.ne_of_beq_eq_false rfl)
  have n_la_le : la ≠ le := hneL k_la k_le (Nat.ne_of_beq_eq_false rfl)
  have n_lq_le : lq ≠ le := hneL k_lq k_le (Nat.ne_of_beq_eq_false rfl)
  have sbA : ∀ x9, x9 ∈ [xo, ez, eo, bu, nw0, na0, nq0, nr0, nw1, na1, nq1, nr1, bs, bp, bh, bf, bl, bg] → x9 ∈ [lx, ly, lw, la, lq, le, xo, ez, eo, bu, nw0, na0, nq0, nr0, nw1, na1, nq1, nr1, bs, bp, bh, bf, bl, bg] := sbA
  obtain ⟨xx, hxx, hx4⟩ := hSo1.2.2.2.2.1
  have h1 : f le = some (.inl (cI G, 16, .inl (jE (eS S0) (e8 S1.1 S1.2.1 S1.2.2.1 S1.2.2.2.1 S1.2.2.2.2.1 S1.2.2.2.2.2.1 S1.2.2.2.2.2.2.1 (nI S1.2.2.2.2.2.2.2.2.length))))) := k_le
  refine lv_iload_n hx hb dL_links_310 rfl (lv_at hl9 6 rfl) ?_
  refine lv_bipush (v := 48) hx hb dL_links_311 (by decide) ?_
  refine lv_iand hx hb dL_links_313 ?_
  refine lv_if_ne (tgt := 325) hx hb dL_links_314 (by decide) (fun c2 => ?_) (fun c2 => ?_)
  · refine lv_iload hx hb dL_links_325 (lv_at hl9 3 rfl) ?_
    refine lv_istore (lv' := [(14, .int 1), (13, .int (nI j13)), (12, .ref ly), (11, .int 8), (10, .int 1), (0, .ref xo), (1, .int (nI ac)), (2, .int u), (3, .int z), (4, .ref lx), (5, .ref ly), (6, .ref lw), (7, .ref la), (8, .ref lq), (9, .ref le)]) hx hb dL_links_327 hl9 (by decide) rfl (fun ls hl9 => ?_)
    refine lv_aload hx hb dL_links_329 (lv_at hl9 14 rfl) ?_
    refine lv_iload hx hb dL_links_331 (lv_at hl9 3 rfl) ?_
    refine lv_bipush (v := 6) hx hb dL_links_333 (by decide) ?_
    refine lv_iadd hx hb dL_links_335 ?_
    refine hp_c (v := 14) (by decide) ?_
    refine hp_iald B0 hw h1 (by unfold vp_in; decide) dL_links_336 ?_
    refine hp_c (v := (nI xx)) (hxx) ?_
    refine hp_S (As := [.int (nI xx)]) (rest := []) B0 hw hS (c_L_number hl G f xx (by omega)) mS_L_number qM_L_83 rfl rfl hl9.1 (Nat.le_of_ble_eq_true rfl) ⟨⟨Nat.le_of_ble_eq_true rfl, Nat.le_of_ble_eq_true rfl⟩, Nat.le_of_ble_eq_true rfl, Nat.le_of_ble_eq_true rfl⟩ dL_links_337 (fun E ce q9 f3 H locs hPX hw hS hce hcv hcl => ?_) (fun v f3 H locs hP hw hS => ?_)
    · exact hPX.elim
    · obtain ⟨ef9, ev9⟩ := hP
      rw [ef9] at hw
      rw [← hxx] at ev9
      subst ev9
      refine W.eq (g2 := F0 m 340 ls [.int (num S1.2.2.2.2.2.2.1)]) rfl ?_
      refine lv_istore (lv' := [(15, .int (num S1.2.2.2.2.2.2.1)), (14, .int 1), (13, .int (nI j13)), (12, .ref ly), (11, .int 8), (10, .int 1), (0, .ref xo), (1, .int (nI ac)), (2, .int u), (3, .int z), (4, .ref lx), (5, .ref ly), (6, .ref lw), (7, .ref la), (8, .ref lq), (9, .ref le)]) hx hb dL_links_340 hl9 (by decide) rfl (fun ls hl9 => ?_)
      refine lv_aload hx hb dL_links_342 (lv_at hl9 15 rfl) ?_
      refine lv_iload hx hb dL_links_344 (lv_at hl9 4 rfl) ?_
      refine lv_bipush (v := 6) hx hb dL_links_346 (by decide) ?_
      refine lv_iadd hx hb dL_links_348 ?_
      refine hp_c (v := 14) (by decide) ?_
      refine lv_iload hx hb dL_links_349 (lv_at hl9 1 rfl) ?_
      refine hp_iast B0 hw hS h1 (by unfold vp_in; decide) dL_links_351 (fun H locs f4 ef4 hw hS => ?_)
      rw [show (upd (jE (eS S0) (e8 S1.1 S1.2.1 S1.2.2.1 S1.2.2.2.1 S1.2.2.2.2.1 S1.2.2.2.2.2.1 S1.2.2.2.2.2.2.1 (nI S1.2.2.2.2.2.2.2.2.length))) (14 : Int32).toNatClampNeg 1 : Nat → Int32) = (jE (eS S0) (e8 S1.1 S1.2.1 S1.2.2.1 S1.2.2.2.1 S1.2.2.2.2.1 S1.2.2.2.2.2.1 1 (nI S1.2.2.2.2.2.2.2.2.length))) from (by rw [show (14 : Int32).toNatClampNeg = 8 + 6 from rfl, jE_u1, e8_u6])] at ef4
      have h5 : f4 le = some (.inl (cI G, 16, .inl (jE (eS S0) (e8 S1.1 S1.2.1 S1.2.2.1 S1.2.2.2.1 S1.2.2.2.2.1 S1.2.2.2.2.2.1 1 (nI S1.2.2.2.2.2.2.2.2.length))))) := by rw [ef4, va_up_self]
      have h6 : f4 le = some (.inl (cI G, 16, .inl (jE (eS S0) (e8 ((ixS S1 (nI 1)).1) ((ixS S1 (nI 1)).2.1) ((ixS S1 (nI 1)).2.2.1) ((ixS S1 (nI 1)).2.2.2.1) ((ixS S1 (nI 1)).2.2.2.2.1) ((ixS S1 (nI 1)).2.2.2.2.2.1) ((ixS S1 (nI 1)).2.2.2.2.2.2.1) (nI (ixS S1 (nI 1)).2.2.2.2.2.2.2.2.length))))) := h5
      refine lv_aload_n hx hb dL_links_352 rfl (lv_at hl9 6 rfl) ?_
      refine lv_iconst (v := 2) hx hb dL_links_353 (by decide) ?_
      refine lv_iconst (v := 5) hx hb dL_links_354 (by decide) ?_
      refine lv_iconst (v := 5) hx hb dL_links_355 (by decide) ?_
      have h7 : f4 lx = some (.inl (cJ G, 64, .inr (.inl xs0))) := by rw [ef4, va_up_ne _ _ n_lx_le]; exact k_lx
      have h8 : f4 ly = some (.inl (cJ G, 64, .inr (.inl xs1))) := by rw [ef4, va_up_ne _ _ n_ly_le]; exact k_ly
      have h9 : f4 lw = some (.inl (cI G, 12, .inl (j6 gw0 gw1))) := by rw [ef4, va_up_ne _ _ n_lw_le]; exact k_lw
      have h10 : f4 la = some (.inl (cI G, 12, .inl (j6 ga0 ga1))) := by rw [ef4, va_up_ne _ _ n_la_le]; exact k_la
      have h11 : f4 lq = some (.inl (cI G, 12, .inl (j6 S0.2.2.2.2.2.2.2.1 S1.2.2.2.2.2.2.2.1))) := by rw [ef4, va_up_ne _ _ n_lq_le]; exact k_lq
      have hC12 : CXW G f4 xo ez eo bu nw0 na0 nq0 nr0 nw1 na1 nq1 nr1 bs bp bh bf bl bg S0 S1 gw0 ga0 gw1 ga1 n a cg x sa pk fl gv gh gl := CXW.eq hC (show hEq [lx, ly, lw, la, lq, le] f f4 from (by rw [ef4]; exact hEq.up (List.mem_cons_of_mem _ (List.mem_cons_of_mem _ (List.mem_cons_of_mem _ (List.mem_cons_of_mem _ (List.mem_cons_of_mem _ List.mem_cons_self))))))) hdis (fun b9 hb9 => by
          simp only [List.mem_cons, List.not_mem_nil, or_false] at hb9
          rcases hb9 with hb9 | hb9 | hb9 | hb9 | hb9 | hb9
          · rw [hb9]; exact ⟨_, _, k_lx, h7, (Nat.ne_of_beq_eq_false rfl), (Nat.ne_of_beq_eq_false rfl)⟩
          · rw [hb9]; exact ⟨_, _, k_ly, h8, (Nat.ne_of_beq_eq_false rfl), (Nat.ne_of_beq_eq_false rfl)⟩
          · rw [hb9]; exact ⟨_, _, k_lw, h9, (Nat.ne_of_beq_eq_false rfl), (Nat.ne_of_beq_eq_false rfl)⟩
          · rw [hb9]; exact ⟨_, _, k_la, h10, (Nat.ne_of_beq_eq_false rfl), (Nat.ne_of_beq_eq_false rfl)⟩
          · rw [hb9]; exact ⟨_, _, k_lq, h11, (Nat.ne_of_beq_eq_false rfl), (Nat.ne_of_beq_eq_false rfl)⟩
          · rw [hb9]; exact ⟨_, _, h1, h6, (Nat.ne_of_beq_eq_false rfl), (Nat.ne_of_beq_eq_false rfl)⟩)
      refine hp_SH (As := [.ref xo, .int 2, .int 5, .int 5]) (rest := []) B0 hw hS (c_V_setMagic_E hl G f4 xo ez eo bu nw0 na0 nq0 nr0 nw1 na1 nq1 nr1 bs bp bh bf bl bg S0 S1 gw0 ga0 gw1 ga1 n a cg x sa pk fl gv gh gl hC12 (Nat.lt_of_le_of_lt hl0 (by decide)) (Nat.lt_of_le_of_lt hl1 (by decide)) 2 5 (by decide)) mH_L_setsMagic qM_L_102 rfl rfl hl9.1 (Nat.le_of_ble_eq_true rfl) ⟨⟨Nat.le_of_ble_eq_true rfl, Nat.le_of_ble_eq_true rfl⟩, Nat.le_of_ble_eq_true rfl, Nat.le_of_ble_eq_true rfl⟩ dL_links_356 (fun E ce q9 f13 H locs hPX hw hS hce hcv hcl => ?_) (fun v f13 H locs hP hw hS => ?_)
      · exact hPX.elim
      · obtain ⟨ev9, hC14, k15⟩ := hP
        subst ev9
        have hC14 : CXW G f13 xo ez eo bu nw0 na0 nq0 nr0 nw1 na1 nq1 nr1 bs bp bh bf bl bg S0 S1 gw0 ga0 gw1 ga1 n a cg x sa pk fl gv gh gl := hC14
        refine W.eq (g2 := F0 m 359 ls [.int 0]) rfl ?_
        refine lv_if_ne (tgt := 382) hx hb dL_links_359 (by decide) (fun c9 => absurd (by decide) c9) (fun _ => ?_)
        refine lv_aload_n hx hb dL_links_362 rfl (lv_at hl9 6 rfl) ?_
        refine lv_iload hx hb dL_links_363 (lv_at hl9 5 rfl) ?_
        refine lv_iload hx hb dL_links_365 (lv_at hl9 1 rfl) ?_
        refine hp_S (As := [.int 1]) (rest := [.int 1, .ref xo]) B0 hw hS (c_L_number hl G f13 1 (by omega)) mS_L_number qM_L_83 rfl rfl hl9.1 (Nat.le_of_ble_eq_true rfl) ⟨⟨Nat.le_of_ble_eq_true rfl, Nat.le_of_ble_eq_true rfl⟩, Nat.le_of_ble_eq_true rfl, Nat.le_of_ble_eq_true rfl⟩ dL_links_367 (fun E ce q9 f16 H locs hPX hw hS hce hcv hcl => ?_) (fun v f16 H locs hP hw hS => ?_)
        · exact hPX.elim
        · obtain ⟨ef9, ev9⟩ := hP
          rw [ef9] at hw
          subst ev9
          refine W.eq (g2 := F0 m 370 ls [.int (num (nI 1)), .int 1, .ref xo]) rfl ?_
          refine lv_iload hx hb dL_links_370 (lv_at hl9 0 rfl) ?_
          refine hp_SH (As := [.ref xo, .int 1, .int (num (nI 1)), .int (num S1.2.2.2.2.2.2.1)]) (rest := []) B0 hw hS (c_V_setMagic_1 hl G f13 xo ez eo bu nw0 na0 nq0 nr0 nw1 na1 nq1 nr1 bs bp bh bf bl bg S0 S1 gw0 ga0 gw1 ga1 n a cg x sa pk fl gv gh gl hC14 (Nat.lt_of_le_of_lt hl0 (by decide)) (Nat.lt_of_le_of_lt hl1 (by decide)) (nI 1)) mH_L_setsMagic qM_L_102 rfl rfl hl9.1 (Nat.le_of_ble_eq_true rfl) ⟨⟨Nat.le_of_ble_eq_true rfl, Nat.le_of_ble_eq_true rfl⟩, Nat.le_of_ble_eq_true rfl, Nat.le_of_ble_eq_true rfl⟩ dL_links_372 (fun E ce q9 f17 H locs hPX hw hS hce hcv hcl => ?_) (fun v f17 H locs hP hw hS => ?_)
          · exact hPX.elim
          · obtain ⟨ev9, hC18, k19⟩ := hP
            subst ev9
            have hC18 : CXW G f17 xo ez eo bu nw0 na0 nq0 nr0 nw1 na1 nq1 nr1 bs bp bh bf bl bg S0 (ixS S1 (nI 1)) gw0 ga0 gw1 ga1 n a cg x sa pk fl gv gh gl := hC18
            refine W.eq (g2 := F0 m 375 ls [.int 1]) rfl ?_
            refine lv_if_eq (tgt := 382) hx hb dL_links_375 (by decide) (fun c9 => absurd c9 (by decide)) (fun _ => ?_)
            refine lv_iconst (v := 1) hx hb dL_links_378 (by decide) ?_
            refine lv_goto (tgt := 383) hx hb dL_links_379 (by decide) ?_
            have h20 : f13 lx = some (.inl (cJ G, 64, .inr (.inl xs0))) := k15 _ _ h7 (Nat.ne_of_beq_eq_false rfl) (hdos _ List.mem_cons_self)
            have h21 : f17 lx = some (.inl (cJ G, 64, .inr (.inl xs0))) := k19 _ _ h20 (Nat.ne_of_beq_eq_false rfl) (hdos _ List.mem_cons_self)
            have h22 : f13 ly = some (.inl (cJ G, 64, .inr (.inl xs1))) := k15 _ _ h8 (Nat.ne_of_beq_eq_false rfl) (hdos _ (List.mem_cons_of_mem _ List.mem_cons_self))
            have h23 : f17 ly = some (.inl (cJ G, 64, .inr (.inl xs1))) := k19 _ _ h22 (Nat.ne_of_beq_eq_false rfl) (hdos _ (List.mem_cons_of_mem _ List.mem_cons_self))
            have h24 : f13 lw = some (.inl (cI G, 12, .inl (j6 gw0 gw1))) := k15 _ _ h9 (Nat.ne_of_beq_eq_false rfl) (hdos _ (List.mem_cons_of_mem _ (List.mem_cons_of_mem _ List.mem_cons_self)))
            have h25 : f17 lw = some (.inl (cI G, 12, .inl (j6 gw0 gw1))) := k19 _ _ h24 (Nat.ne_of_beq_eq_false rfl) (hdos _ (List.mem_cons_of_mem _ (List.mem_cons_of_mem _ List.mem_cons_self)))
            have h26 : f13 la = some (.inl (cI G, 12, .inl (j6 ga0 ga1))) := k15 _ _ h10 (Nat.ne_of_beq_eq_false rfl) (hdos _ (List.mem_cons_of_mem _ (List.mem_cons_of_mem _ (List.mem_cons_of_mem _ List.mem_cons_self))))
            have h27 : f17 la = some (.inl (cI G, 12, .inl (j6 ga0 ga1))) := k19 _ _ h26 (Nat.ne_of_beq_eq_false rfl) (hdos _ (List.mem_cons_of_mem _ (List.mem_cons_of_mem _ (List.mem_cons_of_mem _ List.mem_cons_self))))
            have h28 : f13 lq = some (.inl (cI G, 12, .inl (j6 S0.2.2.2.2.2.2.2.1 S1.2.2.2.2.2.2.2.1))) := k15 _ _ h11 (Nat.ne_of_beq_eq_false rfl) (hdos _ (List.mem_cons_of_mem _ (List.mem_cons_of_mem _ (List.mem_cons_of_mem _ (List.mem_cons_of_mem _ List.mem_cons_self)))))
            have h29 : f17 lq = some (.inl (cI G, 12, .inl (j6 S0.2.2.2.2.2.2.2.1 S1.2.2.2.2.2.2.2.1))) := k19 _ _ h28 (Nat.ne_of_beq_eq_false rfl) (hdos _ (List.mem_cons_of_mem _ (List.mem_cons_of_mem _ (List.mem_cons_of_mem _ (List.mem_cons_of_mem _ List.mem_cons_self)))))
            have h30 : f13 le = some (.inl (cI G, 16, .inl (jE (eS S0) (e8 ((ixS S1 (nI 1)).1) ((ixS S1 (nI 1)).2.1) ((ixS S1 (nI 1)).2.2.1) ((ixS S1 (nI 1)).2.2.2.1) ((ixS S1 (nI 1)).2.2.2.2.1) ((ixS S1 (nI 1)).2.2.2.2.2.1) ((ixS S1 (nI 1)).2.2.2.2.2.2.1) (nI (ixS S1 (nI 1)).2.2.2.2.2.2.2.2.length))))) := k15 _ _ h6 (Nat.ne_of_beq_eq_false rfl) (hdos _ (List.mem_cons_of_mem _ (List.mem_cons_of_mem _ (List.mem_cons_of_mem _ (List.mem_cons_of_mem _ (List.mem_cons_of_mem _ List.mem_cons_self))))))
            have h31 : f17 le = some (.inl (cI G, 16, .inl (jE (eS S0) (e8 ((ixS S1 (nI 1)).1) ((ixS S1 (nI 1)).2.1) ((ixS S1 (nI 1)).2.2.1) ((ixS S1 (nI 1)).2.2.2.1) ((ixS S1 (nI 1)).2.2.2.2.1) ((ixS S1 (nI 1)).2.2.2.2.2.1) ((ixS S1 (nI 1)).2.2.2.2.2.2.1) (nI (ixS S1 (nI 1)).2.2.2.2.2.2.2.2.length))))) := k19 _ _ h30 (Nat.ne_of_beq_eq_false rfl) (hdos _ (List.mem_cons_of_mem _ (List.mem_cons_of_mem _ (List.mem_cons_of_mem _ (List.mem_cons_of_mem _ (List.mem_cons_of_mem _ List.mem_cons_self))))))
            exact hp_zret (v := 1) B0 hw hS hr ⟨Nat.le_of_ble_eq_true rfl, Nat.le_of_ble_eq_true rfl⟩ (rfl) dL_links_383 (⟨rfl, S0, (ixS S1 (nI 1)), gw0, ga0, gw1, ga1, hC18, ⟨⟨_, h21, hX0⟩, ⟨_, h23, hX1⟩, h25, h27, h29, h31⟩, ⟨SOK.mono hSo0 (by omega), SOK.mono (SOK.ix hSo1 (x := 1) (by omega)) (by omega), hgw0, hga0, hgw1, hga1⟩, hl0, hl1, ((show hKn [lx, ly, lw, la, lq, le, xo, ez, eo, bu, nw0, na0, nq0, nr0, nw1, na1, nq1, nr1, bs, bp, bh, bf, bl, bg] f f4 from (by rw [ef4]; exact hKn.up (List.mem_cons_of_mem _ (List.mem_cons_of_mem _ (List.mem_cons_of_mem _ (List.mem_cons_of_mem _ (List.mem_cons_of_mem _ List.mem_cons_self))))))).tr ((show hKn [lx, ly, lw, la, lq, le, xo, ez, eo, bu, nw0, na0, nq0, nr0, nw1, na1, nq1, nr1, bs, bp, bh, bf, bl, bg] f4 f13 from (hKn.mono k15 sbA)).tr (show hKn [lx, ly, lw, la, lq, le, xo, ez, eo, bu, nw0, na0, nq0, nr0, nw1, na1, nq1, nr1, bs, bp, bh, bf, bl, bg] f13 f17 from (hKn.mono k19 sbA))))⟩)
  · refine lv_iload_n hx hb dL_links_317 rfl (lv_at hl9 7 rfl) ?_
    refine lv_iconst (v := 5) hx hb dL_links_318 (by decide) ?_
    refine hp_S (As := [.int z, .int 5]) (rest := []) B0 hw hS (c_L_low hl G f z 5 (by omega) (by omega)) mS_L_low qM_L_94 rfl rfl hl9.1 (Nat.le_of_ble_eq_true rfl) ⟨⟨Nat.le_of_ble_eq_true rfl, Nat.le_of_ble_eq_true rfl⟩, Nat.le_of_ble_eq_true rfl, Nat.le_of_ble_eq_true rfl⟩ dL_links_319 (fun E ce q9 f32 H locs hPX hw hS hce hcv hcl => ?_) (fun v f32 H locs hP hw hS => ?_)
    · exact hPX.elim
    · obtain ⟨ef9, j33, hj34, ev9⟩ := hP
      rw [ef9] at hw
      subst ev9
      refine W.eq (g2 := F0 m 322 ls [.int (nI j33)]) rfl ?_
      refine lv_goto (tgt := 327) hx hb dL_links_322 (by decide) ?_
      refine lv_istore (lv' := [(14, .int (nI j33)), (13, .int (nI j13)), (12, .ref ly), (11, .int 8), (10, .int 1), (0, .ref xo), (1, .int (nI ac)), (2, .int u), (3, .int z), (4, .ref lx), (5, .ref ly), (6, .ref lw), (7, .ref la), (8, .ref lq), (9, .ref le)]) hx hb dL_links_327 hl9 (by decide) rfl (fun ls hl9 => ?_)
      refine lv_aload hx hb dL_links_329 (lv_at hl9 14 rfl) ?_
      refine lv_iload hx hb dL_links_331 (lv_at hl9 3 rfl) ?_
      refine lv_bipush (v := 6) hx hb dL_links_333 (by decide) ?_
      refine lv_iadd hx hb dL_links_335 ?_
      refine hp_c (v := 14) (by decide) ?_
      refine hp_iald B0 hw h1 (by unfold vp_in; decide) dL_links_336 ?_
      refine hp_c (v := (nI xx)) (hxx) ?_
      refine hp_S (As := [.int (nI xx)]) (rest := []) B0 hw hS (c_L_number hl G f xx (by omega)) mS_L_number qM_L_83 rfl rfl hl9.1 (Nat.le_of_ble_eq_true rfl) ⟨⟨Nat.le_of_ble_eq_true rfl, Nat.le_of_ble_eq_true rfl⟩, Nat.le_of_ble_eq_true rfl, Nat.le_of_ble_eq_true rfl⟩ dL_links_337 (fun E ce q9 f35 H locs hPX hw hS hce hcv hcl => ?_) (fun v f35 H locs hP hw hS => ?_)
      · exact hPX.elim
      · obtain ⟨ef9, ev9⟩ := hP
        rw [ef9] at hw
        rw [← hxx] at ev9
        subst ev9
        refine W.eq (g2 := F0 m 340 ls [.int (num S1.2.2.2.2.2.2.1)]) rfl ?_
        refine lv_istore (lv' := [(15, .int (num S1.2.2.2.2.2.2.1)), (14, .int (nI j33)), (13, .int (nI j13)), (12, .ref ly), (11, .int 8), (10, .int 1), (0, .ref xo), (1, .int (nI ac)), (2, .int u), (3, .int z), (4, .ref lx), (5, .ref ly), (6, .ref lw), (7, .ref la), (8, .ref lq), (9, .ref le)]) hx hb dL_links_340 hl9 (by decide) rfl (fun ls hl9 => ?_)
        refine lv_aload hx hb dL_links_342 (lv_at hl9 15 rfl) ?_
        refine lv_iload hx hb dL_links_344 (lv_at hl9 4 rfl) ?_
        refine lv_bipush (v := 6) hx hb dL_links_346 (by decide) ?_
        refine lv_iadd hx hb dL_links_348 ?_
        refine hp_c (v := 14) (by decide) ?_
        refine lv_iload hx hb dL_links_349 (lv_at hl9 1 rfl) ?_
        refine hp_iast B0 hw hS h1 (by unfold vp_in; decide) dL_links_351 (fun H locs f36 ef36 hw hS => ?_)
        rw [show (upd (jE (eS S0) (e8 S1.1 S1.2.1 S1.2.2.1 S1.2.2.2.1 S1.2.2.2.2.1 S1.2.2.2.2.2.1 S1.2.2.2.2.2.2.1 (nI S1.2.2.2.2.2.2.2.2.length))) (14 : Int32).toNatClampNeg (nI j33) : Nat → Int32) = (jE (eS S0) (e8 S1.1 S1.2.1 S1.2.2.1 S1.2.2.2.1 S1.2.2.2.2.1 S1.2.2.2.2.2.1 (nI j33) (nI S1.2.2.2.2.2.2.2.2.length))) from (by rw [show (14 : Int32).toNatClampNeg = 8 + 6 from rfl, jE_u1, e8_u6])] at ef36
        have h37 : f36 le = some (.inl (cI G, 16, .inl (jE (eS S0) (e8 S1.1 S1.2.1 S1.2.2.1 S1.2.2.2.1 S1.2.2.2.2.1 S1.2.2.2.2.2.1 (nI j33) (nI S1.2.2.2.2.2.2.2.2.length))))) := by rw [ef36, va_up_self]
        have h38 : f36 le = some (.inl (cI G, 16, .inl (jE (eS S0) (e8 ((ixS S1 (nI j33)).1) ((ixS S1 (nI j33)).2.1) ((ixS S1 (nI j33)).2.2.1) ((ixS S1 (nI j33)).2.2.2.1) ((ixS S1 (nI j33)).2.2.2.2.1) ((ixS S1 (nI j33)).2.2.2.2.2.1) ((ixS S1 (nI j33)).2.2.2.2.2.2.1) (nI (ixS S1 (nI j33)).2.2.2.2.2.2.2.2.length))))) := h37
        refine lv_aload_n hx hb dL_links_352 rfl (lv_at hl9 6 rfl) ?_
        refine lv_iconst (v := 2) hx hb dL_links_353 (by decide) ?_
        refine lv_iconst (v := 5) hx hb dL_links_354 (by decide) ?_
        refine lv_iconst (v := 5) hx hb dL_links_355 (by decide) ?_
        have h39 : f36 lx = some (.inl (cJ G, 64, .inr (.inl xs0))) := by rw [ef36, va_up_ne _ _ n_lx_le]; exact k_lx
        have h40 : f36 ly = some (.inl (cJ G, 64, .inr (.inl xs1))) := by rw [ef36, va_up_ne _ _ n_ly_le]; exact k_ly
        have h41 : f36 lw = some (.inl (cI G, 12, .inl (j6 gw0 gw1))) := by rw [ef36, va_up_ne _ _ n_lw_le]; exact k_lw
        have h42 : f36 la = some (.inl (cI G, 12, .inl (j6 ga0 ga1))) := by rw [ef36, va_up_ne _ _ n_la_le]; exact k_la
        have h43 : f36 lq = some (.inl (cI G, 12, .inl (j6 S0.2.2.2.2.2.2.2.1 S1.2.2.2.2.2.2.2.1))) := by rw [ef36, va_up_ne _ _ n_lq_le]; exact k_lq
        have hC44 : CXW G f36 xo ez eo bu nw0 na0 nq0 nr0 nw1 na1 nq1 nr1 bs bp bh bf bl bg S0 S1 gw0 ga0 gw1 ga1 n a cg x sa pk fl gv gh gl := CXW.eq hC (show hEq [lx, ly, lw, la, lq, le] f f36 from (by rw [ef36]; exact hEq.up (List.mem_cons_of_mem _ (List.mem_cons_of_mem _ (List.mem_cons_of_mem _ (List.mem_cons_of_mem _ (List.mem_cons_of_mem _ List.mem_cons_self))))))) hdis (fun b9 hb9 => by
            simp only [List.mem_cons, List.not_mem_nil, or_false] at hb9
            rcases hb9 with hb9 | hb9 | hb9 | hb9 | hb9 | hb9
            · rw [hb9]; exact ⟨_, _, k_lx, h39, (Nat.ne_of_beq_eq_false rfl), (Nat.ne_of_beq_eq_false rfl)⟩
            · rw [hb9]; exact ⟨_, _, k_ly, h40, (Nat.ne_of_beq_eq_false rfl), (Nat.ne_of_beq_eq_false rfl)⟩
            · rw [hb9]; exact ⟨_, _, k_lw, h41, (Nat.ne_of_beq_eq_false rfl), (Nat.ne_of_beq_eq_false rfl)⟩
            · rw [hb9]; exact ⟨_, _, k_la, h42, (Nat.ne_of_beq_eq_false rfl), (Nat.ne_of_beq_eq_false rfl)⟩
            · rw [hb9]; exact ⟨_, _, k_lq, h43, (Nat.ne_of_beq_eq_false rfl), (Nat.ne_of_beq_eq_false rfl)⟩
            · rw [hb9]; exact ⟨_, _, h1, h38, (Nat.ne_of_beq_eq_false rfl), (Nat.ne_of_beq_eq_false rfl)⟩)
        refine hp_SH (As := [.ref xo, .int 2, .int 5, .int 5]) (rest := []) B0 hw hS (c_V_setMagic_E hl G f36 xo ez eo bu nw0 na0 nq0 nr0 nw1 na1 nq1 nr1 bs bp bh bf bl bg S0 S1 gw0 ga0 gw1 ga1 n a cg x sa pk fl gv gh gl hC44 (Nat.lt_of_le_of_lt hl0 (by decide)) (Nat.lt_of_le_of_lt hl1 (by decide)) 2 5 (by decide)) mH_L_setsMagic qM_L_102 rfl rfl hl9.1 (Nat.le_of_ble_eq_true rfl) ⟨⟨Nat.le_of_ble_eq_true rfl, Nat.le_of_ble_eq_true rfl⟩, Nat.le_of_ble_eq_true rfl, Nat.le_of_ble_eq_true rfl⟩ dL_links_356 (fun E ce q9 f45 H locs hPX hw hS hce hcv hcl => ?_) (fun v f45 H locs hP hw hS => ?_)
        · exact hPX.elim
        · obtain ⟨ev9, hC46, k47⟩ := hP
          subst ev9
          have hC46 : CXW G f45 xo ez eo bu nw0 na0 nq0 nr0 nw1 na1 nq1 nr1 bs bp bh bf bl bg S0 S1 gw0 ga0 gw1 ga1 n a cg x sa pk fl gv gh gl := hC46
          refine W.eq (g2 := F0 m 359 ls [.int 0]) rfl ?_
          refine lv_if_ne (tgt := 382) hx hb dL_links_359 (by decide) (fun c9 => absurd (by decide) c9) (fun _ => ?_)
          refine lv_aload_n hx hb dL_links_362 rfl (lv_at hl9 6 rfl) ?_
          refine lv_iload hx hb dL_links_363 (lv_at hl9 5 rfl) ?_
          refine lv_iload hx hb dL_links_365 (lv_at hl9 1 rfl) ?_
          refine hp_S (As := [.int (nI j33)]) (rest := [.int 1, .ref xo]) B0 hw hS (c_L_number hl G f45 j33 (by omega)) mS_L_number qM_L_83 rfl rfl hl9.1 (Nat.le_of_ble_eq_true rfl) ⟨⟨Nat.le_of_ble_eq_true rfl, Nat.le_of_ble_eq_true rfl⟩, Nat.le_of_ble_eq_true rfl, Nat.le_of_ble_eq_true rfl⟩ dL_links_367 (fun E ce q9 f48 H locs hPX hw hS hce hcv hcl => ?_) (fun v f48 H locs hP hw hS => ?_)
          · exact hPX.elim
          · obtain ⟨ef9, ev9⟩ := hP
            rw [ef9] at hw
            subst ev9
            refine W.eq (g2 := F0 m 370 ls [.int (num (nI j33)), .int 1, .ref xo]) rfl ?_
            refine lv_iload hx hb dL_links_370 (lv_at hl9 0 rfl) ?_
            refine hp_SH (As := [.ref xo, .int 1, .int (num (nI j33)), .int (num S1.2.2.2.2.2.2.1)]) (rest := []) B0 hw hS (c_V_setMagic_1 hl G f45 xo ez eo bu nw0 na0 nq0 nr0 nw1 na1 nq1 nr1 bs bp bh bf bl bg S0 S1 gw0 ga0 gw1 ga1 n a cg x sa pk fl gv gh gl hC46 (Nat.lt_of_le_of_lt hl0 (by decide)) (Nat.lt_of_le_of_lt hl1 (by decide)) (nI j33)) mH_L_setsMagic qM_L_102 rfl rfl hl9.1 (Nat.le_of_ble_eq_true rfl) ⟨⟨Nat.le_of_ble_eq_true rfl, Nat.le_of_ble_eq_true rfl⟩, Nat.le_of_ble_eq_true rfl, Nat.le_of_ble_eq_true rfl⟩ dL_links_372 (fun E ce q9 f49 H locs hPX hw hS hce hcv hcl => ?_) (fun v f49 H locs hP hw hS => ?_)
            · exact hPX.elim
            · obtain ⟨ev9, hC50, k51⟩ := hP
              subst ev9
              have hC50 : CXW G f49 xo ez eo bu nw0 na0 nq0 nr0 nw1 na1 nq1 nr1 bs bp bh bf bl bg S0 (ixS S1 (nI j33)) gw0 ga0 gw1 ga1 n a cg x sa pk fl gv gh gl := hC50
              refine W.eq (g2 := F0 m 375 ls [.int 1]) rfl ?_
              refine lv_if_eq (tgt := 382) hx hb dL_links_375 (by decide) (fun c9 => absurd c9 (by decide)) (fun _ => ?_)
              refine lv_iconst (v := 1) hx hb dL_links_378 (by decide) ?_
              refine lv_goto (tgt := 383) hx hb dL_links_379 (by decide) ?_
              have h52 : f45 lx = some (.inl (cJ G, 64, .inr (.inl xs0))) := k47 _ _ h39 (Nat.ne_of_beq_eq_false rfl) (hdos _ List.mem_cons_self)
              have h53 : f49 lx = some (.inl (cJ G, 64, .inr (.inl xs0))) := k51 _ _ h52 (Nat.ne_of_beq_eq_false rfl) (hdos _ List.mem_cons_self)
              have h54 : f45 ly = some (.inl (cJ G, 64, .inr (.inl xs1))) := k47 _ _ h40 (Nat.ne_of_beq_eq_false rfl) (hdos _ (List.mem_cons_of_mem _ List.mem_cons_self))
              have h55 : f49 ly = some (.inl (cJ G, 64, .inr (.inl xs1))) := k51 _ _ h54 (Nat.ne_of_beq_eq_false rfl) (hdos _ (List.mem_cons_of_mem _ List.mem_cons_self))
              have h56 : f45 lw = some (.inl (cI G, 12, .inl (j6 gw0 gw1))) := k47 _ _ h41 (Nat.ne_of_beq_eq_false rfl) (hdos _ (List.mem_cons_of_mem _ (List.mem_cons_of_mem _ List.mem_cons_self)))
              have h57 : f49 lw = some (.inl (cI G, 12, .inl (j6 gw0 gw1))) := k51 _ _ h56 (Nat.ne_of_beq_eq_false rfl) (hdos _ (List.mem_cons_of_mem _ (List.mem_cons_of_mem _ List.mem_cons_self)))
              have h58 : f45 la = some (.inl (cI G, 12, .inl (j6 ga0 ga1))) := k47 _ _ h42 (Nat.ne_of_beq_eq_false rfl) (hdos _ (List.mem_cons_of_mem _ (List.mem_cons_of_mem _ (List.mem_cons_of_mem _ List.mem_cons_self))))
              have h59 : f49 la = some (.inl (cI G, 12, .inl (j6 ga0 ga1))) := k51 _ _ h58 (Nat.ne_of_beq_eq_false rfl) (hdos _ (List.mem_cons_of_mem _ (List.mem_cons_of_mem _ (List.mem_cons_of_mem _ List.mem_cons_self))))
              have h60 : f45 lq = some (.inl (cI G, 12, .inl (j6 S0.2.2.2.2.2.2.2.1 S1.2.2.2.2.2.2.2.1))) := k47 _ _ h43 (Nat.ne_of_beq_eq_false rfl) (hdos _ (List.mem_cons_of_mem _ (List.mem_cons_of_mem _ (List.mem_cons_of_mem _ (List.mem_cons_of_mem _ List.mem_cons_self)))))
              have h61 : f49 lq = some (.inl (cI G, 12, .inl (j6 S0.2.2.2.2.2.2.2.1 S1.2.2.2.2.2.2.2.1))) := k51 _ _ h60 (Nat.ne_of_beq_eq_false rfl) (hdos _ (List.mem_cons_of_mem _ (List.mem_cons_of_mem _ (List.mem_cons_of_mem _ (List.mem_cons_of_mem _ List.mem_cons_self)))))
              have h62 : f45 le = some (.inl (cI G, 16, .inl (jE (eS S0) (e8 ((ixS S1 (nI j33)).1) ((ixS S1 (nI j33)).2.1) ((ixS S1 (nI j33)).2.2.1) ((ixS S1 (nI j33)).2.2.2.1) ((ixS S1 (nI j33)).2.2.2.2.1) ((ixS S1 (nI j33)).2.2.2.2.2.1) ((ixS S1 (nI j33)).2.2.2.2.2.2.1) (nI (ixS S1 (nI j33)).2.2.2.2.2.2.2.2.length))))) := k47 _ _ h38 (Nat.ne_of_beq_eq_false rfl) (hdos _ (List.mem_cons_of_mem _ (List.mem_cons_of_mem _ (List.mem_cons_of_mem _ (List.mem_cons_of_mem _ (List.mem_cons_of_mem _ List.mem_cons_self))))))
              have h63 : f49 le = some (.inl (cI G, 16, .inl (jE (eS S0) (e8 ((ixS S1 (nI j33)).1) ((ixS S1 (nI j33)).2.1) ((ixS S1 (nI j33)).2.2.1) ((ixS S1 (nI j33)).2.2.2.1) ((ixS S1 (nI j33)).2.2.2.2.1) ((ixS S1 (nI j33)).2.2.2.2.2.1) ((ixS S1 (nI j33)).2.2.2.2.2.2.1) (nI (ixS S1 (nI j33)).2.2.2.2.2.2.2.2.length))))) := k51 _ _ h62 (Nat.ne_of_beq_eq_false rfl) (hdos _ (List.mem_cons_of_mem _ (List.mem_cons_of_mem _ (List.mem_cons_of_mem _ (List.mem_cons_of_mem _ (List.mem_cons_of_mem _ List.mem_cons_self))))))
              exact hp_zret (v := 1) B0 hw hS hr ⟨Nat.le_of_ble_eq_true rfl, Nat.le_of_ble_eq_true rfl⟩ (rfl) dL_links_383 (⟨rfl, S0, (ixS S1 (nI j33)), gw0, ga0, gw1, ga1, hC50, ⟨⟨_, h53, hX0⟩, ⟨_, h55, hX1⟩, h57, h59, h61, h63⟩, ⟨SOK.mono hSo0 (by omega), SOK.mono (SOK.ix hSo1 (x := j33) (by omega)) (by omega), hgw0, hga0, hgw1, hga1⟩, hl0, hl1, ((show hKn [lx, ly, lw, la, lq, le, xo, ez, eo, bu, nw0, na0, nq0, nr0, nw1, na1, nq1, nr1, bs, bp, bh, bf, bl, bg] f f36 from (by rw [ef36]; exact hKn.up (List.mem_cons_of_mem _ (List.mem_cons_of_mem _ (List.mem_cons_of_mem _ (List.mem_cons_of_mem _ (List.mem_cons_of_mem _ List.mem_cons_self))))))).tr ((show hKn [lx, ly, lw, la, lq, le, xo, ez, eo, bu, nw0, na0, nq0, nr0, nw1, na1, nq1, nr1, bs, bp, bh, bf, bl, bg] f36 f45 from (hKn.mono k47 sbA)).tr (show hKn [lx, ly, lw, la, lq, le, xo, ez, eo, bu, nw0, na0, nq0, nr0, nw1, na1, nq1, nr1, bs, bp, bh, bf, bl, bg] f45 f49 from (hKn.mono k51 sbA))))⟩)

set_option maxHeartbeats 4000000 in
set_option maxRecDepth 100000 in
theorem lk_o_0 {l : Launch} (hl : l.stackTraces = false) (G : hG) (f : hM) (xo ez eo bu nw0 na0 nq0 nr0 nw1 na1 nq1 nr1 bs bp bh bf bl bg : Nat) (S0 : ES) (S1 : ES) (gw0 : Nat → Int32) (ga0 : Nat → Int32) (gw1 : Nat → Int32) (ga1 : Nat → Int32) (n : Nat) (a : Nat) (cg : Nat) (x : Nat) (sa : Nat → Nat) (pk : Nat → Nat) (fl : Nat → Nat) (gv : Nat → Nat) (gh : Nat → Int32) (gl : Nat → Int32) (hC : CXW G f xo ez eo bu nw0 na0 nq0 nr0 nw1 na1 nq1 nr1 bs bp bh bf bl bg S0 S1 gw0 ga0 gw1 ga1 n a cg x sa pk fl gv gh gl) (lx ly lw la lq le : Nat) (hdis : ∀ p, p ∈ [xo, ez, eo, bu, nw0, na0, nq0, nr0, nw1, na1, nq1, nr1, bs, bp, bh, bf, bl, bg] → p ∉ [lx, ly, lw, la, lq, le]) (hdos : ∀ p, p ∈ [lx, ly, lw, la, lq, le] → p ∉ [xo, ez, eo, bu, nw0, na0, nq0, nr0, nw1, na1, nq1, nr1, bs, bp, bh, bf, bl, bg]) (n_lx_ly : lx ≠ ly) (n_lw_la : lw ≠ la) (n_lw_lq : lw ≠ lq) (n_la_lq : la ≠ lq) (hLX : LX G f lx ly lw la lq le S0 S1 gw0 ga0 gw1 ga1) (b : Nat) (hInv : INV b S0 S1 gw0 ga0 gw1 ga1) (hbb : b + 200 ≤ 1000000) (hl0 : S0.2.2.2.2.2.2.2.2.length ≤ 52) (hl1 : S1.2.2.2.2.2.2.2.2.length ≤ 52) (ac : Nat) (hac : ac < 24) (hact : ac ≠ 22 → S0.2.2.2.2.2.2.2.2.length ≤ 40 ∧ S1.2.2.2.2.2.2.2.2.length ≤ 40) (u z : Int32) {p : Program} {e : Env} {s : State} {m : MethodId} {args : Array Value} {below : List Frame} {meth : Method} {c : Code} (B0 : hB p l s m args meth c cL_links 17 RL G) (hr : meth.sig.returnType = some .boolean) {H : Heap} {locs : List Loc} {ls : Array Slot} (hw : hW G f H) (hS : va_S (hFr G) s.heap H locs) (j13 : Nat) (hj13 : j13 < 6) (hc : ¬ 10 ≤ nI ac) (hl9 : lv_has ls 17 [(13, .int (nI j13)), (12, .ref lx), (11, .int 0), (10, .int 0), (0, .ref xo), (1, .int (nI ac)), (2, .int u), (3, .int z), (4, .ref lx), (5, .ref ly), (6, .ref lw), (7, .ref la), (8, .ref lq), (9, .ref le)]) : W p l e { frames := 9, cells := 203, slots := 1118, locals := 178 } s m args below meth c H locs 0 0 (vx_MQ below (hQ G (fun v f1 => v = some (.int 1) ∧ ∃ (S2 S3 : ES) (w0 a0 w1 a1 : Nat → Int32), CXW G f1 xo ez eo bu nw0 na0 nq0 nr0 nw1 na1 nq1 nr1 bs bp bh bf bl bg S2 S3 w0 a0 w1 a1 n a cg x sa pk fl gv gh gl ∧ LX G f1 lx ly lw la lq le S2 S3 w0 a0 w1 a1 ∧ INV (b + 100) S2 S3 w0 a0 w1 a1 ∧ S2.2.2.2.2.2.2.2.2.length ≤ 52 ∧ S3.2.2.2.2.2.2.2.2.length ≤ 52 ∧ hKn [lx, ly, lw, la, lq, le, xo, ez, eo, bu, nw0, na0, nq0, nr0, nw1, na1, nq1, nr1, bs, bp, bh, bf, bl, bg] f f1)) (hX G (fun E f1 => False)) args s 203 1118 (hFr G)) (F0 m 390 ls []) := by
  have hx := B0.1
  have hb := B0.2.1
  obtain ⟨⟨xs0, k_lx, hX0⟩, ⟨xs1, k_ly, hX1⟩, k_lw, k_la, k_lq, k_le⟩ := hLX
  obtain ⟨hSo0, hSo1, hgw0, hga0, hgw1, hga1⟩ := id hInv
  have n_lx_lw : lx ≠ lw := hneL k_lx k_lw (Nat.ne_of_beq_eq_false rfl)
  have n_lx_la : lx ≠ la := hneL k_lx k_la (Nat.ne_of_beq_eq_false rfl)
  have n_lx_lq : lx ≠ lq := hneL k_lx k_lq (Nat.ne_of_beq_eq_false rfl)
  have n_lx_le : lx ≠ le := hneL k_lx k_le (Nat.ne_of_beq_eq_false rfl)
  have n_ly_lw : ly ≠ lw := hneL k_ly k_lw (Nat.ne_of_beq_eq_false rfl)
  have n_ly_la : ly ≠ la := hneL k_ly k_la (Nat.ne_of_beq_eq_false rfl)
  have n_ly_lq : ly ≠ lq := hneL k_ly k_lq (Nat.ne_of_beq_eq_false rfl)
  have n_ly_le : ly ≠ le := hneL k_ly k_le (Nat.ne_of_beq_eq_false rfl)
  have n_lw_le : lw ≠ le := hneL k_lw k_le (Nat.ne_of_beq_eq_false rfl)
  have n_la_le : la ≠ le := hneL k_la k_le (Nat.ne_of_beq_eq_false rfl)
  have n_lq_le : lq ≠ le := hneL k_lq k_le (Nat.ne_of_beq_eq_false rfl)
  have sbA : ∀ x9, x9 ∈ [xo, ez, eo, bu, nw0, na0, nq0, nr0, nw1, na1, nq1, nr1, bs, bp, bh, bf, bl, bg] → x9 ∈ [lx, ly, lw, la, lq, le, xo, ez, eo, bu, nw0, na0, nq0, nr0, nw1, na1, nq1, nr1, bs, bp, bh, bf, bl, bg] := sbA
  obtain ⟨xx, hxx, hx4⟩ := hSo0.2.2.2.2.1
  have h1 : f le = some (.inl (cI G, 16, .inl (jE (e8 S0.1 S0.2.1 S0.2.2.1 S0.2.2.2.1 S0.2.2.2.2.1 S0.2.2.2.2.2.1 S0.2.2.2.2.2.2.1 (nI S0.2.2.2.2.2.2.2.2.length)) (eS S1)))) := k_le
  refine lv_aload hx hb dL_links_390 (lv_at hl9 13 rfl) ?_
  refine lv_iload hx hb dL_links_392 (lv_at hl9 2 rfl) ?_
  refine hp_iald B0 hw h1 (by unfold vp_in; decide) dL_links_394 ?_
  refine hp_c (v := S0.1) (rfl) ?_
  refine lv_if_le (tgt := 425) hx hb dL_links_395 (by decide) (fun c2 => ?_) (fun c2 => ?_)
  · refine lv_bipush (v := 6) hx hb dL_links_425 (by decide) ?_
    refine lv_iload hx hb dL_links_427 (lv_at hl9 3 rfl) ?_
    refine lv_imul hx hb dL_links_429 ?_
    refine hp_c (v := 0) (by decide) ?_
    refine lv_istore (lv' := [(14, .int 0), (13, .int (nI j13)), (12, .ref lx), (11, .int 0), (10, .int 0), (0, .ref xo), (1, .int (nI ac)), (2, .int u), (3, .int z), (4, .ref lx), (5, .ref ly), (6, .ref lw), (7, .ref la), (8, .ref lq), (9, .ref le)]) hx hb dL_links_430 hl9 (by decide) rfl (fun ls hl9 => ?_)
    refine lv_iload hx hb dL_links_432 (lv_at hl9 0 rfl) ?_
    refine lv_bipush (v := 6) hx hb dL_links_434 (by decide) ?_
    refine lv_iload hx hb dL_links_436 (lv_at hl9 4 rfl) ?_
    refine lv_imul hx hb dL_links_438 ?_
    refine hp_c (v := 0) (by decide) ?_
    refine lv_bipush (v := 6) hx hb dL_links_439 (by decide) ?_
    refine lv_iadd hx hb dL_links_441 ?_
    refine hp_c (v := 6) (by decide) ?_
    refine lv_icmp_ge (tgt := 461) hx hb dL_links_442 (by decide) (fun c9 => absurd c9 (by decide)) (fun _ => ?_)
    refine lv_aload hx hb dL_links_445 (lv_at hl9 13 rfl) ?_
    refine lv_iload hx hb dL_links_447 (lv_at hl9 0 rfl) ?_
    refine lv_aload hx hb dL_links_449 (lv_at hl9 11 rfl) ?_
    refine lv_iload hx hb dL_links_451 (lv_at hl9 0 rfl) ?_
    refine hp_iald B0 hw k_lw (by unfold vp_in; decide) dL_links_453 ?_
    refine hp_c (v := (gw0 0)) (rfl) ?_
    refine hp_iast B0 hw hS k_lq (by unfold vp_in; decide) dL_links_454 (fun H locs f3 ef3 hw hS => ?_)
    rw [show (upd (j6 S0.2.2.2.2.2.2.2.1 S1.2.2.2.2.2.2.2.1) (0 : Int32).toNatClampNeg (gw0 0) : Nat → Int32) = (j6 (upd S0.2.2.2.2.2.2.2.1 0 (gw0 0)) S1.2.2.2.2.2.2.2.1) from (by rw [show (0 : Int32).toNatClampNeg = 0 from rfl, j6_u0 (by omega)])] at ef3
    have h4 : f3 lq = some (.inl (cI G, 12, .inl (j6 (upd S0.2.2.2.2.2.2.2.1 0 (gw0 0)) S1.2.2.2.2.2.2.2.1))) := by rw [ef3, va_up_self]
    refine lv_iinc (v := 1) (lv' := [(14, .int 1), (13, .int (nI j13)), (12, .ref lx), (11, .int 0), (10, .int 0), (0, .ref xo), (1, .int (nI ac)), (2, .int u), (3, .int z), (4, .ref lx), (5, .ref ly), (6, .ref lw), (7, .ref la), (8, .ref lq), (9, .ref le)]) hx hb dL_links_455 hl9 (k := 0) rfl (by decide) (by decide) rfl (fun ls hl9 => ?_)
    refine lv_goto (tgt := 432) hx hb dL_links_458 (by decide) ?_
    refine lv_iload hx hb dL_links_432 (lv_at hl9 0 rfl) ?_
    refine lv_bipush (v := 6) hx hb dL_links_434 (by decide) ?_
    refine lv_iload hx hb dL_links_436 (lv_at hl9 4 rfl) ?_
    refine lv_imul hx hb dL_links_438 ?_
    refine hp_c (v := 0) (by decide) ?_
    refine lv_bipush (v := 6) hx hb dL_links_439 (by decide) ?_
    refine lv_iadd hx hb dL_links_441 ?_
    refine hp_c (v := 6) (by decide) ?_
    refine lv_icmp_ge (tgt := 461) hx hb dL_links_442 (by decide) (fun c9 => absurd c9 (by decide)) (fun _ => ?_)
    refine lv_aload hx hb dL_links_445 (lv_at hl9 13 rfl) ?_
    refine lv_iload hx hb dL_links_447 (lv_at hl9 0 rfl) ?_
    refine lv_aload hx hb dL_links_449 (lv_at hl9 11 rfl) ?_
    refine lv_iload hx hb dL_links_451 (lv_at hl9 0 rfl) ?_
    have h5 : f3 lw = some (.inl (cI G, 12, .inl (j6 gw0 gw1))) := by rw [ef3, va_up_ne _ _ n_lw_lq]; exact k_lw
    refine hp_iald B0 hw h5 (by unfold vp_in; decide) dL_links_453 ?_
    refine hp_c (v := (gw0 1)) (rfl) ?_
    refine hp_iast B0 hw hS h4 (by unfold vp_in; decide) dL_links_454 (fun H locs f6 ef6 hw hS => ?_)
    rw [show (upd (j6 (upd S0.2.2.2.2.2.2.2.1 0 (gw0 0)) S1.2.2.2.2.2.2.2.1) (1 : Int32).toNatClampNeg (gw0 1) : Nat → Int32) = (j6 (upd (upd S0.2.2.2.2.2.2.2.1 0 (gw0 0)) 1 (gw0 1)) S1.2.2.2.2.2.2.2.1) from (by rw [show (1 : Int32).toNatClampNeg = 1 from rfl, j6_u0 (by omega)])] at ef6
    have e7 : f6 = va_up f lq (some (.inl (cI G, 12, .inl (j6 (upd (upd S0.2.2.2.2.2.2.2.1 0 (gw0 0)) 1 (gw0 1)) S1.2.2.2.2.2.2.2.1)))) := by rw [ef6, ef3, bx_uu]
    have h8 : f6 lq = some (.inl (cI G, 12, .inl (j6 (upd (upd S0.2.2.2.2.2.2.2.1 0 (gw0 0)) 1 (gw0 1)) S1.2.2.2.2.2.2.2.1))) := by rw [ef6, va_up_self]
    refine lv_iinc (v := 2) (lv' := [(14, .int 2), (13, .int (nI j13)), (12, .ref lx), (11, .int 0), (10, .int 0), (0, .ref xo), (1, .int (nI ac)), (2, .int u), (3, .int z), (4, .ref lx), (5, .ref ly), (6, .ref lw), (7, .ref la), (8, .ref lq), (9, .ref le)]) hx hb dL_links_455 hl9 (k := 0) rfl (by decide) (by decide) rfl (fun ls hl9 => ?_)
    refine lv_goto (tgt := 432) hx hb dL_links_458 (by decide) ?_
    refine lv_iload hx hb dL_links_432 (lv_at hl9 0 rfl) ?_
    refine lv_bipush (v := 6) hx hb dL_links_434 (by decide) ?_
    refine lv_iload hx hb dL_links_436 (lv_at hl9 4 rfl) ?_
    refine lv_imul hx hb dL_links_438 ?_
    refine hp_c (v := 0) (by decide) ?_
    refine lv_bipush (v := 6) hx hb dL_links_439 (by decide) ?_
    refine lv_iadd hx hb dL_links_441 ?_
    refine hp_c (v := 6) (by decide) ?_
    refine lv_icmp_ge (tgt := 461) hx hb dL_links_442 (by decide) (fun c9 => absurd c9 (by decide)) (fun _ => ?_)
    refine lv_aload hx hb dL_links_445 (lv_at hl9 13 rfl) ?_
    refine lv_iload hx hb dL_links_447 (lv_at hl9 0 rfl) ?_
    refine lv_aload hx hb dL_links_449 (lv_at hl9 11 rfl) ?_
    refine lv_iload hx hb dL_links_451 (lv_at hl9 0 rfl) ?_
    have h9 : f6 lw = some (.inl (cI G, 12, .inl (j6 gw0 gw1))) := by rw [e7, va_up_ne _ _ n_lw_lq]; exact k_lw
    refine hp_iald B0 hw h9 (by unfold vp_in; decide) dL_links_453 ?_
    refine hp_c (v := (gw0 2)) (rfl) ?_
    refine hp_iast B0 hw hS h8 (by unfold vp_in; decide) dL_links_454 (fun H locs f10 ef10 hw hS => ?_)
    rw [show (upd (j6 (upd (upd S0.2.2.2.2.2.2.2.1 0 (gw0 0)) 1 (gw0 1)) S1.2.2.2.2.2.2.2.1) (2 : Int32).toNatClampNeg (gw0 2) : Nat → Int32) = (j6 (upd (upd (upd S0.2.2.2.2.2.2.2.1 0 (gw0 0)) 1 (gw0 1)) 2 (gw0 2)) S1.2.2.2.2.2.2.2.1) from (by rw [show (2 : Int32).toNatClampNeg = 2 from rfl, j6_u0 (by omega)])] at ef10
    have e11 : f10 = va_up f lq (some (.inl (cI G, 12, .inl (j6 (upd (upd (upd S0.2.2.2.2.2.2.2.1 0 (gw0 0)) 1 (gw0 1)) 2 (gw0 2)) S1.2.2.2.2.2.2.2.1)))) := by rw [ef10, e7, bx_uu]
    have h12 : f10 lq = some (.inl (cI G, 12, .inl (j6 (upd (upd (upd S0.2.2.2.2.2.2.2.1 0 (gw0 0)) 1 (gw0 1)) 2 (gw0 2)) S1.2.2.2.2.2.2.2.1))) := by rw [ef10, va_up_self]
    refine lv_iinc (v := 3) (lv' := [(14, .int 3), (13, .int (nI j13)), (12, .ref lx), (11, .int 0), (10, .int 0), (0, .ref xo), (1, .int (nI ac)), (2, .int u), (3, .int z), (4, .ref lx), (5, .ref ly), (6, .ref lw), (7, .ref la), (8, .ref lq), (9, .ref le)]) hx hb dL_links_455 hl9 (k := 0) rfl (by decide) (by decide) rfl (fun ls hl9 => ?_)
    refine lv_goto (tgt := 432) hx hb dL_links_458 (by decide) ?_
    refine lv_iload hx hb dL_links_432 (lv_at hl9 0 rfl) ?_
    refine lv_bipush (v := 6) hx hb dL_links_434 (by decide) ?_
    refine lv_iload hx hb dL_links_436 (lv_at hl9 4 rfl) ?_
    refine lv_imul hx hb dL_links_438 ?_
    refine hp_c (v := 0) (by decide) ?_
    refine lv_bipush (v := 6) hx hb dL_links_439 (by decide) ?_
    refine lv_iadd hx hb dL_links_441 ?_
    refine hp_c (v := 6) (by decide) ?_
    refine lv_icmp_ge (tgt := 461) hx hb dL_links_442 (by decide) (fun c9 => absurd c9 (by decide)) (fun _ => ?_)
    refine lv_aload hx hb dL_links_445 (lv_at hl9 13 rfl) ?_
    refine lv_iload hx hb dL_links_447 (lv_at hl9 0 rfl) ?_
    refine lv_aload hx hb dL_links_449 (lv_at hl9 11 rfl) ?_
    refine lv_iload hx hb dL_links_451 (lv_at hl9 0 rfl) ?_
    have h13 : f10 lw = some (.inl (cI G, 12, .inl (j6 gw0 gw1))) := by rw [e11, va_up_ne _ _ n_lw_lq]; exact k_lw
    refine hp_iald B0 hw h13 (by unfold vp_in; decide) dL_links_453 ?_
    refine hp_c (v := (gw0 3)) (rfl) ?_
    refine hp_iast B0 hw hS h12 (by unfold vp_in; decide) dL_links_454 (fun H locs f14 ef14 hw hS => ?_)
    rw [show (upd (j6 (upd (upd (upd S0.2.2.2.2.2.2.2.1 0 (gw0 0)) 1 (gw0 1)) 2 (gw0 2)) S1.2.2.2.2.2.2.2.1) (3 : Int32).toNatClampNeg (gw0 3) : Nat → Int32) = (j6 (upd (upd (upd (upd S0.2.2.2.2.2.2.2.1 0 (gw0 0)) 1 (gw0 1)) 2 (gw0 2)) 3 (gw0 3)) S1.2.2.2.2.2.2.2.1) from (by rw [show (3 : Int32).toNatClampNeg = 3 from rfl, j6_u0 (by omega)])] at ef14
    have e15 : f14 = va_up f lq (some (.inl (cI G, 12, .inl (j6 (upd (upd (upd (upd S0.2.2.2.2.2.2.2.1 0 (gw0 0)) 1 (gw0 1)) 2 (gw0 2)) 3 (gw0 3)) S1.2.2.2.2.2.2.2.1)))) := by rw [ef14, e11, bx_uu]
    have h16 : f14 lq = some (.inl (cI G, 12, .inl (j6 (upd (upd (upd (upd S0.2.2.2.2.2.2.2.1 0 (gw0 0)) 1 (gw0 1)) 2 (gw0 2)) 3 (gw0 3)) S1.2.2.2.2.2.2.2.1))) := by rw [ef14, va_up_self]
    refine lv_iinc (v := 4) (lv' := [(14, .int 4), (13, .int (nI j13)), (12, .ref lx), (11, .int 0), (10, .int 0), (0, .ref xo), (1, .int (nI ac)), (2, .int u), (3, .int z), (4, .ref lx), (5, .ref ly), (6, .ref lw), (7, .ref la), (8, .ref lq), (9, .ref le)]) hx hb dL_links_455 hl9 (k := 0) rfl (by decide) (by decide) rfl (fun ls hl9 => ?_)
    refine lv_goto (tgt := 432) hx hb dL_links_458 (by decide) ?_
    refine lv_iload hx hb dL_links_432 (lv_at hl9 0 rfl) ?_
    refine lv_bipush (v := 6) hx hb dL_links_434 (by decide) ?_
    refine lv_iload hx hb dL_links_436 (lv_at hl9 4 rfl) ?_
    refine lv_imul hx hb dL_links_438 ?_
    refine hp_c (v := 0) (by decide) ?_
    refine lv_bipush (v := 6) hx hb dL_links_439 (by decide) ?_
    refine lv_iadd hx hb dL_links_441 ?_
    refine hp_c (v := 6) (by decide) ?_
    refine lv_icmp_ge (tgt := 461) hx hb dL_links_442 (by decide) (fun c9 => absurd c9 (by decide)) (fun _ => ?_)
    refine lv_aload hx hb dL_links_445 (lv_at hl9 13 rfl) ?_
    refine lv_iload hx hb dL_links_447 (lv_at hl9 0 rfl) ?_
    refine lv_aload hx hb dL_links_449 (lv_at hl9 11 rfl) ?_
    refine lv_iload hx hb dL_links_451 (lv_at hl9 0 rfl) ?_
    have h17 : f14 lw = some (.inl (cI G, 12, .inl (j6 gw0 gw1))) := by rw [e15, va_up_ne _ _ n_lw_lq]; exact k_lw
    refine hp_iald B0 hw h17 (by unfold vp_in; decide) dL_links_453 ?_
    refine hp_c (v := (gw0 4)) (rfl) ?_
    refine hp_iast B0 hw hS h16 (by unfold vp_in; decide) dL_links_454 (fun H locs f18 ef18 hw hS => ?_)
    rw [show (upd (j6 (upd (upd (upd (upd S0.2.2.2.2.2.2.2.1 0 (gw0 0)) 1 (gw0 1)) 2 (gw0 2)) 3 (gw0 3)) S1.2.2.2.2.2.2.2.1) (4 : Int32).toNatClampNeg (gw0 4) : Nat → Int32) = (j6 (upd (upd (upd (upd (upd S0.2.2.2.2.2.2.2.1 0 (gw0 0)) 1 (gw0 1)) 2 (gw0 2)) 3 (gw0 3)) 4 (gw0 4)) S1.2.2.2.2.2.2.2.1) from (by rw [show (4 : Int32).toNatClampNeg = 4 from rfl, j6_u0 (by omega)])] at ef18
    have e19 : f18 = va_up f lq (some (.inl (cI G, 12, .inl (j6 (upd (upd (upd (upd (upd S0.2.2.2.2.2.2.2.1 0 (gw0 0)) 1 (gw0 1)) 2 (gw0 2)) 3 (gw0 3)) 4 (gw0 4)) S1.2.2.2.2.2.2.2.1)))) := by rw [ef18, e15, bx_uu]
    have h20 : f18 lq = some (.inl (cI G, 12, .inl (j6 (upd (upd (upd (upd (upd S0.2.2.2.2.2.2.2.1 0 (gw0 0)) 1 (gw0 1)) 2 (gw0 2)) 3 (gw0 3)) 4 (gw0 4)) S1.2.2.2.2.2.2.2.1))) := by rw [ef18, va_up_self]
    refine lv_iinc (v := 5) (lv' := [(14, .int 5), (13, .int (nI j13)), (12, .ref lx), (11, .int 0), (10, .int 0), (0, .ref xo), (1, .int (nI ac)), (2, .int u), (3, .int z), (4, .ref lx), (5, .ref ly), (6, .ref lw), (7, .ref la), (8, .ref lq), (9, .ref le)]) hx hb dL_links_455 hl9 (k := 0) rfl (by decide) (by decide) rfl (fun ls hl9 => ?_)
    refine lv_goto (tgt := 432) hx hb dL_links_458 (by decide) ?_
    refine lv_iload hx hb dL_links_432 (lv_at hl9 0 rfl) ?_
    refine lv_bipush (v := 6) hx hb dL_links_434 (by decide) ?_
    refine lv_iload hx hb dL_links_436 (lv_at hl9 4 rfl) ?_
    refine lv_imul hx hb dL_links_438 ?_
    refine hp_c (v := 0) (by decide) ?_
    refine lv_bipush (v := 6) hx hb dL_links_439 (by decide) ?_
    refine lv_iadd hx hb dL_links_441 ?_
    refine hp_c (v := 6) (by decide) ?_
    refine lv_icmp_ge (tgt := 461) hx hb dL_links_442 (by decide) (fun c9 => absurd c9 (by decide)) (fun _ => ?_)
    refine lv_aload hx hb dL_links_445 (lv_at hl9 13 rfl) ?_
    refine lv_iload hx hb dL_links_447 (lv_at hl9 0 rfl) ?_
    refine lv_aload hx hb dL_links_449 (lv_at hl9 11 rfl) ?_
    refine lv_iload hx hb dL_links_451 (lv_at hl9 0 rfl) ?_
    have h21 : f18 lw = some (.inl (cI G, 12, .inl (j6 gw0 gw1))) := by rw [e19, va_up_ne _ _ n_lw_lq]; exact k_lw
    refine hp_iald B0 hw h21 (by unfold vp_in; decide) dL_links_453 ?_
    refine hp_c (v := (gw0 5)) (rfl) ?_
    refine hp_iast B0 hw hS h20 (by unfold vp_in; decide) dL_links_454 (fun H locs f22 ef22 hw hS => ?_)
    rw [show (upd (j6 (upd (upd (upd (upd (upd S0.2.2.2.2.2.2.2.1 0 (gw0 0)) 1 (gw0 1)) 2 (gw0 2)) 3 (gw0 3)) 4 (gw0 4)) S1.2.2.2.2.2.2.2.1) (5 : Int32).toNatClampNeg (gw0 5) : Nat → Int32) = (j6 (cpyF gw0 S0.2.2.2.2.2.2.2.1) S1.2.2.2.2.2.2.2.1) from (by rw [show (5 : Int32).toNatClampNeg = 5 from rfl, j6_u0 (by omega), cpy6])] at ef22
    have e23 : f22 = va_up f lq (some (.inl (cI G, 12, .inl (j6 (cpyF gw0 S0.2.2.2.2.2.2.2.1) S1.2.2.2.2.2.2.2.1)))) := by rw [ef22, e19, bx_uu]
    have h24 : f22 lq = some (.inl (cI G, 12, .inl (j6 (cpyF gw0 S0.2.2.2.2.2.2.2.1) S1.2.2.2.2.2.2.2.1))) := by rw [ef22, va_up_self]
    refine lv_iinc (v := 6) (lv' := [(14, .int 6), (13, .int (nI j13)), (12, .ref lx), (11, .int 0), (10, .int 0), (0, .ref xo), (1, .int (nI ac)), (2, .int u), (3, .int z), (4, .ref lx), (5, .ref ly), (6, .ref lw), (7, .ref la), (8, .ref lq), (9, .ref le)]) hx hb dL_links_455 hl9 (k := 0) rfl (by decide) (by decide) rfl (fun ls hl9 => ?_)
    refine lv_goto (tgt := 432) hx hb dL_links_458 (by decide) ?_
    refine lv_iload hx hb dL_links_432 (lv_at hl9 0 rfl) ?_
    refine lv_bipush (v := 6) hx hb dL_links_434 (by decide) ?_
    refine lv_iload hx hb dL_links_436 (lv_at hl9 4 rfl) ?_
    refine lv_imul hx hb dL_links_438 ?_
    refine hp_c (v := 0) (by decide) ?_
    refine lv_bipush (v := 6) hx hb dL_links_439 (by decide) ?_
    refine lv_iadd hx hb dL_links_441 ?_
    refine hp_c (v := 6) (by decide) ?_
    refine lv_icmp_ge (tgt := 461) hx hb dL_links_442 (by decide) (fun _ => ?_) (fun c9 => absurd (by decide) c9)
    refine lv_aload hx hb dL_links_461 (lv_at hl9 14 rfl) ?_
    refine lv_iload hx hb dL_links_463 (lv_at hl9 3 rfl) ?_
    refine lv_iconst (v := 1) hx hb dL_links_465 (by decide) ?_
    have h25 : f22 le = some (.inl (cI G, 16, .inl (jE (e8 S0.1 S0.2.1 S0.2.2.1 S0.2.2.2.1 S0.2.2.2.2.1 S0.2.2.2.2.2.1 S0.2.2.2.2.2.2.1 (nI S0.2.2.2.2.2.2.2.2.length)) (eS S1)))) := by rw [e23, va_up_ne _ _ (Ne.symm n_lq_le)]; exact h1
    refine hp_iast B0 hw hS h25 (by unfold vp_in; decide) dL_links_466 (fun H locs f26 ef26 hw hS => ?_)
    rw [show (upd (jE (e8 S0.1 S0.2.1 S0.2.2.1 S0.2.2.2.1 S0.2.2.2.2.1 S0.2.2.2.2.2.1 S0.2.2.2.2.2.2.1 (nI S0.2.2.2.2.2.2.2.2.length)) (eS S1)) (0 : Int32).toNatClampNeg 1 : Nat → Int32) = (jE (e8 1 S0.2.1 S0.2.2.1 S0.2.2.2.1 S0.2.2.2.2.1 S0.2.2.2.2.2.1 S0.2.2.2.2.2.2.1 (nI S0.2.2.2.2.2.2.2.2.length)) (eS S1)) from (by rw [show (0 : Int32).toNatClampNeg = 0 from rfl, jE_u0 (by omega), e8_u0])] at ef26
    have h27 : f26 le = some (.inl (cI G, 16, .inl (jE (e8 1 S0.2.1 S0.2.2.1 S0.2.2.2.1 S0.2.2.2.2.1 S0.2.2.2.2.2.1 S0.2.2.2.2.2.2.1 (nI S0.2.2.2.2.2.2.2.2.length)) (eS S1)))) := by rw [ef26, va_up_self]
    refine lv_aload hx hb dL_links_467 (lv_at hl9 14 rfl) ?_
    refine lv_iload hx hb dL_links_469 (lv_at hl9 3 rfl) ?_
    refine lv_iconst (v := 2) hx hb dL_links_471 (by decide) ?_
    refine lv_iadd hx hb dL_links_472 ?_
    refine hp_c (v := 2) (by decide) ?_
    refine lv_iconst (v := 0) hx hb dL_links_473 (by decide) ?_
    refine hp_iast B0 hw hS h27 (by unfold vp_in; decide) dL_links_474 (fun H locs f28 ef28 hw hS => ?_)
    rw [show (upd (jE (e8 1 S0.2.1 S0.2.2.1 S0.2.2.2.1 S0.2.2.2.2.1 S0.2.2.2.2.2.1 S0.2.2.2.2.2.2.1 (nI S0.2.2.2.2.2.2.2.2.length)) (eS S1)) (2 : Int32).toNatClampNeg 0 : Nat → Int32) = (jE (e8 1 S0.2.1 0 S0.2.2.2.1 S0.2.2.2.2.1 S0.2.2.2.2.2.1 S0.2.2.2.2.2.2.1 (nI S0.2.2.2.2.2.2.2.2.length)) (eS S1)) from (by rw [show (2 : Int32).toNatClampNeg = 2 from rfl, jE_u0 (by omega), e8_u2])] at ef28
    have e29 : f28 = va_up f22 le (some (.inl (cI G, 16, .inl (jE (e8 1 S0.2.1 0 S0.2.2.2.1 S0.2.2.2.2.1 S0.2.2.2.2.2.1 S0.2.2.2.2.2.2.1 (nI S0.2.2.2.2.2.2.2.2.length)) (eS S1))))) := by rw [ef28, ef26, bx_uu]
    have h30 : f28 le = some (.inl (cI G, 16, .inl (jE (e8 1 S0.2.1 0 S0.2.2.2.1 S0.2.2.2.2.1 S0.2.2.2.2.2.1 S0.2.2.2.2.2.2.1 (nI S0.2.2.2.2.2.2.2.2.length)) (eS S1)))) := by rw [ef28, va_up_self]
    obtain ⟨h40a, h40b⟩ := hact (fun e9 => by subst e9; exact absurd (by decide) hc)
    refine lv_aload hx hb dL_links_475 (lv_at hl9 2 rfl) ?_
    refine lv_aload hx hb dL_links_477 (lv_at hl9 13 rfl) ?_
    refine lv_aload hx hb dL_links_479 (lv_at hl9 14 rfl) ?_
    refine lv_iload hx hb dL_links_481 (lv_at hl9 4 rfl) ?_
    have h31 : f22 lx = some (.inl (cJ G, 64, .inr (.inl xs0))) := by rw [e23, va_up_ne _ _ n_lx_lq]; exact k_lx
    have h32 : f28 lx = some (.inl (cJ G, 64, .inr (.inl xs0))) := by rw [e29, va_up_ne _ _ n_lx_le]; exact h31
    have h33 : f28 lq = some (.inl (cI G, 12, .inl (j6 (cpyF gw0 S0.2.2.2.2.2.2.2.1) S1.2.2.2.2.2.2.2.1))) := by rw [e29, va_up_ne _ _ n_lq_le]; exact h24
    refine hp_S (As := [.ref lx, .ref lq, .ref le, .int 0]) (rest := []) B0 hw hS (c_L_beg_0 hl G f28 lx lq le 1 S0.2.1 0 S0.2.2.2.1 S0.2.2.2.2.1 S0.2.2.2.2.2.1 S0.2.2.2.2.2.2.1 (cpyF gw0 S0.2.2.2.2.2.2.2.1) S0.2.2.2.2.2.2.2.2 (eS S1) S1.2.2.2.2.2.2.2.1 b (SOK.opn0 hSo0 hgw0) (by omega) xs0 hX0 (Nat.lt_of_le_of_lt hl0 (by decide)) h32 h33 h30) mS_L_beg qM_L_86 rfl rfl hl9.1 (Nat.le_of_ble_eq_true rfl) ⟨⟨Nat.le_of_ble_eq_true rfl, Nat.le_of_ble_eq_true rfl⟩, Nat.le_of_ble_eq_true rfl, Nat.le_of_ble_eq_true rfl⟩ dL_links_483 (fun E ce q9 f34 H locs hPX hw hS hce hcv hcl => ?_) (fun v f34 H locs hP hw hS => ?_)
    · exact hPX.elim
    · obtain ⟨ev9, ⟨xs35, h36, hX37⟩, h38, k39⟩ := hP
      subst ev9
      have h40 : f34 le = some (.inl (cI G, 16, .inl (jE (e8 ((openS gw0 S0).1) ((openS gw0 S0).2.1) ((openS gw0 S0).2.2.1) ((openS gw0 S0).2.2.2.1) ((openS gw0 S0).2.2.2.2.1) ((openS gw0 S0).2.2.2.2.2.1) ((openS gw0 S0).2.2.2.2.2.2.1) (nI (openS gw0 S0).2.2.2.2.2.2.2.2.length)) (eS S1)))) := h38
      refine W.eq (g2 := F0 m 486 ls [.int (begV (1, S0.2.1, 0, S0.2.2.2.1, S0.2.2.2.2.1, S0.2.2.2.2.2.1, S0.2.2.2.2.2.2.1, (cpyF gw0 S0.2.2.2.2.2.2.2.1), S0.2.2.2.2.2.2.2.2))]) rfl ?_
      refine lv_pop hx hb dL_links_486 rfl ?_
      refine lv_aload_n hx hb dL_links_487 rfl (lv_at hl9 5 rfl) ?_
      refine lv_iconst (v := (-1)) hx hb dL_links_488 (by decide) ?_
      have h41 : f22 ly = some (.inl (cJ G, 64, .inr (.inl xs1))) := by rw [e23, va_up_ne _ _ n_ly_lq]; exact k_ly
      have h42 : f28 ly = some (.inl (cJ G, 64, .inr (.inl xs1))) := by rw [e29, va_up_ne _ _ n_ly_le]; exact h41
      have h43 : f34 ly = some (.inl (cJ G, 64, .inr (.inl xs1))) := (hEq.k k39) _ _ h42 (ninc (Ne.symm n_lx_ly) (ninc n_ly_le nin0))
      have h44 : f22 lw = some (.inl (cI G, 12, .inl (j6 gw0 gw1))) := by rw [e23, va_up_ne _ _ n_lw_lq]; exact k_lw
      have h45 : f28 lw = some (.inl (cI G, 12, .inl (j6 gw0 gw1))) := by rw [e29, va_up_ne _ _ n_lw_le]; exact h44
      have h46 : f34 lw = some (.inl (cI G, 12, .inl (j6 gw0 gw1))) := (hEq.k k39) _ _ h45 (ninc (Ne.symm n_lx_lw) (ninc n_lw_le nin0))
      have h47 : f22 la = some (.inl (cI G, 12, .inl (j6 ga0 ga1))) := by rw [e23, va_up_ne _ _ n_la_lq]; exact k_la
      have h48 : f28 la = some (.inl (cI G, 12, .inl (j6 ga0 ga1))) := by rw [e29, va_up_ne _ _ n_la_le]; exact h47
      have h49 : f34 la = some (.inl (cI G, 12, .inl (j6 ga0 ga1))) := (hEq.k k39) _ _ h48 (ninc (Ne.symm n_lx_la) (ninc n_la_le nin0))
      have h50 : f34 lq = some (.inl (cI G, 12, .inl (j6 (cpyF gw0 S0.2.2.2.2.2.2.2.1) S1.2.2.2.2.2.2.2.1))) := (hEq.k k39) _ _ h33 (ninc (Ne.symm n_lx_lq) (ninc n_lq_le nin0))
      have hC51 : CXW G f34 xo ez eo bu nw0 na0 nq0 nr0 nw1 na1 nq1 nr1 bs bp bh bf bl bg S0 S1 gw0 ga0 gw1 ga1 n a cg x sa pk fl gv gh gl := CXW.eq hC ((show hEq [lx, ly, lw, la, lq, le] f f22 from (by rw [e23]; exact hEq.up (List.mem_cons_of_mem _ (List.mem_cons_of_mem _ (List.mem_cons_of_mem _ (List.mem_cons_of_mem _ List.mem_cons_self)))))).tr ((show hEq [lx, ly, lw, la, lq, le] f22 f28 from (by rw [e29]; exact hEq.up (List.mem_cons_of_mem _ (List.mem_cons_of_mem _ (List.mem_cons_of_mem _ (List.mem_cons_of_mem _ (List.mem_cons_of_mem _ List.mem_cons_self))))))).tr (show hEq [lx, ly, lw, la, lq, le] f28 f34 from (hEq.mono k39 (sub_cons List.mem_cons_self (sub_cons (List.mem_cons_of_mem _ (List.mem_cons_of_mem _ (List.mem_cons_of_mem _ (List.mem_cons_of_mem _ (List.mem_cons_of_mem _ List.mem_cons_self))))) sub_nil)))))) hdis (fun b9 hb9 => by
          simp only [List.mem_cons, List.not_mem_nil, or_false] at hb9
          rcases hb9 with hb9 | hb9 | hb9 | hb9 | hb9 | hb9
          · rw [hb9]; exact ⟨_, _, k_lx, h36, (Nat.ne_of_beq_eq_false rfl), (Nat.ne_of_beq_eq_false rfl)⟩
          · rw [hb9]; exact ⟨_, _, k_ly, h43, (Nat.ne_of_beq_eq_false rfl), (Nat.ne_of_beq_eq_false rfl)⟩
          · rw [hb9]; exact ⟨_, _, k_lw, h46, (Nat.ne_of_beq_eq_false rfl), (Nat.ne_of_beq_eq_false rfl)⟩
          · rw [hb9]; exact ⟨_, _, k_la, h49, (Nat.ne_of_beq_eq_false rfl), (Nat.ne_of_beq_eq_false rfl)⟩
          · rw [hb9]; exact ⟨_, _, k_lq, h50, (Nat.ne_of_beq_eq_false rfl), (Nat.ne_of_beq_eq_false rfl)⟩
          · rw [hb9]; exact ⟨_, _, h1, h40, (Nat.ne_of_beq_eq_false rfl), (Nat.ne_of_beq_eq_false rfl)⟩)
      refine hp_SH (As := [.ref xo, .int (-1)]) (rest := []) B0 hw hS (c_V_open_E hl G f34 xo ez eo bu nw0 na0 nq0 nr0 nw1 na1 nq1 nr1 bs bp bh bf bl bg S0 S1 gw0 ga0 gw1 ga1 n a cg x sa pk fl gv gh gl hC51 (Nat.lt_of_le_of_lt hl0 (by decide)) (Nat.lt_of_le_of_lt hl1 (by decide)) (-1) (by decide)) mH_L_open qM_L_106 rfl rfl hl9.1 (Nat.le_of_ble_eq_true rfl) ⟨⟨Nat.le_of_ble_eq_true rfl, Nat.le_of_ble_eq_true rfl⟩, Nat.le_of_ble_eq_true rfl, Nat.le_of_ble_eq_true rfl⟩ dL_links_489 (fun E ce q9 f52 H locs hPX hw hS hce hcv hcl => ?_) (fun v f52 H locs hP hw hS => ?_)
      · exact hPX.elim
      · obtain ⟨ev9, hC53, k54⟩ := hP
        subst ev9
        have hC53 : CXW G f52 xo ez eo bu nw0 na0 nq0 nr0 nw1 na1 nq1 nr1 bs bp bh bf bl bg S0 S1 gw0 ga0 gw1 ga1 n a cg x sa pk fl gv gh gl := hC53
        refine W.eq (g2 := F0 m 492 ls [.int (-71)]) rfl ?_
        refine lv_bipush (v := (-71)) hx hb dL_links_492 (by decide) ?_
        refine lv_icmp_ne (tgt := 517) hx hb dL_links_494 (by decide) (fun c9 => absurd (by decide) c9) (fun _ => ?_)
        refine lv_aload_n hx hb dL_links_497 rfl (lv_at hl9 5 rfl) ?_
        refine lv_iload hx hb dL_links_498 (lv_at hl9 4 rfl) ?_
        refine hp_SH (As := [.ref xo, .int 0]) (rest := []) B0 hw hS (c_V_open_0 hl G f52 xo ez eo bu nw0 na0 nq0 nr0 nw1 na1 nq1 nr1 bs bp bh bf bl bg S0 S1 gw0 ga0 gw1 ga1 n a cg x sa pk fl gv gh gl hC53 (Nat.lt_of_le_of_lt hl0 (by decide)) (Nat.lt_of_le_of_lt hl1 (by decide)) (st0_of hSo0 c2)) mH_L_open qM_L_106 rfl rfl hl9.1 (Nat.le_of_ble_eq_true rfl) ⟨⟨Nat.le_of_ble_eq_true rfl, Nat.le_of_ble_eq_true rfl⟩, Nat.le_of_ble_eq_true rfl, Nat.le_of_ble_eq_true rfl⟩ dL_links_500 (fun E ce q9 f55 H locs hPX hw hS hce hcv hcl => ?_) (fun v f55 H locs hP hw hS => ?_)
        · exact hPX.elim
        · obtain ⟨ev9, hC56, k57⟩ := hP
          subst ev9
          have hC56 : CXW G f55 xo ez eo bu nw0 na0 nq0 nr0 nw1 na1 nq1 nr1 bs bp bh bf bl bg (openS gw0 S0) S1 gw0 ga0 gw1 ga1 n a cg x sa pk fl gv gh gl := hC56
          refine W.eq (g2 := F0 m 503 ls [.int ((S0.2.1 + 1))]) rfl ?_
          refine lv_aload hx hb dL_links_503 (lv_at hl9 14 rfl) ?_
          refine lv_iload hx hb dL_links_505 (lv_at hl9 3 rfl) ?_
          refine lv_iconst (v := 1) hx hb dL_links_507 (by decide) ?_
          refine lv_iadd hx hb dL_links_508 ?_
          refine hp_c (v := 1) (by decide) ?_
          have h58 : f52 le = some (.inl (cI G, 16, .inl (jE (e8 ((openS gw0 S0).1) ((openS gw0 S0).2.1) ((openS gw0 S0).2.2.1) ((openS gw0 S0).2.2.2.1) ((openS gw0 S0).2.2.2.2.1) ((openS gw0 S0).2.2.2.2.2.1) ((openS gw0 S0).2.2.2.2.2.2.1) (nI (openS gw0 S0).2.2.2.2.2.2.2.2.length)) (eS S1)))) := k54 _ _ h40 (Nat.ne_of_beq_eq_false rfl) (hdos _ (List.mem_cons_of_mem _ (List.mem_cons_of_mem _ (List.mem_cons_of_mem _ (List.mem_cons_of_mem _ (List.mem_cons_of_mem _ List.mem_cons_self))))))
          have h59 : f55 le = some (.inl (cI G, 16, .inl (jE (e8 ((openS gw0 S0).1) ((openS gw0 S0).2.1) ((openS gw0 S0).2.2.1) ((openS gw0 S0).2.2.2.1) ((openS gw0 S0).2.2.2.2.1) ((openS gw0 S0).2.2.2.2.2.1) ((openS gw0 S0).2.2.2.2.2.2.1) (nI (openS gw0 S0).2.2.2.2.2.2.2.2.length)) (eS S1)))) := k57 _ _ h58 (Nat.ne_of_beq_eq_false rfl) (hdos _ (List.mem_cons_of_mem _ (List.mem_cons_of_mem _ (List.mem_cons_of_mem _ (List.mem_cons_of_mem _ (List.mem_cons_of_mem _ List.mem_cons_self))))))
          refine hp_iald B0 hw h59 (by unfold vp_in; decide) dL_links_509 ?_
          refine hp_c (v := (openS gw0 S0).2.1) (rfl) ?_
          refine lv_icmp_ne (tgt := 517) hx hb dL_links_510 (by decide) (fun c9 => absurd (openS_id gw0 S0).symm c9) (fun _ => ?_)
          refine lv_iconst (v := 1) hx hb dL_links_513 (by decide) ?_
          refine lv_goto (tgt := 518) hx hb dL_links_514 (by decide) ?_
          have h60 : f52 lx = some (.inl (cJ G, 64, .inr (.inl xs35))) := k54 _ _ h36 (Nat.ne_of_beq_eq_false rfl) (hdos _ List.mem_cons_self)
          have h61 : f55 lx = some (.inl (cJ G, 64, .inr (.inl xs35))) := k57 _ _ h60 (Nat.ne_of_beq_eq_false rfl) (hdos _ List.mem_cons_self)
          have h62 : f52 ly = some (.inl (cJ G, 64, .inr (.inl xs1))) := k54 _ _ h43 (Nat.ne_of_beq_eq_false rfl) (hdos _ (List.mem_cons_of_mem _ List.mem_cons_self))
          have h63 : f55 ly = some (.inl (cJ G, 64, .inr (.inl xs1))) := k57 _ _ h62 (Nat.ne_of_beq_eq_false rfl) (hdos _ (List.mem_cons_of_mem _ List.mem_cons_self))
          have h64 : f52 lw = some (.inl (cI G, 12, .inl (j6 gw0 gw1))) := k54 _ _ h46 (Nat.ne_of_beq_eq_false rfl) (hdos _ (List.mem_cons_of_mem _ (List.mem_cons_of_mem _ List.mem_cons_self)))
          have h65 : f55 lw = some (.inl (cI G, 12, .inl (j6 gw0 gw1))) := k57 _ _ h64 (Nat.ne_of_beq_eq_false rfl) (hdos _ (List.mem_cons_of_mem _ (List.mem_cons_of_mem _ List.mem_cons_self)))
          have h66 : f52 la = some (.inl (cI G, 12, .inl (j6 ga0 ga1))) := k54 _ _ h49 (Nat.ne_of_beq_eq_false rfl) (hdos _ (List.mem_cons_of_mem _ (List.mem_cons_of_mem _ (List.mem_cons_of_mem _ List.mem_cons_self))))
          have h67 : f55 la = some (.inl (cI G, 12, .inl (j6 ga0 ga1))) := k57 _ _ h66 (Nat.ne_of_beq_eq_false rfl) (hdos _ (List.mem_cons_of_mem _ (List.mem_cons_of_mem _ (List.mem_cons_of_mem _ List.mem_cons_self))))
          have h68 : f52 lq = some (.inl (cI G, 12, .inl (j6 (cpyF gw0 S0.2.2.2.2.2.2.2.1) S1.2.2.2.2.2.2.2.1))) := k54 _ _ h50 (Nat.ne_of_beq_eq_false rfl) (hdos _ (List.mem_cons_of_mem _ (List.mem_cons_of_mem _ (List.mem_cons_of_mem _ (List.mem_cons_of_mem _ List.mem_cons_self)))))
          have h69 : f55 lq = some (.inl (cI G, 12, .inl (j6 (cpyF gw0 S0.2.2.2.2.2.2.2.1) S1.2.2.2.2.2.2.2.1))) := k57 _ _ h68 (Nat.ne_of_beq_eq_false rfl) (hdos _ (List.mem_cons_of_mem _ (List.mem_cons_of_mem _ (List.mem_cons_of_mem _ (List.mem_cons_of_mem _ List.mem_cons_self)))))
          exact hp_zret (v := 1) B0 hw hS hr ⟨Nat.le_of_ble_eq_true rfl, Nat.le_of_ble_eq_true rfl⟩ (rfl) dL_links_518 (⟨rfl, (openS gw0 S0), S1, gw0, ga0, gw1, ga1, hC56, ⟨⟨_, h61, (show XS xs35 (openS gw0 S0).2.2.2.2.2.2.2.2 from hX37)⟩, ⟨_, h63, hX1⟩, h65, h67, (by rw [openS_gq]; exact h69), h59⟩, ⟨SOK.mono (SOK.opn hSo0 (by omega) hgw0) (by omega), SOK.mono hSo1 (by omega), hgw0, hga0, hgw1, hga1⟩, (Nat.le_trans (openS_len gw0 S0) (by omega)), hl1, ((show hKn [lx, ly, lw, la, lq, le, xo, ez, eo, bu, nw0, na0, nq0, nr0, nw1, na1, nq1, nr1, bs, bp, bh, bf, bl, bg] f f22 from (by rw [e23]; exact hKn.up (List.mem_cons_of_mem _ (List.mem_cons_of_mem _ (List.mem_cons_of_mem _ (List.mem_cons_of_mem _ List.mem_cons_self)))))).tr ((show hKn [lx, ly, lw, la, lq, le, xo, ez, eo, bu, nw0, na0, nq0, nr0, nw1, na1, nq1, nr1, bs, bp, bh, bf, bl, bg] f22 f28 from (by rw [e29]; exact hKn.up (List.mem_cons_of_mem _ (List.mem_cons_of_mem _ (List.mem_cons_of_mem _ (List.mem_cons_of_mem _ (List.mem_cons_of_mem _ List.mem_cons_self))))))).tr ((show hKn [lx, ly, lw, la, lq, le, xo, ez, eo, bu, nw0, na0, nq0, nr0, nw1, na1, nq1, nr1, bs, bp, bh, bf, bl, bg] f28 f34 from (hKn.mono (hKn.eq k39) (sub_cons List.mem_cons_self (sub_cons (List.mem_cons_of_mem _ (List.mem_cons_of_mem _ (List.mem_cons_of_mem _ (List.mem_cons_of_mem _ (List.mem_cons_of_mem _ List.mem_cons_self))))) sub_nil)))).tr ((show hKn [lx, ly, lw, la, lq, le, xo, ez, eo, bu, nw0, na0, nq0, nr0, nw1, na1, nq1, nr1, bs, bp, bh, bf, bl, bg] f34 f52 from (hKn.mono k54 sbA)).tr (show hKn [lx, ly, lw, la, lq, le, xo, ez, eo, bu, nw0, na0, nq0, nr0, nw1, na1, nq1, nr1, bs, bp, bh, bf, bl, bg] f52 f55 from (hKn.mono k57 sbA))))))⟩)
  · refine lv_aload_n hx hb dL_links_398 rfl (lv_at hl9 4 rfl) ?_
    refine lv_iload hx hb dL_links_399 (lv_at hl9 3 rfl) ?_
    refine hp_SH (As := [.ref xo, .int 0]) (rest := []) B0 hw hS (c_V_open_S0 hl G f xo ez eo bu nw0 na0 nq0 nr0 nw1 na1 nq1 nr1 bs bp bh bf bl bg S0 S1 gw0 ga0 gw1 ga1 n a cg x sa pk fl gv gh gl hC (Nat.lt_of_le_of_lt hl0 (by decide)) (Nat.lt_of_le_of_lt hl1 (by decide)) (st1_of c2)) mH_L_open qM_L_106 rfl rfl hl9.1 (Nat.le_of_ble_eq_true rfl) ⟨⟨Nat.le_of_ble_eq_true rfl, Nat.le_of_ble_eq_true rfl⟩, Nat.le_of_ble_eq_true rfl, Nat.le_of_ble_eq_true rfl⟩ dL_links_401 (fun E ce q9 f70 H locs hPX hw hS hce hcv hcl => ?_) (fun v f70 H locs hP hw hS => ?_)
    · exact hPX.elim
    · obtain ⟨ev9, hC71, k72⟩ := hP
      subst ev9
      have hC71 : CXW G f70 xo ez eo bu nw0 na0 nq0 nr0 nw1 na1 nq1 nr1 bs bp bh bf bl bg S0 S1 gw0 ga0 gw1 ga1 n a cg x sa pk fl gv gh gl := hC71
      refine W.eq (g2 := F0 m 404 ls [.int (-73)]) rfl ?_
      refine lv_bipush (v := (-73)) hx hb dL_links_404 (by decide) ?_
      refine lv_icmp_ne (tgt := 423) hx hb dL_links_406 (by decide) (fun c9 => absurd (by decide) c9) (fun _ => ?_)
      refine lv_aload_n hx hb dL_links_409 rfl (lv_at hl9 4 rfl) ?_
      refine lv_iconst (v := 2) hx hb dL_links_410 (by decide) ?_
      refine hp_SH (As := [.ref xo, .int 2]) (rest := []) B0 hw hS (c_V_open_E hl G f70 xo ez eo bu nw0 na0 nq0 nr0 nw1 na1 nq1 nr1 bs bp bh bf bl bg S0 S1 gw0 ga0 gw1 ga1 n a cg x sa pk fl gv gh gl hC71 (Nat.lt_of_le_of_lt hl0 (by decide)) (Nat.lt_of_le_of_lt hl1 (by decide)) 2 (by decide)) mH_L_open qM_L_106 rfl rfl hl9.1 (Nat.le_of_ble_eq_true rfl) ⟨⟨Nat.le_of_ble_eq_true rfl, Nat.le_of_ble_eq_true rfl⟩, Nat.le_of_ble_eq_true rfl, Nat.le_of_ble_eq_true rfl⟩ dL_links_411 (fun E ce q9 f73 H locs hPX hw hS hce hcv hcl => ?_) (fun v f73 H locs hP hw hS => ?_)
      · exact hPX.elim
      · obtain ⟨ev9, hC74, k75⟩ := hP
        subst ev9
        have hC74 : CXW G f73 xo ez eo bu nw0 na0 nq0 nr0 nw1 na1 nq1 nr1 bs bp bh bf bl bg S0 S1 gw0 ga0 gw1 ga1 n a cg x sa pk fl gv gh gl := hC74
        refine W.eq (g2 := F0 m 414 ls [.int (-71)]) rfl ?_
        refine lv_bipush (v := (-71)) hx hb dL_links_414 (by decide) ?_
        refine lv_icmp_ne (tgt := 423) hx hb dL_links_416 (by decide) (fun c9 => absurd (by decide) c9) (fun _ => ?_)
        refine lv_iconst (v := 1) hx hb dL_links_419 (by decide) ?_
        refine lv_goto (tgt := 424) hx hb dL_links_420 (by decide) ?_
        have h76 : f70 lx = some (.inl (cJ G, 64, .inr (.inl xs0))) := k72 _ _ k_lx (Nat.ne_of_beq_eq_false rfl) (hdos _ List.mem_cons_self)
        have h77 : f73 lx = some (.inl (cJ G, 64, .inr (.inl xs0))) := k75 _ _ h76 (Nat.ne_of_beq_eq_false rfl) (hdos _ List.mem_cons_self)
        have h78 : f70 ly = some (.inl (cJ G, 64, .inr (.inl xs1))) := k72 _ _ k_ly (Nat.ne_of_beq_eq_false rfl) (hdos _ (List.mem_cons_of_mem _ List.mem_cons_self))
        have h79 : f73 ly = some (.inl (cJ G, 64, .inr (.inl xs1))) := k75 _ _ h78 (Nat.ne_of_beq_eq_false rfl) (hdos _ (List.mem_cons_of_mem _ List.mem_cons_self))
        have h80 : f70 lw = some (.inl (cI G, 12, .inl (j6 gw0 gw1))) := k72 _ _ k_lw (Nat.ne_of_beq_eq_false rfl) (hdos _ (List.mem_cons_of_mem _ (List.mem_cons_of_mem _ List.mem_cons_self)))
        have h81 : f73 lw = some (.inl (cI G, 12, .inl (j6 gw0 gw1))) := k75 _ _ h80 (Nat.ne_of_beq_eq_false rfl) (hdos _ (List.mem_cons_of_mem _ (List.mem_cons_of_mem _ List.mem_cons_self)))
        have h82 : f70 la = some (.inl (cI G, 12, .inl (j6 ga0 ga1))) := k72 _ _ k_la (Nat.ne_of_beq_eq_false rfl) (hdos _ (List.mem_cons_of_mem _ (List.mem_cons_of_mem _ (List.mem_cons_of_mem _ List.mem_cons_self))))
        have h83 : f73 la = some (.inl (cI G, 12, .inl (j6 ga0 ga1))) := k75 _ _ h82 (Nat.ne_of_beq_eq_false rfl) (hdos _ (List.mem_cons_of_mem _ (List.mem_cons_of_mem _ (List.mem_cons_of_mem _ List.mem_cons_self))))
        have h84 : f70 lq = some (.inl (cI G, 12, .inl (j6 S0.2.2.2.2.2.2.2.1 S1.2.2.2.2.2.2.2.1))) := k72 _ _ k_lq (Nat.ne_of_beq_eq_false rfl) (hdos _ (List.mem_cons_of_mem _ (List.mem_cons_of_mem _ (List.mem_cons_of_mem _ (List.mem_cons_of_mem _ List.mem_cons_self)))))
        have h85 : f73 lq = some (.inl (cI G, 12, .inl (j6 S0.2.2.2.2.2.2.2.1 S1.2.2.2.2.2.2.2.1))) := k75 _ _ h84 (Nat.ne_of_beq_eq_false rfl) (hdos _ (List.mem_cons_of_mem _ (List.mem_cons_of_mem _ (List.mem_cons_of_mem _ (List.mem_cons_of_mem _ List.mem_cons_self)))))
        have h86 : f70 le = some (.inl (cI G, 16, .inl (jE (e8 S0.1 S0.2.1 S0.2.2.1 S0.2.2.2.1 S0.2.2.2.2.1 S0.2.2.2.2.2.1 S0.2.2.2.2.2.2.1 (nI S0.2.2.2.2.2.2.2.2.length)) (eS S1)))) := k72 _ _ h1 (Nat.ne_of_beq_eq_false rfl) (hdos _ (List.mem_cons_of_mem _ (List.mem_cons_of_mem _ (List.mem_cons_of_mem _ (List.mem_cons_of_mem _ (List.mem_cons_of_mem _ List.mem_cons_self))))))
        have h87 : f73 le = some (.inl (cI G, 16, .inl (jE (e8 S0.1 S0.2.1 S0.2.2.1 S0.2.2.2.1 S0.2.2.2.2.1 S0.2.2.2.2.2.1 S0.2.2.2.2.2.2.1 (nI S0.2.2.2.2.2.2.2.2.length)) (eS S1)))) := k75 _ _ h86 (Nat.ne_of_beq_eq_false rfl) (hdos _ (List.mem_cons_of_mem _ (List.mem_cons_of_mem _ (List.mem_cons_of_mem _ (List.mem_cons_of_mem _ (List.mem_cons_of_mem _ List.mem_cons_self))))))
        exact hp_zret (v := 1) B0 hw hS hr ⟨Nat.le_of_ble_eq_true rfl, Nat.le_of_ble_eq_true rfl⟩ (rfl) dL_links_424 (⟨rfl, S0, S1, gw0, ga0, gw1, ga1, hC74, ⟨⟨_, h77, hX0⟩, ⟨_, h79, hX1⟩, h81, h83, h85, h87⟩, ⟨SOK.mono hSo0 (by omega), SOK.mono hSo1 (by omega), hgw0, hga0, hgw1, hga1⟩, hl0, hl1, ((show hKn [lx, ly, lw, la, lq, le, xo, ez, eo, bu, nw0, na0, nq0, nr0, nw1, na1, nq1, nr1, bs, bp, bh, bf, bl, bg] f f70 from (hKn.mono k72 sbA)).tr (show hKn [lx, ly, lw, la, lq, le, xo, ez, eo, bu, nw0, na0, nq0, nr0, nw1, na1, nq1, nr1, bs, bp, bh, bf, bl, bg] f70 f73 from (hKn.mono k75 sbA)))⟩)

set_option maxHeartbeats 4000000 in
set_option maxRecDepth 100000 in
theorem lk_o_1 {l : Launch} (hl : l.stackTraces = false) (G : hG) (f : hM) (xo ez eo bu nw0 na0 nq0 nr0 nw1 na1 nq1 nr1 bs bp bh bf bl bg : Nat) (S0 : ES) (S1 : ES) (gw0 : Nat → Int32) (ga0 : Nat → Int32) (gw1 : Nat → Int32) (ga1 : Nat → Int32) (n : Nat) (a : Nat) (cg : Nat) (x : Nat) (sa : Nat → Nat) (pk : Nat → Nat) (fl : Nat → Nat) (gv : Nat → Nat) (gh : Nat → Int32) (gl : Nat → Int32) (hC : CXW G f xo ez eo bu nw0 na0 nq0 nr0 nw1 na1 nq1 nr1 bs bp bh bf bl bg S0 S1 gw0 ga0 gw1 ga1 n a cg x sa pk fl gv gh gl) (lx ly lw la lq le : Nat) (hdis : ∀ p, p ∈ [xo, ez, eo, bu, nw0, na0, nq0, nr0, nw1, na1, nq1, nr1, bs, bp, bh, bf, bl, bg] → p ∉ [lx, ly, lw, la, lq, le]) (hdos : ∀ p, p ∈ [lx, ly, lw, la, lq, le] → p ∉ [xo, ez, eo, bu, nw0, na0, nq0, nr0, nw1, na1, nq1, nr1, bs, bp, bh, bf, bl, bg]) (n_lx_ly : lx ≠ ly) (n_lw_la : lw ≠ la) (n_lw_lq : lw ≠ lq) (n_la_lq : la ≠ lq) (hLX : LX G f lx ly lw la lq le S0 S1 gw0 ga0 gw1 ga1) (b : Nat) (hInv : INV b S0 S1 gw0 ga0 gw1 ga1) (hbb : b + 200 ≤ 1000000) (hl0 : S0.2.2.2.2.2.2.2.2.length ≤ 52) (hl1 : S1.2.2.2.2.2.2.2.2.length ≤ 52) (ac : Nat) (hac : ac < 24) (hact : ac ≠ 22 → S0.2.2.2.2.2.2.2.2.length ≤ 40 ∧ S1.2.2.2.2.2.2.2.2.length ≤ 40) (u z : Int32) {p : Program} {e : Env} {s : State} {m : MethodId} {args : Array Value} {below : List Frame} {meth : Method} {c : Code} (B0 : hB p l s m args meth c cL_links 17 RL G) (hr : meth.sig.returnType = some .boolean) {H : Heap} {locs : List Loc} {ls : Array Slot} (hw : hW G f H) (hS : va_S (hFr G) s.heap H locs) (j13 : Nat) (hj13 : j13 < 6) (hc : ¬ 10 ≤ nI ac) (hl9 : lv_has ls 17 [(13, .int (nI j13)), (12, .ref ly), (11, .int 8), (10, .int 1), (0, .ref xo), (1, .int (nI ac)), (2, .int u), (3, .int z), (4, .ref lx), (5, .ref ly), (6, .ref lw), (7, .ref la), (8, .ref lq), (9, .ref le)]) : W p l e { frames := 9, cells := 203, slots := 1118, locals := 178 } s m args below meth c H locs 0 0 (vx_MQ below (hQ G (fun v f1 => v = some (.int 1) ∧ ∃ (S2 S3 : ES) (w0 a0 w1 a1 : Nat → Int32), CXW G f1 xo ez eo bu nw0 na0 nq0 nr0 nw1 na1 nq1 nr1 bs bp bh bf bl bg S2 S3 w0 a0 w1 a1 n a cg x sa pk fl gv gh gl ∧ LX G f1 lx ly lw la lq le S2 S3 w0 a0 w1 a1 ∧ INV (b + 100) S2 S3 w0 a0 w1 a1 ∧ S2.2.2.2.2.2.2.2.2.length ≤ 52 ∧ S3.2.2.2.2.2.2.2.2.length ≤ 52 ∧ hKn [lx, ly, lw, la, lq, le, xo, ez, eo, bu, nw0, na0, nq0, nr0, nw1, na1, nq1, nr1, bs, bp, bh, bf, bl, bg] f f1)) (hX G (fun E f1 => False)) args s 203 1118 (hFr G)) (F0 m 390 ls []) := by
  have hx := B0.1
  have hb := B0.2.1
  obtain ⟨⟨xs0, k_lx, hX0⟩, ⟨xs1, k_ly, hX1⟩, k_lw, k_la, k_lq, k_le⟩ := hLX
  obtain ⟨hSo0, hSo1, hgw0, hga0, hgw1, hga1⟩ := id hInv
  have n_lx_lw : lx ≠ lw := hneL k_lx k_lw (Nat.ne_of_beq_eq_false rfl)
  have n_lx_la : lx ≠ la := hneL k_lx k_la (Nat.ne_of_beq_eq_false rfl)
  have n_lx_lq : lx ≠ lq := hneL k_lx k_lq (Nat.ne_of_beq_eq_false rfl)
  have n_lx_le : lx ≠ le := hneL k_lx k_le (Nat.ne_of_beq_eq_false rfl)
  have n_ly_lw : ly ≠ lw := hneL k_ly k_lw (Nat.ne_of_beq_eq_false rfl)
  have n_ly_la : ly ≠ la := hneL k_ly k_la (Nat.ne_of_beq_eq_false rfl)
  have n_ly_lq : ly ≠ lq := hneL k_ly k_lq (Nat.ne_of_beq_eq_false rfl)
  have n_ly_le : ly ≠ le := hneL k_ly k_le (Nat.ne_of_beq_eq_false rfl)
  have n_lw_le : lw ≠ le := hneL k_lw k_le (Nat.ne_of_beq_eq_false rfl)
  have n_la_le : la ≠ le := hneL k_la k_le (Nat.ne_of_beq_eq_false rfl)
  have n_lq_le : lq ≠ le := hneL k_lq k_le (Nat.ne_of_beq_eq_false rfl)
  have sbA : ∀ x9, x9 ∈ [xo, ez, eo, bu, nw0, na0, nq0, nr0, nw1, na1, nq1, nr1, bs, bp, bh, bf, bl, bg] → x9 ∈ [lx, ly, lw, la, lq, le, xo, ez, eo, bu, nw0, na0, nq0, nr0, nw1, na1, nq1, nr1, bs, bp, bh, bf, bl, bg] := sbA
  obtain ⟨xx, hxx, hx4⟩ := hSo1.2.2.2.2.1
  have h1 : f le = some (.inl (cI G, 16, .inl (jE (eS S0) (e8 S1.1 S1.2.1 S1.2.2.1 S1.2.2.2.1 S1.2.2.2.2.1 S1.2.2.2.2.2.1 S1.2.2.2.2.2.2.1 (nI S1.2.2.2.2.2.2.2.2.length))))) := k_le
  refine lv_aload hx hb dL_links_390 (lv_at hl9 13 rfl) ?_
  refine lv_iload hx hb dL_links_392 (lv_at hl9 2 rfl) ?_
  refine hp_iald B0 hw h1 (by unfold vp_in; decide) dL_links_394 ?_
  refine hp_c (v := S1.1) (rfl) ?_
  refine lv_if_le (tgt := 425) hx hb dL_links_395 (by decide) (fun c2 => ?_) (fun c2 => ?_)
  · refine lv_bipush (v := 6) hx hb dL_links_425 (by decide) ?_
    refine lv_iload hx hb dL_links_427 (lv_at hl9 3 rfl) ?_
    refine lv_imul hx hb dL_links_429 ?_
    refine hp_c (v := 6) (by decide) ?_
    refine lv_istore (lv' := [(14, .int 6), (13, .int (nI j13)), (12, .ref ly), (11, .int 8), (10, .int 1), (0, .ref xo), (1, .int (nI ac)), (2, .int u), (3, .int z), (4, .ref lx), (5, .ref ly), (6, .ref lw), (7, .ref la), (8, .ref lq), (9, .ref le)]) hx hb dL_links_430 hl9 (by decide) rfl (fun ls hl9 => ?_)
    refine lv_iload hx hb dL_links_432 (lv_at hl9 0 rfl) ?_
    refine lv_bipush (v := 6) hx hb dL_links_434 (by decide) ?_
    refine lv_iload hx hb dL_links_436 (lv_at hl9 4 rfl) ?_
    refine lv_imul hx hb dL_links_438 ?_
    refine hp_c (v := 6) (by decide) ?_
    refine lv_bipush (v := 6) hx hb dL_links_439 (by decide) ?_
    refine lv_iadd hx hb dL_links_441 ?_
    refine hp_c (v := 12) (by decide) ?_
    refine lv_icmp_ge (tgt := 461) hx hb dL_links_442 (by decide) (fun c9 => absurd c9 (by decide)) (fun _ => ?_)
    refine lv_aload hx hb dL_links_445 (lv_at hl9 13 rfl) ?_
    refine lv_iload hx hb dL_links_447 (lv_at hl9 0 rfl) ?_
    refine lv_aload hx hb dL_links_449 (lv_at hl9 11 rfl) ?_
    refine lv_iload hx hb dL_links_451 (lv_at hl9 0 rfl) ?_
    refine hp_iald B0 hw k_lw (by unfold vp_in; decide) dL_links_453 ?_
    refine hp_c (v := (gw1 0)) (rfl) ?_
    refine hp_iast B0 hw hS k_lq (by unfold vp_in; decide) dL_links_454 (fun H locs f3 ef3 hw hS => ?_)
    rw [show (upd (j6 S0.2.2.2.2.2.2.2.1 S1.2.2.2.2.2.2.2.1) (6 : Int32).toNatClampNeg (gw1 0) : Nat → Int32) = (j6 S0.2.2.2.2.2.2.2.1 (upd S1.2.2.2.2.2.2.2.1 0 (gw1 0))) from (by rw [show (6 : Int32).toNatClampNeg = 6 + 0 from rfl, j6_u1])] at ef3
    have h4 : f3 lq = some (.inl (cI G, 12, .inl (j6 S0.2.2.2.2.2.2.2.1 (upd S1.2.2.2.2.2.2.2.1 0 (gw1 0))))) := by rw [ef3, va_up_self]
    refine lv_iinc (v := 7) (lv' := [(14, .int 7), (13, .int (nI j13)), (12, .ref ly), (11, .int 8), (10, .int 1), (0, .ref xo), (1, .int (nI ac)), (2, .int u), (3, .int z), (4, .ref lx), (5, .ref ly), (6, .ref lw), (7, .ref la), (8, .ref lq), (9, .ref le)]) hx hb dL_links_455 hl9 (k := 0) rfl (by decide) (by decide) rfl (fun ls hl9 => ?_)
    refine lv_goto (tgt := 432) hx hb dL_links_458 (by decide) ?_
    refine lv_iload hx hb dL_links_432 (lv_at hl9 0 rfl) ?_
    refine lv_bipush (v := 6) hx hb dL_links_434 (by decide) ?_
    refine lv_iload hx hb dL_links_436 (lv_at hl9 4 rfl) ?_
    refine lv_imul hx hb dL_links_438 ?_
    refine hp_c (v := 6) (by decide) ?_
    refine lv_bipush (v := 6) hx hb dL_links_439 (by decide) ?_
    refine lv_iadd hx hb dL_links_441 ?_
    refine hp_c (v := 12) (by decide) ?_
    refine lv_icmp_ge (tgt := 461) hx hb dL_links_442 (by decide) (fun c9 => absurd c9 (by decide)) (fun _ => ?_)
    refine lv_aload hx hb dL_links_445 (lv_at hl9 13 rfl) ?_
    refine lv_iload hx hb dL_links_447 (lv_at hl9 0 rfl) ?_
    refine lv_aload hx hb dL_links_449 (lv_at hl9 11 rfl) ?_
    refine lv_iload hx hb dL_links_451 (lv_at hl9 0 rfl) ?_
    have h5 : f3 lw = some (.inl (cI G, 12, .inl (j6 gw0 gw1))) := by rw [ef3, va_up_ne _ _ n_lw_lq]; exact k_lw
    refine hp_iald B0 hw h5 (by unfold vp_in; decide) dL_links_453 ?_
    refine hp_c (v := (gw1 1)) (rfl) ?_
    refine hp_iast B0 hw hS h4 (by unfold vp_in; decide) dL_links_454 (fun H locs f6 ef6 hw hS => ?_)
    rw [show (upd (j6 S0.2.2.2.2.2.2.2.1 (upd S1.2.2.2.2.2.2.2.1 0 (gw1 0))) (7 : Int32).toNatClampNeg (gw1 1) : Nat → Int32) = (j6 S0.2.2.2.2.2.2.2.1 (upd (upd S1.2.2.2.2.2.2.2.1 0 (gw1 0)) 1 (gw1 1))) from (by rw [show (7 : Int32).toNatClampNeg = 6 + 1 from rfl, j6_u1])] at ef6
    have e7 : f6 = va_up f lq (some (.inl (cI G, 12, .inl (j6 S0.2.2.2.2.2.2.2.1 (upd (upd S1.2.2.2.2.2.2.2.1 0 (gw1 0)) 1 (gw1 1)))))) := by rw [ef6, ef3, bx_uu]
    have h8 : f6 lq = some (.inl (cI G, 12, .inl (j6 S0.2.2.2.2.2.2.2.1 (upd (upd S1.2.2.2.2.2.2.2.1 0 (gw1 0)) 1 (gw1 1))))) := by rw [ef6, va_up_self]
    refine lv_iinc (v := 8) (lv' := [(14, .int 8), (13, .int (nI j13)), (12, .ref ly), (11, .int 8), (10, .int 1), (0, .ref xo), (1, .int (nI ac)), (2, .int u), (3, .int z), (4, .ref lx), (5, .ref ly), (6, .ref lw), (7, .ref la), (8, .ref lq), (9, .ref le)]) hx hb dL_links_455 hl9 (k := 0) rfl (by decide) (by decide) rfl (fun ls hl9 => ?_)
    refine lv_goto (tgt := 432) hx hb dL_links_458 (by decide) ?_
    refine lv_iload hx hb dL_links_432 (lv_at hl9 0 rfl) ?_
    refine lv_bipush (v := 6) hx hb dL_links_434 (by decide) ?_
    refine lv_iload hx hb dL_links_436 (lv_at hl9 4 rfl) ?_
    refine lv_imul hx hb dL_links_438 ?_
    refine hp_c (v := 6) (by decide) ?_
    refine lv_bipush (v := 6) hx hb dL_links_439 (by decide) ?_
    refine lv_iadd hx hb dL_links_441 ?_
    refine hp_c (v := 12) (by decide) ?_
    refine lv_icmp_ge (tgt := 461) hx hb dL_links_442 (by decide) (fun c9 => absurd c9 (by decide)) (fun _ => ?_)
    refine lv_aload hx hb dL_links_445 (lv_at hl9 13 rfl) ?_
    refine lv_iload hx hb dL_links_447 (lv_at hl9 0 rfl) ?_
    refine lv_aload hx hb dL_links_449 (lv_at hl9 11 rfl) ?_
    refine lv_iload hx hb dL_links_451 (lv_at hl9 0 rfl) ?_
    have h9 : f6 lw = some (.inl (cI G, 12, .inl (j6 gw0 gw1))) := by rw [e7, va_up_ne _ _ n_lw_lq]; exact k_lw
    refine hp_iald B0 hw h9 (by unfold vp_in; decide) dL_links_453 ?_
    refine hp_c (v := (gw1 2)) (rfl) ?_
    refine hp_iast B0 hw hS h8 (by unfold vp_in; decide) dL_links_454 (fun H locs f10 ef10 hw hS => ?_)
    rw [show (upd (j6 S0.2.2.2.2.2.2.2.1 (upd (upd S1.2.2.2.2.2.2.2.1 0 (gw1 0)) 1 (gw1 1))) (8 : Int32).toNatClampNeg (gw1 2) : Nat → Int32) = (j6 S0.2.2.2.2.2.2.2.1 (upd (upd (upd S1.2.2.2.2.2.2.2.1 0 (gw1 0)) 1 (gw1 1)) 2 (gw1 2))) from (by rw [show (8 : Int32).toNatClampNeg = 6 + 2 from rfl, j6_u1])] at ef10
    have e11 : f10 = va_up f lq (some (.inl (cI G, 12, .inl (j6 S0.2.2.2.2.2.2.2.1 (upd (upd (upd S1.2.2.2.2.2.2.2.1 0 (gw1 0)) 1 (gw1 1)) 2 (gw1 2)))))) := by rw [ef10, e7, bx_uu]
    have h12 : f10 lq = some (.inl (cI G, 12, .inl (j6 S0.2.2.2.2.2.2.2.1 (upd (upd (upd S1.2.2.2.2.2.2.2.1 0 (gw1 0)) 1 (gw1 1)) 2 (gw1 2))))) := by rw [ef10, va_up_self]
    refine lv_iinc (v := 9) (lv' := [(14, .int 9), (13, .int (nI j13)), (12, .ref ly), (11, .int 8), (10, .int 1), (0, .ref xo), (1, .int (nI ac)), (2, .int u), (3, .int z), (4, .ref lx), (5, .ref ly), (6, .ref lw), (7, .ref la), (8, .ref lq), (9, .ref le)]) hx hb dL_links_455 hl9 (k := 0) rfl (by decide) (by decide) rfl (fun ls hl9 => ?_)
    refine lv_goto (tgt := 432) hx hb dL_links_458 (by decide) ?_
    refine lv_iload hx hb dL_links_432 (lv_at hl9 0 rfl) ?_
    refine lv_bipush (v := 6) hx hb dL_links_434 (by decide) ?_
    refine lv_iload hx hb dL_links_436 (lv_at hl9 4 rfl) ?_
    refine lv_imul hx hb dL_links_438 ?_
    refine hp_c (v := 6) (by decide) ?_
    refine lv_bipush (v := 6) hx hb dL_links_439 (by decide) ?_
    refine lv_iadd hx hb dL_links_441 ?_
    refine hp_c (v := 12) (by decide) ?_
    refine lv_icmp_ge (tgt := 461) hx hb dL_links_442 (by decide) (fun c9 => absurd c9 (by decide)) (fun _ => ?_)
    refine lv_aload hx hb dL_links_445 (lv_at hl9 13 rfl) ?_
    refine lv_iload hx hb dL_links_447 (lv_at hl9 0 rfl) ?_
    refine lv_aload hx hb dL_links_449 (lv_at hl9 11 rfl) ?_
    refine lv_iload hx hb dL_links_451 (lv_at hl9 0 rfl) ?_
    have h13 : f10 lw = some (.inl (cI G, 12, .inl (j6 gw0 gw1))) := by rw [e11, va_up_ne _ _ n_lw_lq]; exact k_lw
    refine hp_iald B0 hw h13 (by unfold vp_in; decide) dL_links_453 ?_
    refine hp_c (v := (gw1 3)) (rfl) ?_
    refine hp_iast B0 hw hS h12 (by unfold vp_in; decide) dL_links_454 (fun H locs f14 ef14 hw hS => ?_)
    rw [show (upd (j6 S0.2.2.2.2.2.2.2.1 (upd (upd (upd S1.2.2.2.2.2.2.2.1 0 (gw1 0)) 1 (gw1 1)) 2 (gw1 2))) (9 : Int32).toNatClampNeg (gw1 3) : Nat → Int32) = (j6 S0.2.2.2.2.2.2.2.1 (upd (upd (upd (upd S1.2.2.2.2.2.2.2.1 0 (gw1 0)) 1 (gw1 1)) 2 (gw1 2)) 3 (gw1 3))) from (by rw [show (9 : Int32).toNatClampNeg = 6 + 3 from rfl, j6_u1])] at ef14
    have e15 : f14 = va_up f lq (some (.inl (cI G, 12, .inl (j6 S0.2.2.2.2.2.2.2.1 (upd (upd (upd (upd S1.2.2.2.2.2.2.2.1 0 (gw1 0)) 1 (gw1 1)) 2 (gw1 2)) 3 (gw1 3)))))) := by rw [ef14, e11, bx_uu]
    have h16 : f14 lq = some (.inl (cI G, 12, .inl (j6 S0.2.2.2.2.2.2.2.1 (upd (upd (upd (upd S1.2.2.2.2.2.2.2.1 0 (gw1 0)) 1 (gw1 1)) 2 (gw1 2)) 3 (gw1 3))))) := by rw [ef14, va_up_self]
    refine lv_iinc (v := 10) (lv' := [(14, .int 10), (13, .int (nI j13)), (12, .ref ly), (11, .int 8), (10, .int 1), (0, .ref xo), (1, .int (nI ac)), (2, .int u), (3, .int z), (4, .ref lx), (5, .ref ly), (6, .ref lw), (7, .ref la), (8, .ref lq), (9, .ref le)]) hx hb dL_links_455 hl9 (k := 0) rfl (by decide) (by decide) rfl (fun ls hl9 => ?_)
    refine lv_goto (tgt := 432) hx hb dL_links_458 (by decide) ?_
    refine lv_iload hx hb dL_links_432 (lv_at hl9 0 rfl) ?_
    refine lv_bipush (v := 6) hx hb dL_links_434 (by decide) ?_
    refine lv_iload hx hb dL_links_436 (lv_at hl9 4 rfl) ?_
    refine lv_imul hx hb dL_links_438 ?_
    refine hp_c (v := 6) (by decide) ?_
    refine lv_bipush (v := 6) hx hb dL_links_439 (by decide) ?_
    refine lv_iadd hx hb dL_links_441 ?_
    refine hp_c (v := 12) (by decide) ?_
    refine lv_icmp_ge (tgt := 461) hx hb dL_links_442 (by decide) (fun c9 => absurd c9 (by decide)) (fun _ => ?_)
    refine lv_aload hx hb dL_links_445 (lv_at hl9 13 rfl) ?_
    refine lv_iload hx hb dL_links_447 (lv_at hl9 0 rfl) ?_
    refine lv_aload hx hb dL_links_449 (lv_at hl9 11 rfl) ?_
    refine lv_iload hx hb dL_links_451 (lv_at hl9 0 rfl) ?_
    have h17 : f14 lw = some (.inl (cI G, 12, .inl (j6 gw0 gw1))) := by rw [e15, va_up_ne _ _ n_lw_lq]; exact k_lw
    refine hp_iald B0 hw h17 (by unfold vp_in; decide) dL_links_453 ?_
    refine hp_c (v := (gw1 4)) (rfl) ?_
    refine hp_iast B0 hw hS h16 (by unfold vp_in; decide) dL_links_454 (fun H locs f18 ef18 hw hS => ?_)
    rw [show (upd (j6 S0.2.2.2.2.2.2.2.1 (upd (upd (upd (upd S1.2.2.2.2.2.2.2.1 0 (gw1 0)) 1 (gw1 1)) 2 (gw1 2)) 3 (gw1 3))) (10 : Int32).toNatClampNeg (gw1 4) : Nat → Int32) = (j6 S0.2.2.2.2.2.2.2.1 (upd (upd (upd (upd (upd S1.2.2.2.2.2.2.2.1 0 (gw1 0)) 1 (gw1 1)) 2 (gw1 2)) 3 (gw1 3)) 4 (gw1 4))) from (by rw [show (10 : Int32).toNatClampNeg = 6 + 4 from rfl, j6_u1])] at ef18
    have e19 : f18 = va_up f lq (some (.inl (cI G, 12, .inl (j6 S0.2.2.2.2.2.2.2.1 (upd (upd (upd (upd (upd S1.2.2.2.2.2.2.2.1 0 (gw1 0)) 1 (gw1 1)) 2 (gw1 2)) 3 (gw1 3)) 4 (gw1 4)))))) := by rw [ef18, e15, bx_uu]
    have h20 : f18 lq = some (.inl (cI G, 12, .inl (j6 S0.2.2.2.2.2.2.2.1 (upd (upd (upd (upd (upd S1.2.2.2.2.2.2.2.1 0 (gw1 0)) 1 (gw1 1)) 2 (gw1 2)) 3 (gw1 3)) 4 (gw1 4))))) := by rw [ef18, va_up_self]
    refine lv_iinc (v := 11) (lv' := [(14, .int 11), (13, .int (nI j13)), (12, .ref ly), (11, .int 8), (10, .int 1), (0, .ref xo), (1, .int (nI ac)), (2, .int u), (3, .int z), (4, .ref lx), (5, .ref ly), (6, .ref lw), (7, .ref la), (8, .ref lq), (9, .ref le)]) hx hb dL_links_455 hl9 (k := 0) rfl (by decide) (by decide) rfl (fun ls hl9 => ?_)
    refine lv_goto (tgt := 432) hx hb dL_links_458 (by decide) ?_
    refine lv_iload hx hb dL_links_432 (lv_at hl9 0 rfl) ?_
    refine lv_bipush (v := 6) hx hb dL_links_434 (by decide) ?_
    refine lv_iload hx hb dL_links_436 (lv_at hl9 4 rfl) ?_
    refine lv_imul hx hb dL_links_438 ?_
    refine hp_c (v := 6) (by decide) ?_
    refine lv_bipush (v := 6) hx hb dL_links_439 (by decide) ?_
    refine lv_iadd hx hb dL_links_441 ?_
    refine hp_c (v := 12) (by decide) ?_
    refine lv_icmp_ge (tgt := 461) hx hb dL_links_442 (by decide) (fun c9 => absurd c9 (by decide)) (fun _ => ?_)
    refine lv_aload hx hb dL_links_445 (lv_at hl9 13 rfl) ?_
    refine lv_iload hx hb dL_links_447 (lv_at hl9 0 rfl) ?_
    refine lv_aload hx hb dL_links_449 (lv_at hl9 11 rfl) ?_
    refine lv_iload hx hb dL_links_451 (lv_at hl9 0 rfl) ?_
    have h21 : f18 lw = some (.inl (cI G, 12, .inl (j6 gw0 gw1))) := by rw [e19, va_up_ne _ _ n_lw_lq]; exact k_lw
    refine hp_iald B0 hw h21 (by unfold vp_in; decide) dL_links_453 ?_
    refine hp_c (v := (gw1 5)) (rfl) ?_
    refine hp_iast B0 hw hS h20 (by unfold vp_in; decide) dL_links_454 (fun H locs f22 ef22 hw hS => ?_)
    rw [show (upd (j6 S0.2.2.2.2.2.2.2.1 (upd (upd (upd (upd (upd S1.2.2.2.2.2.2.2.1 0 (gw1 0)) 1 (gw1 1)) 2 (gw1 2)) 3 (gw1 3)) 4 (gw1 4))) (11 : Int32).toNatClampNeg (gw1 5) : Nat → Int32) = (j6 S0.2.2.2.2.2.2.2.1 (cpyF gw1 S1.2.2.2.2.2.2.2.1)) from (by rw [show (11 : Int32).toNatClampNeg = 6 + 5 from rfl, j6_u1, cpy6])] at ef22
    have e23 : f22 = va_up f lq (some (.inl (cI G, 12, .inl (j6 S0.2.2.2.2.2.2.2.1 (cpyF gw1 S1.2.2.2.2.2.2.2.1))))) := by rw [ef22, e19, bx_uu]
    have h24 : f22 lq = some (.inl (cI G, 12, .inl (j6 S0.2.2.2.2.2.2.2.1 (cpyF gw1 S1.2.2.2.2.2.2.2.1)))) := by rw [ef22, va_up_self]
    refine lv_iinc (v := 12) (lv' := [(14, .int 12), (13, .int (nI j13)), (12, .ref ly), (11, .int 8), (10, .int 1), (0, .ref xo), (1, .int (nI ac)), (2, .int u), (3, .int z), (4, .ref lx), (5, .ref ly), (6, .ref lw), (7, .ref la), (8, .ref lq), (9, .ref le)]) hx hb dL_links_455 hl9 (k := 0) rfl (by decide) (by decide) rfl (fun ls hl9 => ?_)
    refine lv_goto (tgt := 432) hx hb dL_links_458 (by decide) ?_
    refine lv_iload hx hb dL_links_432 (lv_at hl9 0 rfl) ?_
    refine lv_bipush (v := 6) hx hb dL_links_434 (by decide) ?_
    refine lv_iload hx hb dL_links_436 (lv_at hl9 4 rfl) ?_
    refine lv_imul hx hb dL_links_438 ?_
    refine hp_c (v := 6) (by decide) ?_
    refine lv_bipush (v := 6) hx hb dL_links_439 (by decide) ?_
    refine lv_iadd hx hb dL_links_441 ?_
    refine hp_c (v := 12) (by decide) ?_
    refine lv_icmp_ge (tgt := 461) hx hb dL_links_442 (by decide) (fun _ => ?_) (fun c9 => absurd (by decide) c9)
    refine lv_aload hx hb dL_links_461 (lv_at hl9 14 rfl) ?_
    refine lv_iload hx hb dL_links_463 (lv_at hl9 3 rfl) ?_
    refine lv_iconst (v := 1) hx hb dL_links_465 (by decide) ?_
    have h25 : f22 le = some (.inl (cI G, 16, .inl (jE (eS S0) (e8 S1.1 S1.2.1 S1.2.2.1 S1.2.2.2.1 S1.2.2.2.2.1 S1.2.2.2.2.2.1 S1.2.2.2.2.2.2.1 (nI S1.2.2.2.2.2.2.2.2.length))))) := by rw [e23, va_up_ne _ _ (Ne.symm n_lq_le)]; exact h1
    refine hp_iast B0 hw hS h25 (by unfold vp_in; decide) dL_links_466 (fun H locs f26 ef26 hw hS => ?_)
    rw [show (upd (jE (eS S0) (e8 S1.1 S1.2.1 S1.2.2.1 S1.2.2.2.1 S1.2.2.2.2.1 S1.2.2.2.2.2.1 S1.2.2.2.2.2.2.1 (nI S1.2.2.2.2.2.2.2.2.length))) (8 : Int32).toNatClampNeg 1 : Nat → Int32) = (jE (eS S0) (e8 1 S1.2.1 S1.2.2.1 S1.2.2.2.1 S1.2.2.2.2.1 S1.2.2.2.2.2.1 S1.2.2.2.2.2.2.1 (nI S1.2.2.2.2.2.2.2.2.length))) from (by rw [show (8 : Int32).toNatClampNeg = 8 + 0 from rfl, jE_u1, e8_u0])] at ef26
    have h27 : f26 le = some (.inl (cI G, 16, .inl (jE (eS S0) (e8 1 S1.2.1 S1.2.2.1 S1.2.2.2.1 S1.2.2.2.2.1 S1.2.2.2.2.2.1 S1.2.2.2.2.2.2.1 (nI S1.2.2.2.2.2.2.2.2.length))))) := by rw [ef26, va_up_self]
    refine lv_aload hx hb dL_links_467 (lv_at hl9 14 rfl) ?_
    refine lv_iload hx hb dL_links_469 (lv_at hl9 3 rfl) ?_
    refine lv_iconst (v := 2) hx hb dL_links_471 (by decide) ?_
    refine lv_iadd hx hb dL_links_472 ?_
    refine hp_c (v := 10) (by decide) ?_
    refine lv_iconst (v := 0) hx hb dL_links_473 (by decide) ?_
    refine hp_iast B0 hw hS h27 (by unfold vp_in; decide) dL_links_474 (fun H locs f28 ef28 hw hS => ?_)
    rw [show (upd (jE (eS S0) (e8 1 S1.2.1 S1.2.2.1 S1.2.2.2.1 S1.2.2.2.2.1 S1.2.2.2.2.2.1 S1.2.2.2.2.2.2.1 (nI S1.2.2.2.2.2.2.2.2.length))) (10 : Int32).toNatClampNeg 0 : Nat → Int32) = (jE (eS S0) (e8 1 S1.2.1 0 S1.2.2.2.1 S1.2.2.2.2.1 S1.2.2.2.2.2.1 S1.2.2.2.2.2.2.1 (nI S1.2.2.2.2.2.2.2.2.length))) from (by rw [show (10 : Int32).toNatClampNeg = 8 + 2 from rfl, jE_u1, e8_u2])] at ef28
    have e29 : f28 = va_up f22 le (some (.inl (cI G, 16, .inl (jE (eS S0) (e8 1 S1.2.1 0 S1.2.2.2.1 S1.2.2.2.2.1 S1.2.2.2.2.2.1 S1.2.2.2.2.2.2.1 (nI S1.2.2.2.2.2.2.2.2.length)))))) := by rw [ef28, ef26, bx_uu]
    have h30 : f28 le = some (.inl (cI G, 16, .inl (jE (eS S0) (e8 1 S1.2.1 0 S1.2.2.2.1 S1.2.2.2.2.1 S1.2.2.2.2.2.1 S1.2.2.2.2.2.2.1 (nI S1.2.2.2.2.2.2.2.2.length))))) := by rw [ef28, va_up_self]
    obtain ⟨h40a, h40b⟩ := hact (fun e9 => by subst e9; exact absurd (by decide) hc)
    refine lv_aload hx hb dL_links_475 (lv_at hl9 2 rfl) ?_
    refine lv_aload hx hb dL_links_477 (lv_at hl9 13 rfl) ?_
    refine lv_aload hx hb dL_links_479 (lv_at hl9 14 rfl) ?_
    refine lv_iload hx hb dL_links_481 (lv_at hl9 4 rfl) ?_
    have h31 : f22 ly = some (.inl (cJ G, 64, .inr (.inl xs1))) := by rw [e23, va_up_ne _ _ n_ly_lq]; exact k_ly
    have h32 : f28 ly = some (.inl (cJ G, 64, .inr (.inl xs1))) := by rw [e29, va_up_ne _ _ n_ly_le]; exact h31
    have h33 : f28 lq = some (.inl (cI G, 12, .inl (j6 S0.2.2.2.2.2.2.2.1 (cpyF gw1 S1.2.2.2.2.2.2.2.1)))) := by rw [e29, va_up_ne _ _ n_lq_le]; exact h24
    refine hp_S (As := [.ref ly, .ref lq, .ref le, .int 1]) (rest := []) B0 hw hS (c_L_beg_1 hl G f28 ly lq le 1 S1.2.1 0 S1.2.2.2.1 S1.2.2.2.2.1 S1.2.2.2.2.2.1 S1.2.2.2.2.2.2.1 (cpyF gw1 S1.2.2.2.2.2.2.2.1) S1.2.2.2.2.2.2.2.2 (eS S0) S0.2.2.2.2.2.2.2.1 b (SOK.opn0 hSo1 hgw1) (by omega) xs1 hX1 (Nat.lt_of_le_of_lt hl1 (by decide)) h32 h33 h30) mS_L_beg qM_L_86 rfl rfl hl9.1 (Nat.le_of_ble_eq_true rfl) ⟨⟨Nat.le_of_ble_eq_true rfl, Nat.le_of_ble_eq_true rfl⟩, Nat.le_of_ble_eq_true rfl, Nat.le_of_ble_eq_true rfl⟩ dL_links_483 (fun E ce q9 f34 H locs hPX hw hS hce hcv hcl => ?_) (fun v f34 H locs hP hw hS => ?_)
    · exact hPX.elim
    · obtain ⟨ev9, ⟨xs35, h36, hX37⟩, h38, k39⟩ := hP
      subst ev9
      have h40 : f34 le = some (.inl (cI G, 16, .inl (jE (eS S0) (e8 ((openS gw1 S1).1) ((openS gw1 S1).2.1) ((openS gw1 S1).2.2.1) ((openS gw1 S1).2.2.2.1) ((openS gw1 S1).2.2.2.2.1) ((openS gw1 S1).2.2.2.2.2.1) ((openS gw1 S1).2.2.2.2.2.2.1) (nI (openS gw1 S1).2.2.2.2.2.2.2.2.length))))) := h38
      refine W.eq (g2 := F0 m 486 ls [.int (begV (1, S1.2.1, 0, S1.2.2.2.1, S1.2.2.2.2.1, S1.2.2.2.2.2.1, S1.2.2.2.2.2.2.1, (cpyF gw1 S1.2.2.2.2.2.2.2.1), S1.2.2.2.2.2.2.2.2))]) rfl ?_
      refine lv_pop hx hb dL_links_486 rfl ?_
      refine lv_aload_n hx hb dL_links_487 rfl (lv_at hl9 5 rfl) ?_
      refine lv_iconst (v := (-1)) hx hb dL_links_488 (by decide) ?_
      have h41 : f22 lx = some (.inl (cJ G, 64, .inr (.inl xs0))) := by rw [e23, va_up_ne _ _ n_lx_lq]; exact k_lx
      have h42 : f28 lx = some (.inl (cJ G, 64, .inr (.inl xs0))) := by rw [e29, va_up_ne _ _ n_lx_le]; exact h41
      have h43 : f34 lx = some (.inl (cJ G, 64, .inr (.inl xs0))) := (hEq.k k39) _ _ h42 (ninc n_lx_ly (ninc n_lx_le nin0))
      have h44 : f22 lw = some (.inl (cI G, 12, .inl (j6 gw0 gw1))) := by rw [e23, va_up_ne _ _ n_lw_lq]; exact k_lw
      have h45 : f28 lw = some (.inl (cI G, 12, .inl (j6 gw0 gw1))) := by rw [e29, va_up_ne _ _ n_lw_le]; exact h44
      have h46 : f34 lw = some (.inl (cI G, 12, .inl (j6 gw0 gw1))) := (hEq.k k39) _ _ h45 (ninc (Ne.symm n_ly_lw) (ninc n_lw_le nin0))
      have h47 : f22 la = some (.inl (cI G, 12, .inl (j6 ga0 ga1))) := by rw [e23, va_up_ne _ _ n_la_lq]; exact k_la
      have h48 : f28 la = some (.inl (cI G, 12, .inl (j6 ga0 ga1))) := by rw [e29, va_up_ne _ _ n_la_le]; exact h47
      have h49 : f34 la = some (.inl (cI G, 12, .inl (j6 ga0 ga1))) := (hEq.k k39) _ _ h48 (ninc (Ne.symm n_ly_la) (ninc n_la_le nin0))
      have h50 : f34 lq = some (.inl (cI G, 12, .inl (j6 S0.2.2.2.2.2.2.2.1 (cpyF gw1 S1.2.2.2.2.2.2.2.1)))) := (hEq.k k39) _ _ h33 (ninc (Ne.symm n_ly_lq) (ninc n_lq_le nin0))
      have hC51 : CXW G f34 xo ez eo bu nw0 na0 nq0 nr0 nw1 na1 nq1 nr1 bs bp bh bf bl bg S0 S1 gw0 ga0 gw1 ga1 n a cg x sa pk fl gv gh gl := CXW.eq hC ((show hEq [lx, ly, lw, la, lq, le] f f22 from (by rw [e23]; exact hEq.up (List.mem_cons_of_mem _ (List.mem_cons_of_mem _ (List.mem_cons_of_mem _ (List.mem_cons_of_mem _ List.mem_cons_self)))))).tr ((show hEq [lx, ly, lw, la, lq, le] f22 f28 from (by rw [e29]; exact hEq.up (List.mem_cons_of_mem _ (List.mem_cons_of_mem _ (List.mem_cons_of_mem _ (List.mem_cons_of_mem _ (List.mem_cons_of_mem _ List.mem_cons_self))))))).tr (show hEq [lx, ly, lw, la, lq, le] f28 f34 from (hEq.mono k39 (sub_cons (List.mem_cons_of_mem _ List.mem_cons_self) (sub_cons (List.mem_cons_of_mem _ (List.mem_cons_of_mem _ (List.mem_cons_of_mem _ (List.mem_cons_of_mem _ (List.mem_cons_of_mem _ List.mem_cons_self))))) sub_nil)))))) hdis (fun b9 hb9 => by
          simp only [List.mem_cons, List.not_mem_nil, or_false] at hb9
          rcases hb9 with hb9 | hb9 | hb9 | hb9 | hb9 | hb9
          · rw [hb9]; exact ⟨_, _, k_lx, h43, (Nat.ne_of_beq_eq_false rfl), (Nat.ne_of_beq_eq_false rfl)⟩
          · rw [hb9]; exact ⟨_, _, k_ly, h36, (Nat.ne_of_beq_eq_false rfl), (Nat.ne_of_beq_eq_false rfl)⟩
          · rw [hb9]; exact ⟨_, _, k_lw, h46, (Nat.ne_of_beq_eq_false rfl), (Nat.ne_of_beq_eq_false rfl)⟩
          · rw [hb9]; exact ⟨_, _, k_la, h49, (Nat.ne_of_beq_eq_false rfl), (Nat.ne_of_beq_eq_false rfl)⟩
          · rw [hb9]; exact ⟨_, _, k_lq, h50, (Nat.ne_of_beq_eq_false rfl), (Nat.ne_of_beq_eq_false rfl)⟩
          · rw [hb9]; exact ⟨_, _, h1, h40, (Nat.ne_of_beq_eq_false rfl), (Nat.ne_of_beq_eq_false rfl)⟩)
      refine hp_SH (As := [.ref xo, .int (-1)]) (rest := []) B0 hw hS (c_V_open_E hl G f34 xo ez eo bu nw0 na0 nq0 nr0 nw1 na1 nq1 nr1 bs bp bh bf bl bg S0 S1 gw0 ga0 gw1 ga1 n a cg x sa pk fl gv gh gl hC51 (Nat.lt_of_le_of_lt hl0 (by decide)) (Nat.lt_of_le_of_lt hl1 (by decide)) (-1) (by decide)) mH_L_open qM_L_106 rfl rfl hl9.1 (Nat.le_of_ble_eq_true rfl) ⟨⟨Nat.le_of_ble_eq_true rfl, Nat.le_of_ble_eq_true rfl⟩, Nat.le_of_ble_eq_true rfl, Nat.le_of_ble_eq_true rfl⟩ dL_links_489 (fun E ce q9 f52 H locs hPX hw hS hce hcv hcl => ?_) (fun v f52 H locs hP hw hS => ?_)
      · exact hPX.elim
      · obtain ⟨ev9, hC53, k54⟩ := hP
        subst ev9
        have hC53 : CXW G f52 xo ez eo bu nw0 na0 nq0 nr0 nw1 na1 nq1 nr1 bs bp bh bf bl bg S0 S1 gw0 ga0 gw1 ga1 n a cg x sa pk fl gv gh gl := hC53
        refine W.eq (g2 := F0 m 492 ls [.int (-71)]) rfl ?_
        refine lv_bipush (v := (-71)) hx hb dL_links_492 (by decide) ?_
        refine lv_icmp_ne (tgt := 517) hx hb dL_links_494 (by decide) (fun c9 => absurd (by decide) c9) (fun _ => ?_)
        refine lv_aload_n hx hb dL_links_497 rfl (lv_at hl9 5 rfl) ?_
        refine lv_iload hx hb dL_links_498 (lv_at hl9 4 rfl) ?_
        refine hp_SH (As := [.ref xo, .int 1]) (rest := []) B0 hw hS (c_V_open_1 hl G f52 xo ez eo bu nw0 na0 nq0 nr0 nw1 na1 nq1 nr1 bs bp bh bf bl bg S0 S1 gw0 ga0 gw1 ga1 n a cg x sa pk fl gv gh gl hC53 (Nat.lt_of_le_of_lt hl0 (by decide)) (Nat.lt_of_le_of_lt hl1 (by decide)) (st0_of hSo1 c2)) mH_L_open qM_L_106 rfl rfl hl9.1 (Nat.le_of_ble_eq_true rfl) ⟨⟨Nat.le_of_ble_eq_true rfl, Nat.le_of_ble_eq_true rfl⟩, Nat.le_of_ble_eq_true rfl, Nat.le_of_ble_eq_true rfl⟩ dL_links_500 (fun E ce q9 f55 H locs hPX hw hS hce hcv hcl => ?_) (fun v f55 H locs hP hw hS => ?_)
        · exact hPX.elim
        · obtain ⟨ev9, hC56, k57⟩ := hP
          subst ev9
          have hC56 : CXW G f55 xo ez eo bu nw0 na0 nq0 nr0 nw1 na1 nq1 nr1 bs bp bh bf bl bg S0 (openS gw1 S1) gw0 ga0 gw1 ga1 n a cg x sa pk fl gv gh gl := hC56
          refine W.eq (g2 := F0 m 503 ls [.int ((S1.2.1 + 1))]) rfl ?_
          refine lv_aload hx hb dL_links_503 (lv_at hl9 14 rfl) ?_
          refine lv_iload hx hb dL_links_505 (lv_at hl9 3 rfl) ?_
          refine lv_iconst (v := 1) hx hb dL_links_507 (by decide) ?_
          refine lv_iadd hx hb dL_links_508 ?_
          refine hp_c (v := 9) (by decide) ?_
          have h58 : f52 le = some (.inl (cI G, 16, .inl (jE (eS S0) (e8 ((openS gw1 S1).1) ((openS gw1 S1).2.1) ((openS gw1 S1).2.2.1) ((openS gw1 S1).2.2.2.1) ((openS gw1 S1).2.2.2.2.1) ((openS gw1 S1).2.2.2.2.2.1) ((openS gw1 S1).2.2.2.2.2.2.1) (nI (openS gw1 S1).2.2.2.2.2.2.2.2.length))))) := k54 _ _ h40 (Nat.ne_of_beq_eq_false rfl) (hdos _ (List.mem_cons_of_mem _ (List.mem_cons_of_mem _ (List.mem_cons_of_mem _ (List.mem_cons_of_mem _ (List.mem_cons_of_mem _ List.mem_cons_self))))))
          have h59 : f55 le = some (.inl (cI G, 16, .inl (jE (eS S0) (e8 ((openS gw1 S1).1) ((openS gw1 S1).2.1) ((openS gw1 S1).2.2.1) ((openS gw1 S1).2.2.2.1) ((openS gw1 S1).2.2.2.2.1) ((openS gw1 S1).2.2.2.2.2.1) ((openS gw1 S1).2.2.2.2.2.2.1) (nI (openS gw1 S1).2.2.2.2.2.2.2.2.length))))) := k57 _ _ h58 (Nat.ne_of_beq_eq_false rfl) (hdos _ (List.mem_cons_of_mem _ (List.mem_cons_of_mem _ (List.mem_cons_of_mem _ (List.mem_cons_of_mem _ (List.mem_cons_of_mem _ List.mem_cons_self))))))
          refine hp_iald B0 hw h59 (by unfold vp_in; decide) dL_links_509 ?_
          refine hp_c (v := (openS gw1 S1).2.1) (rfl) ?_
          refine lv_icmp_ne (tgt := 517) hx hb dL_links_510 (by decide) (fun c9 => absurd (openS_id gw1 S1).symm c9) (fun _ => ?_)
          refine lv_iconst (v := 1) hx hb dL_links_513 (by decide) ?_
          refine lv_goto (tgt := 518) hx hb dL_links_514 (by decide) ?_
          have h60 : f52 lx = some (.inl (cJ G, 64, .inr (.inl xs0))) := k54 _ _ h43 (Nat.ne_of_beq_eq_false rfl) (hdos _ List.mem_cons_self)
          have h61 : f55 lx = some (.inl (cJ G, 64, .inr (.inl xs0))) := k57 _ _ h60 (Nat.ne_of_beq_eq_false rfl) (hdos _ List.mem_cons_self)
          have h62 : f52 ly = some (.inl (cJ G, 64, .inr (.inl xs35))) := k54 _ _ h36 (Nat.ne_of_beq_eq_false rfl) (hdos _ (List.mem_cons_of_mem _ List.mem_cons_self))
          have h63 : f55 ly = some (.inl (cJ G, 64, .inr (.inl xs35))) := k57 _ _ h62 (Nat.ne_of_beq_eq_false rfl) (hdos _ (List.mem_cons_of_mem _ List.mem_cons_self))
          have h64 : f52 lw = some (.inl (cI G, 12, .inl (j6 gw0 gw1))) := k54 _ _ h46 (Nat.ne_of_beq_eq_false rfl) (hdos _ (List.mem_cons_of_mem _ (List.mem_cons_of_mem _ List.mem_cons_self)))
          have h65 : f55 lw = some (.inl (cI G, 12, .inl (j6 gw0 gw1))) := k57 _ _ h64 (Nat.ne_of_beq_eq_false rfl) (hdos _ (List.mem_cons_of_mem _ (List.mem_cons_of_mem _ List.mem_cons_self)))
          have h66 : f52 la = some (.inl (cI G, 12, .inl (j6 ga0 ga1))) := k54 _ _ h49 (Nat.ne_of_beq_eq_false rfl) (hdos _ (List.mem_cons_of_mem _ (List.mem_cons_of_mem _ (List.mem_cons_of_mem _ List.mem_cons_self))))
          have h67 : f55 la = some (.inl (cI G, 12, .inl (j6 ga0 ga1))) := k57 _ _ h66 (Nat.ne_of_beq_eq_false rfl) (hdos _ (List.mem_cons_of_mem _ (List.mem_cons_of_mem _ (List.mem_cons_of_mem _ List.mem_cons_self))))
          have h68 : f52 lq = some (.inl (cI G, 12, .inl (j6 S0.2.2.2.2.2.2.2.1 (cpyF gw1 S1.2.2.2.2.2.2.2.1)))) := k54 _ _ h50 (Nat.ne_of_beq_eq_false rfl) (hdos _ (List.mem_cons_of_mem _ (List.mem_cons_of_mem _ (List.mem_cons_of_mem _ (List.mem_cons_of_mem _ List.mem_cons_self)))))
          have h69 : f55 lq = some (.inl (cI G, 12, .inl (j6 S0.2.2.2.2.2.2.2.1 (cpyF gw1 S1.2.2.2.2.2.2.2.1)))) := k57 _ _ h68 (Nat.ne_of_beq_eq_false rfl) (hdos _ (List.mem_cons_of_mem _ (List.mem_cons_of_mem _ (List.mem_cons_of_mem _ (List.mem_cons_of_mem _ List.mem_cons_self)))))
          exact hp_zret (v := 1) B0 hw hS hr ⟨Nat.le_of_ble_eq_true rfl, Nat.le_of_ble_eq_true rfl⟩ (rfl) dL_links_518 (⟨rfl, S0, (openS gw1 S1), gw0, ga0, gw1, ga1, hC56, ⟨⟨_, h61, hX0⟩, ⟨_, h63, (show XS xs35 (openS gw1 S1).2.2.2.2.2.2.2.2 from hX37)⟩, h65, h67, (by rw [openS_gq]; exact h69), h59⟩, ⟨SOK.mono hSo0 (by omega), SOK.mono (SOK.opn hSo1 (by omega) hgw1) (by omega), hgw0, hga0, hgw1, hga1⟩, hl0, (Nat.le_trans (openS_len gw1 S1) (by omega)), ((show hKn [lx, ly, lw, la, lq, le, xo, ez, eo, bu, nw0, na0, nq0, nr0, nw1, na1, nq1, nr1, bs, bp, bh, bf, bl, bg] f f22 from (by rw [e23]; exact hKn.up (List.mem_cons_of_mem _ (List.mem_cons_of_mem _ (List.mem_cons_of_mem _ (List.mem_cons_of_mem _ List.mem_cons_self)))))).tr ((show hKn [lx, ly, lw, la, lq, le, xo, ez, eo, bu, nw0, na0, nq0, nr0, nw1, na1, nq1, nr1, bs, bp, bh, bf, bl, bg] f22 f28 from (by rw [e29]; exact hKn.up (List.mem_cons_of_mem _ (List.mem_cons_of_mem _ (List.mem_cons_of_mem _ (List.mem_cons_of_mem _ (List.mem_cons_of_mem _ List.mem_cons_self))))))).tr ((show hKn [lx, ly, lw, la, lq, le, xo, ez, eo, bu, nw0, na0, nq0, nr0, nw1, na1, nq1, nr1, bs, bp, bh, bf, bl, bg] f28 f34 from (hKn.mono (hKn.eq k39) (sub_cons (List.mem_cons_of_mem _ List.mem_cons_self) (sub_cons (List.mem_cons_of_mem _ (List.mem_cons_of_mem _ (List.mem_cons_of_mem _ (List.mem_cons_of_mem _ (List.mem_cons_of_mem _ List.mem_cons_self))))) sub_nil)))).tr ((show hKn [lx, ly, lw, la, lq, le, xo, ez, eo, bu, nw0, na0, nq0, nr0, nw1, na1, nq1, nr1, bs, bp, bh, bf, bl, bg] f34 f52 from (hKn.mono k54 sbA)).tr (show hKn [lx, ly, lw, la, lq, le, xo, ez, eo, bu, nw0, na0, nq0, nr0, nw1, na1, nq1, nr1, bs, bp, bh, bf, bl, bg] f52 f55 from (hKn.mono k57 sbA))))))⟩)
  · refine lv_aload_n hx hb dL_links_398 rfl (lv_at hl9 4 rfl) ?_
    refine lv_iload hx hb dL_links_399 (lv_at hl9 3 rfl) ?_
    refine hp_SH (As := [.ref xo, .int 1]) (rest := []) B0 hw hS (c_V_open_S1 hl G f xo ez eo bu nw0 na0 nq0 nr0 nw1 na1 nq1 nr1 bs bp bh bf bl bg S0 S1 gw0 ga0 gw1 ga1 n a cg x sa pk fl gv gh gl hC (Nat.lt_of_le_of_lt hl0 (by decide)) (Nat.lt_of_le_of_lt hl1 (by decide)) (st1_of c2)) mH_L_open qM_L_106 rfl rfl hl9.1 (Nat.le_of_ble_eq_true rfl) ⟨⟨Nat.le_of_ble_eq_true rfl, Nat.le_of_ble_eq_true rfl⟩, Nat.le_of_ble_eq_true rfl, Nat.le_of_ble_eq_true rfl⟩ dL_links_401 (fun E ce q9 f70 H locs hPX hw hS hce hcv hcl => ?_) (fun v f70 H locs hP hw hS => ?_)
    · exact hPX.elim
    · obtain ⟨ev9, hC71, k72⟩ := hP
      subst ev9
      have hC71 : CXW G f70 xo ez eo bu nw0 na0 nq0 nr0 nw1 na1 nq1 nr1 bs bp bh bf bl bg S0 S1 gw0 ga0 gw1 ga1 n a cg x sa pk fl gv gh gl := hC71
      refine W.eq (g2 := F0 m 404 ls [.int (-73)]) rfl ?_
      refine lv_bipush (v := (-73)) hx hb dL_links_404 (by decide) ?_
      refine lv_icmp_ne (tgt := 423) hx hb dL_links_406 (by decide) (fun c9 => absurd (by decide) c9) (fun _ => ?_)
      refine lv_aload_n hx hb dL_links_409 rfl (lv_at hl9 4 rfl) ?_
      refine lv_iconst (v := 2) hx hb dL_links_410 (by decide) ?_
      refine hp_SH (As := [.ref xo, .int 2]) (rest := []) B0 hw hS (c_V_open_E hl G f70 xo ez eo bu nw0 na0 nq0 nr0 nw1 na1 nq1 nr1 bs bp bh bf bl bg S0 S1 gw0 ga0 gw1 ga1 n a cg x sa pk fl gv gh gl hC71 (Nat.lt_of_le_of_lt hl0 (by decide)) (Nat.lt_of_le_of_lt hl1 (by decide)) 2 (by decide)) mH_L_open qM_L_106 rfl rfl hl9.1 (Nat.le_of_ble_eq_true rfl) ⟨⟨Nat.le_of_ble_eq_true rfl, Nat.le_of_ble_eq_true rfl⟩, Nat.le_of_ble_eq_true rfl, Nat.le_of_ble_eq_true rfl⟩ dL_links_411 (fun E ce q9 f73 H locs hPX hw hS hce hcv hcl => ?_) (fun v f73 H locs hP hw hS => ?_)
      · exact hPX.elim
      · obtain ⟨ev9, hC74, k75⟩ := hP
        subst ev9
        have hC74 : CXW G f73 xo ez eo bu nw0 na0 nq0 nr0 nw1 na1 nq1 nr1 bs bp bh bf bl bg S0 S1 gw0 ga0 gw1 ga1 n a cg x sa pk fl gv gh gl := hC74
        refine W.eq (g2 := F0 m 414 ls [.int (-71)]) rfl ?_
        refine lv_bipush (v := (-71)) hx hb dL_links_414 (by decide) ?_
        refine lv_icmp_ne (tgt := 423) hx hb dL_links_416 (by decide) (fun c9 => absurd (by decide) c9) (fun _ => ?_)
        refine lv_iconst (v := 1) hx hb dL_links_419 (by decide) ?_
        refine lv_goto (tgt := 424) hx hb dL_links_420 (by decide) ?_
        have h76 : f70 lx = some (.inl (cJ G, 64, .inr (.inl xs0))) := k72 _ _ k_lx (Nat.ne_of_beq_eq_false rfl) (hdos _ List.mem_cons_self)
        have h77 : f73 lx = some (.inl (cJ G, 64, .inr (.inl xs0))) := k75 _ _ h76 (Nat.ne_of_beq_eq_false rfl) (hdos _ List.mem_cons_self)
        have h78 : f70 ly = some (.inl (cJ G, 64, .inr (.inl xs1))) := k72 _ _ k_ly (Nat.ne_of_beq_eq_false rfl) (hdos _ (List.mem_cons_of_mem _ List.mem_cons_self))
        have h79 : f73 ly = some (.inl (cJ G, 64, .inr (.inl xs1))) := k75 _ _ h78 (Nat.ne_of_beq_eq_false rfl) (hdos _ (List.mem_cons_of_mem _ List.mem_cons_self))
        have h80 : f70 lw = some (.inl (cI G, 12, .inl (j6 gw0 gw1))) := k72 _ _ k_lw (Nat.ne_of_beq_eq_false rfl) (hdos _ (List.mem_cons_of_mem _ (List.mem_cons_of_mem _ List.mem_cons_self)))
        have h81 : f73 lw = some (.inl (cI G, 12, .inl (j6 gw0 gw1))) := k75 _ _ h80 (Nat.ne_of_beq_eq_false rfl) (hdos _ (List.mem_cons_of_mem _ (List.mem_cons_of_mem _ List.mem_cons_self)))
        have h82 : f70 la = some (.inl (cI G, 12, .inl (j6 ga0 ga1))) := k72 _ _ k_la (Nat.ne_of_beq_eq_false rfl) (hdos _ (List.mem_cons_of_mem _ (List.mem_cons_of_mem _ (List.mem_cons_of_mem _ List.mem_cons_self))))
        have h83 : f73 la = some (.inl (cI G, 12, .inl (j6 ga0 ga1))) := k75 _ _ h82 (Nat.ne_of_beq_eq_false rfl) (hdos _ (List.mem_cons_of_mem _ (List.mem_cons_of_mem _ (List.mem_cons_of_mem _ List.mem_cons_self))))
        have h84 : f70 lq = some (.inl (cI G, 12, .inl (j6 S0.2.2.2.2.2.2.2.1 S1.2.2.2.2.2.2.2.1))) := k72 _ _ k_lq (Nat.ne_of_beq_eq_false rfl) (hdos _ (List.mem_cons_of_mem _ (List.mem_cons_of_mem _ (List.mem_cons_of_mem _ (List.mem_cons_of_mem _ List.mem_cons_self)))))
        have h85 : f73 lq = some (.inl (cI G, 12, .inl (j6 S0.2.2.2.2.2.2.2.1 S1.2.2.2.2.2.2.2.1))) := k75 _ _ h84 (Nat.ne_of_beq_eq_false rfl) (hdos _ (List.mem_cons_of_mem _ (List.mem_cons_of_mem _ (List.mem_cons_of_mem _ (List.mem_cons_of_mem _ List.mem_cons_self)))))
        have h86 : f70 le = some (.inl (cI G, 16, .inl (jE (eS S0) (e8 S1.1 S1.2.1 S1.2.2.1 S1.2.2.2.1 S1.2.2.2.2.1 S1.2.2.2.2.2.1 S1.2.2.2.2.2.2.1 (nI S1.2.2.2.2.2.2.2.2.length))))) := k72 _ _ h1 (Nat.ne_of_beq_eq_false rfl) (hdos _ (List.mem_cons_of_mem _ (List.mem_cons_of_mem _ (List.mem_cons_of_mem _ (List.mem_cons_of_mem _ (List.mem_cons_of_mem _ List.mem_cons_self))))))
        have h87 : f73 le = some (.inl (cI G, 16, .inl (jE (eS S0) (e8 S1.1 S1.2.1 S1.2.2.1 S1.2.2.2.1 S1.2.2.2.2.1 S1.2.2.2.2.2.1 S1.2.2.2.2.2.2.1 (nI S1.2.2.2.2.2.2.2.2.length))))) := k75 _ _ h86 (Nat.ne_of_beq_eq_false rfl) (hdos _ (List.mem_cons_of_mem _ (List.mem_cons_of_mem _ (List.mem_cons_of_mem _ (List.mem_cons_of_mem _ (List.mem_cons_of_mem _ List.mem_cons_self))))))
        exact hp_zret (v := 1) B0 hw hS hr ⟨Nat.le_of_ble_eq_true rfl, Nat.le_of_ble_eq_true rfl⟩ (rfl) dL_links_424 (⟨rfl, S0, S1, gw0, ga0, gw1, ga1, hC74, ⟨⟨_, h77, hX0⟩, ⟨_, h79, hX1⟩, h81, h83, h85, h87⟩, ⟨SOK.mono hSo0 (by omega), SOK.mono hSo1 (by omega), hgw0, hga0, hgw1, hga1⟩, hl0, hl1, ((show hKn [lx, ly, lw, la, lq, le, xo, ez, eo, bu, nw0, na0, nq0, nr0, nw1, na1, nq1, nr1, bs, bp, bh, bf, bl, bg] f f70 from (hKn.mono k72 sbA)).tr (show hKn [lx, ly, lw, la, lq, le, xo, ez, eo, bu, nw0, na0, nq0, nr0, nw1, na1, nq1, nr1, bs, bp, bh, bf, bl, bg] f70 f73 from (hKn.mono k75 sbA)))⟩)

set_option maxHeartbeats 4000000 in
set_option maxRecDepth 100000 in
theorem lk_c_0 {l : Launch} (hl : l.stackTraces = false) (G : hG) (f : hM) (xo ez eo bu nw0 na0 nq0 nr0 nw1 na1 nq1 nr1 bs bp bh bf bl bg : Nat) (S0 : ES) (S1 : ES) (gw0 : Nat → Int32) (ga0 : Nat → Int32) (gw1 : Nat → Int32) (ga1 : Nat → Int32) (n : Nat) (a : Nat) (cg : Nat) (x : Nat) (sa : Nat → Nat) (pk : Nat → Nat) (fl : Nat → Nat) (gv : Nat → Nat) (gh : Nat → Int32) (gl : Nat → Int32) (hC : CXW G f xo ez eo bu nw0 na0 nq0 nr0 nw1 na1 nq1 nr1 bs bp bh bf bl bg S0 S1 gw0 ga0 gw1 ga1 n a cg x sa pk fl gv gh gl) (lx ly lw la lq le : Nat) (hdis : ∀ p, p ∈ [xo, ez, eo, bu, nw0, na0, nq0, nr0, nw1, na1, nq1, nr1, bs, bp, bh, bf, bl, bg] → p ∉ [lx, ly, lw, la, lq, le]) (hdos : ∀ p, p ∈ [lx, ly, lw, la, lq, le] → p ∉ [xo, ez, eo, bu, nw0, na0, nq0, nr0, nw1, na1, nq1, nr1, bs, bp, bh, bf, bl, bg]) (n_lx_ly : lx ≠ ly) (n_lw_la : lw ≠ la) (n_lw_lq : lw ≠ lq) (n_la_lq : la ≠ lq) (hLX : LX G f lx ly lw la lq le S0 S1 gw0 ga0 gw1 ga1) (b : Nat) (hInv : INV b S0 S1 gw0 ga0 gw1 ga1) (hbb : b + 200 ≤ 1000000) (hl0 : S0.2.2.2.2.2.2.2.2.length ≤ 52) (hl1 : S1.2.2.2.2.2.2.2.2.length ≤ 52) (ac : Nat) (hac : ac < 24) (hact : ac ≠ 22 → S0.2.2.2.2.2.2.2.2.length ≤ 40 ∧ S1.2.2.2.2.2.2.2.2.length ≤ 40) (u z : Int32) {p : Program} {e : Env} {s : State} {m : MethodId} {args : Array Value} {below : List Frame} {meth : Method} {c : Code} (B0 : hB p l s m args meth c cL_links 17 RL G) (hr : meth.sig.returnType = some .boolean) {H : Heap} {locs : List Loc} {ls : Array Slot} (hw : hW G f H) (hS : va_S (hFr G) s.heap H locs) (j13 : Nat) (hj13 : j13 < 6) (hc : nI ac = 10) (hl9 : lv_has ls 17 [(13, .int (nI j13)), (12, .ref lx), (11, .int 0), (10, .int 0), (0, .ref xo), (1, .int (nI ac)), (2, .int u), (3, .int z), (4, .ref lx), (5, .ref ly), (6, .ref lw), (7, .ref la), (8, .ref lq), (9, .ref le)]) : W p l e { frames := 9, cells := 203, slots := 1118, locals := 178 } s m args below meth c H locs 0 0 (vx_MQ below (hQ G (fun v f1 => v = some (.int 1) ∧ ∃ (S2 S3 : ES) (w0 a0 w1 a1 : Nat → Int32), CXW G f1 xo ez eo bu nw0 na0 nq0 nr0 nw1 na1 nq1 nr1 bs bp bh bf bl bg S2 S3 w0 a0 w1 a1 n a cg x sa pk fl gv gh gl ∧ LX G f1 lx ly lw la lq le S2 S3 w0 a0 w1 a1 ∧ INV (b + 100) S2 S3 w0 a0 w1 a1 ∧ S2.2.2.2.2.2.2.2.2.length ≤ 52 ∧ S3.2.2.2.2.2.2.2.2.length ≤ 52 ∧ hKn [lx, ly, lw, la, lq, le, xo, ez, eo, bu, nw0, na0, nq0, nr0, nw1, na1, nq1, nr1, bs, bp, bh, bf, bl, bg] f f1)) (hX G (fun E f1 => False)) args s 203 1118 (hFr G)) (F0 m 525 ls []) := by
  have hx := B0.1
  have hb := B0.2.1
  obtain ⟨⟨xs0, k_lx, hX0⟩, ⟨xs1, k_ly, hX1⟩, k_lw, k_la, k_lq, k_le⟩ := hLX
  obtain ⟨hSo0, hSo1, hgw0, hga0, hgw1, hga1⟩ := id hInv
  have n_lx_lw : lx ≠ lw := hneL k_lx k_lw (Nat.ne_of_beq_eq_false rfl)
  have n_lx_la : lx ≠ la := hneL k_lx k_la (Nat.ne_of_beq_eq_false rfl)
  have n_lx_lq : lx ≠ lq := hneL k_lx k_lq (Nat.ne_of_beq_eq_false rfl)
  have n_lx_le : lx ≠ le := hneL k_lx k_le (Nat.ne_of_beq_eq_false rfl)
  have n_ly_lw : ly ≠ lw := hneL k_ly k_lw (Nat.ne_of_beq_eq_false rfl)
  have n_ly_la : ly ≠ la := hneL k_ly k_la (Nat.ne_of_beq_eq_false rfl)
  have n_ly_lq : ly ≠ lq := hneL k_ly k_lq (Nat.ne_of_beq_eq_false rfl)
  have n_ly_le : ly ≠ le := hneL k_ly k_le (Nat.ne_of_beq_eq_false rfl)
  have n_lw_le : lw ≠ le := hneL k_lw k_le (Nat.ne_of_beq_eq_false rfl)
  have n_la_le : la ≠ le := hneL k_la k_le (Nat.ne_of_beq_eq_false rfl)
  have n_lq_le : lq ≠ le := hneL k_lq k_le (Nat.ne_of_beq_eq_false rfl)
  have sbA : ∀ x9, x9 ∈ [xo, ez, eo, bu, nw0, na0, nq0, nr0, nw1, na1, nq1, nr1, bs, bp, bh, bf, bl, bg] → x9 ∈ [lx, ly, lw, la, lq, le, xo, ez, eo, bu, nw0, na0, nq0, nr0, nw1, na1, nq1, nr1, bs, bp, bh, bf, bl, bg] := sbA
  obtain ⟨xx, hxx, hx4⟩ := hSo0.2.2.2.2.1
  have h1 : f le = some (.inl (cI G, 16, .inl (jE (e8 S0.1 S0.2.1 S0.2.2.1 S0.2.2.2.1 S0.2.2.2.2.1 S0.2.2.2.2.2.1 S0.2.2.2.2.2.2.1 (nI S0.2.2.2.2.2.2.2.2.length)) (eS S1)))) := k_le
  refine lv_iload_n hx hb dL_links_525 rfl (lv_at hl9 7 rfl) ?_
  refine lv_bipush (v := 6) hx hb dL_links_526 (by decide) ?_
  refine lv_iand hx hb dL_links_528 ?_
  refine lv_if_le (tgt := 548) hx hb dL_links_529 (by decide) (fun c2 => ?_) (fun c2 => ?_)
  · refine lv_aload hx hb dL_links_548 (lv_at hl9 13 rfl) ?_
    refine lv_iload hx hb dL_links_550 (lv_at hl9 2 rfl) ?_
    refine hp_iald B0 hw h1 (by unfold vp_in; decide) dL_links_552 ?_
    refine hp_c (v := S0.1) (rfl) ?_
    refine lv_if_ne (tgt := 573) hx hb dL_links_553 (by decide) (fun c3 => ?_) (fun c3 => ?_)
    · obtain ⟨h40a, h40b⟩ := hact (fun e9 => by subst e9; exact absurd hc (by decide))
      refine lv_aload hx hb dL_links_573 (lv_at hl9 13 rfl) ?_
      refine lv_iload hx hb dL_links_575 (lv_at hl9 2 rfl) ?_
      refine hp_iald B0 hw h1 (by unfold vp_in; decide) dL_links_577 ?_
      refine hp_c (v := S0.1) (rfl) ?_
      refine lv_istore (lv' := [(14, .int S0.1), (13, .int (nI j13)), (12, .ref lx), (11, .int 0), (10, .int 0), (0, .ref xo), (1, .int (nI ac)), (2, .int u), (3, .int z), (4, .ref lx), (5, .ref ly), (6, .ref lw), (7, .ref la), (8, .ref lq), (9, .ref le)]) hx hb dL_links_578 hl9 (by decide) rfl (fun ls hl9 => ?_)
      refine lv_aload hx hb dL_links_580 (lv_at hl9 2 rfl) ?_
      refine lv_aload hx hb dL_links_582 (lv_at hl9 14 rfl) ?_
      refine lv_iload hx hb dL_links_584 (lv_at hl9 4 rfl) ?_
      refine lv_iconst (v := 4) hx hb dL_links_586 (by decide) ?_
      refine lv_iconst (v := 0) hx hb dL_links_587 (by decide) ?_
      refine lv_lconst (v := lN 0) hx hb dL_links_588 rfl ?_
      refine hp_S (As := [.ref lx, .ref le, .int 0, .int 4, .int 0, .long (lN 0)]) (rest := []) B0 hw hS (c_L_post_0 hl G f lx le xs0 (jE (e8 S0.1 S0.2.1 S0.2.2.1 S0.2.2.2.1 S0.2.2.2.2.1 S0.2.2.2.2.2.1 S0.2.2.2.2.2.2.1 (nI S0.2.2.2.2.2.2.2.2.length)) (eS S1)) k_lx h1 4 0 0 xx S0.2.2.2.2.2.2.2.2.length (by omega) (by omega) (show (jE (e8 S0.1 S0.2.1 S0.2.2.1 S0.2.2.2.1 S0.2.2.2.2.1 S0.2.2.2.2.2.1 S0.2.2.2.2.2.2.1 (nI S0.2.2.2.2.2.2.2.2.length)) (eS S1)) 6 = nI xx from hxx) (by omega) (show (jE (e8 S0.1 S0.2.1 S0.2.2.1 S0.2.2.2.1 S0.2.2.2.2.1 S0.2.2.2.2.2.1 S0.2.2.2.2.2.2.1 (nI S0.2.2.2.2.2.2.2.2.length)) (eS S1)) 7 = nI S0.2.2.2.2.2.2.2.2.length from rfl) (by omega)) mS_L_post qM_L_73 rfl rfl hl9.1 (Nat.le_of_ble_eq_true rfl) ⟨⟨Nat.le_of_ble_eq_true rfl, Nat.le_of_ble_eq_true rfl⟩, Nat.le_of_ble_eq_true rfl, Nat.le_of_ble_eq_true rfl⟩ dL_links_589 (fun E ce q9 f4 H locs hPX hw hS hce hcv hcl => ?_) (fun v f4 H locs hP hw hS => ?_)
      · exact hPX.elim
      · obtain ⟨ev9, h5, h6, k7⟩ := hP
        subst ev9
        rw [show (upd (jE (e8 S0.1 S0.2.1 S0.2.2.1 S0.2.2.2.1 S0.2.2.2.2.1 S0.2.2.2.2.2.1 S0.2.2.2.2.2.2.1 (nI S0.2.2.2.2.2.2.2.2.length)) (eS S1)) 7 (nI (S0.2.2.2.2.2.2.2.2.length + 1)) : Nat → Int32) = (jE (e8 S0.1 S0.2.1 S0.2.2.1 S0.2.2.2.1 S0.2.2.2.2.1 S0.2.2.2.2.2.1 S0.2.2.2.2.2.2.1 (nI (S0.2.2.2.2.2.2.2.2.length + 1))) (eS S1)) from (by rw [jE_u0 (by omega), e8_u7])] at h6
        refine W.eq (g2 := F0 m 592 ls []) rfl ?_
        refine lv_aload hx hb dL_links_592 (lv_at hl9 14 rfl) ?_
        refine lv_iload hx hb dL_links_594 (lv_at hl9 3 rfl) ?_
        refine lv_iconst (v := 0) hx hb dL_links_596 (by decide) ?_
        refine hp_iast B0 hw hS h6 (by unfold vp_in; decide) dL_links_597 (fun H locs f8 ef8 hw hS => ?_)
        rw [show (upd (jE (e8 S0.1 S0.2.1 S0.2.2.1 S0.2.2.2.1 S0.2.2.2.2.1 S0.2.2.2.2.2.1 S0.2.2.2.2.2.2.1 (nI (S0.2.2.2.2.2.2.2.2.length + 1))) (eS S1)) (0 : Int32).toNatClampNeg 0 : Nat → Int32) = (jE (e8 0 S0.2.1 S0.2.2.1 S0.2.2.2.1 S0.2.2.2.2.1 S0.2.2.2.2.2.1 S0.2.2.2.2.2.2.1 (nI (S0.2.2.2.2.2.2.2.2.length + 1))) (eS S1)) from (by rw [show (0 : Int32).toNatClampNeg = 0 from rfl, jE_u0 (by omega), e8_u0])] at ef8
        have h9 : f8 le = some (.inl (cI G, 16, .inl (jE (e8 0 S0.2.1 S0.2.2.1 S0.2.2.2.1 S0.2.2.2.2.1 S0.2.2.2.2.2.1 S0.2.2.2.2.2.2.1 (nI (S0.2.2.2.2.2.2.2.2.length + 1))) (eS S1)))) := by rw [ef8, va_up_self]
        have h10 : f8 lx = some (.inl (cJ G, 64, .inr (.inl (vp_updL xs0 S0.2.2.2.2.2.2.2.2.length (lN (4 + 8 * 0 + xx * 4294967296 + 0 * 68719476736)))))) := by rw [ef8, va_up_ne _ _ n_lx_le]; exact h5
        rw [stop_pk hxx hx4] at h10
        rw [show (e8 0 S0.2.1 S0.2.2.1 S0.2.2.2.1 S0.2.2.2.2.1 S0.2.2.2.2.2.1 S0.2.2.2.2.2.2.1 (nI (S0.2.2.2.2.2.2.2.2.length + 1))) = eS (closeS S0) from eS_app (gq := S0.2.2.2.2.2.2.2.1) (4, 0, S0.2.2.2.2.2.2.1, N6)] at h9
        have h11 : f8 le = some (.inl (cI G, 16, .inl (jE (e8 ((closeS S0).1) ((closeS S0).2.1) ((closeS S0).2.2.1) ((closeS S0).2.2.2.1) ((closeS S0).2.2.2.2.1) ((closeS S0).2.2.2.2.2.1) ((closeS S0).2.2.2.2.2.2.1) (nI (closeS S0).2.2.2.2.2.2.2.2.length)) (eS S1)))) := h9
        refine lv_aload_n hx hb dL_links_598 rfl (lv_at hl9 5 rfl) ?_
        refine lv_iload hx hb dL_links_599 (lv_at hl9 4 rfl) ?_
        have h12 : f4 ly = some (.inl (cJ G, 64, .inr (.inl xs1))) := (hEq.k k7) _ _ k_ly (ninc (Ne.symm n_lx_ly) (ninc n_ly_le nin0))
        have h13 : f8 ly = some (.inl (cJ G, 64, .inr (.inl xs1))) := by rw [ef8, va_up_ne _ _ n_ly_le]; exact h12
        have h14 : f4 lw = some (.inl (cI G, 12, .inl (j6 gw0 gw1))) := (hEq.k k7) _ _ k_lw (ninc (Ne.symm n_lx_lw) (ninc n_lw_le nin0))
        have h15 : f8 lw = some (.inl (cI G, 12, .inl (j6 gw0 gw1))) := by rw [ef8, va_up_ne _ _ n_lw_le]; exact h14
        have h16 : f4 la = some (.inl (cI G, 12, .inl (j6 ga0 ga1))) := (hEq.k k7) _ _ k_la (ninc (Ne.symm n_lx_la) (ninc n_la_le nin0))
        have h17 : f8 la = some (.inl (cI G, 12, .inl (j6 ga0 ga1))) := by rw [ef8, va_up_ne _ _ n_la_le]; exact h16
        have h18 : f4 lq = some (.inl (cI G, 12, .inl (j6 S0.2.2.2.2.2.2.2.1 S1.2.2.2.2.2.2.2.1))) := (hEq.k k7) _ _ k_lq (ninc (Ne.symm n_lx_lq) (ninc n_lq_le nin0))
        have h19 : f8 lq = some (.inl (cI G, 12, .inl (j6 S0.2.2.2.2.2.2.2.1 S1.2.2.2.2.2.2.2.1))) := by rw [ef8, va_up_ne _ _ n_lq_le]; exact h18
        have hC20 : CXW G f8 xo ez eo bu nw0 na0 nq0 nr0 nw1 na1 nq1 nr1 bs bp bh bf bl bg S0 S1 gw0 ga0 gw1 ga1 n a cg x sa pk fl gv gh gl := CXW.eq hC ((show hEq [lx, ly, lw, la, lq, le] f f4 from (hEq.mono k7 (sub_cons List.mem_cons_self (sub_cons (List.mem_cons_of_mem _ (List.mem_cons_of_mem _ (List.mem_cons_of_mem _ (List.mem_cons_of_mem _ (List.mem_cons_of_mem _ List.mem_cons_self))))) sub_nil)))).tr (show hEq [lx, ly, lw, la, lq, le] f4 f8 from (by rw [ef8]; exact hEq.up (List.mem_cons_of_mem _ (List.mem_cons_of_mem _ (List.mem_cons_of_mem _ (List.mem_cons_of_mem _ (List.mem_cons_of_mem _ List.mem_cons_self)))))))) hdis (fun b9 hb9 => by
            simp only [List.mem_cons, List.not_mem_nil, or_false] at hb9
            rcases hb9 with hb9 | hb9 | hb9 | hb9 | hb9 | hb9
            · rw [hb9]; exact ⟨_, _, k_lx, h10, (Nat.ne_of_beq_eq_false rfl), (Nat.ne_of_beq_eq_false rfl)⟩
            · rw [hb9]; exact ⟨_, _, k_ly, h13, (Nat.ne_of_beq_eq_false rfl), (Nat.ne_of_beq_eq_false rfl)⟩
            · rw [hb9]; exact ⟨_, _, k_lw, h15, (Nat.ne_of_beq_eq_false rfl), (Nat.ne_of_beq_eq_false rfl)⟩
            · rw [hb9]; exact ⟨_, _, k_la, h17, (Nat.ne_of_beq_eq_false rfl), (Nat.ne_of_beq_eq_false rfl)⟩
            · rw [hb9]; exact ⟨_, _, k_lq, h19, (Nat.ne_of_beq_eq_false rfl), (Nat.ne_of_beq_eq_false rfl)⟩
            · rw [hb9]; exact ⟨_, _, h1, h11, (Nat.ne_of_beq_eq_false rfl), (Nat.ne_of_beq_eq_false rfl)⟩)
        refine hp_SH (As := [.ref xo, .int 0]) (rest := []) B0 hw hS (c_V_close_0 hl G f8 xo ez eo bu nw0 na0 nq0 nr0 nw1 na1 nq1 nr1 bs bp bh bf bl bg S0 S1 gw0 ga0 gw1 ga1 n a cg x sa pk fl gv gh gl hC20 (Nat.lt_of_le_of_lt hl0 (by decide)) (Nat.lt_of_le_of_lt hl1 (by decide)) c3) mH_L_close qM_L_109 rfl rfl hl9.1 (Nat.le_of_ble_eq_true rfl) ⟨⟨Nat.le_of_ble_eq_true rfl, Nat.le_of_ble_eq_true rfl⟩, Nat.le_of_ble_eq_true rfl, Nat.le_of_ble_eq_true rfl⟩ dL_links_601 (fun E ce q9 f21 H locs hPX hw hS hce hcv hcl => ?_) (fun v f21 H locs hP hw hS => ?_)
        · exact hPX.elim
        · obtain ⟨ev9, hC22, k23⟩ := hP
          subst ev9
          have hC22 : CXW G f21 xo ez eo bu nw0 na0 nq0 nr0 nw1 na1 nq1 nr1 bs bp bh bf bl bg (closeS S0) S1 gw0 ga0 gw1 ga1 n a cg x sa pk fl gv gh gl := hC22
          refine W.eq (g2 := F0 m 604 ls [.int (S0.1)]) rfl ?_
          refine lv_iload hx hb dL_links_604 (lv_at hl9 0 rfl) ?_
          refine lv_icmp_ne (tgt := 613) hx hb dL_links_606 (by decide) (fun c9 => absurd rfl c9) (fun _ => ?_)
          refine lv_iconst (v := 1) hx hb dL_links_609 (by decide) ?_
          refine lv_goto (tgt := 614) hx hb dL_links_610 (by decide) ?_
          have h24 : f21 lx = some (.inl (cJ G, 64, .inr (.inl (vp_updL xs0 S0.2.2.2.2.2.2.2.2.length (lN (pkN (4, 0, S0.2.2.2.2.2.2.1, N6))))))) := k23 _ _ h10 (Nat.ne_of_beq_eq_false rfl) (hdos _ List.mem_cons_self)
          have h25 : f21 ly = some (.inl (cJ G, 64, .inr (.inl xs1))) := k23 _ _ h13 (Nat.ne_of_beq_eq_false rfl) (hdos _ (List.mem_cons_of_mem _ List.mem_cons_self))
          have h26 : f21 lw = some (.inl (cI G, 12, .inl (j6 gw0 gw1))) := k23 _ _ h15 (Nat.ne_of_beq_eq_false rfl) (hdos _ (List.mem_cons_of_mem _ (List.mem_cons_of_mem _ List.mem_cons_self)))
          have h27 : f21 la = some (.inl (cI G, 12, .inl (j6 ga0 ga1))) := k23 _ _ h17 (Nat.ne_of_beq_eq_false rfl) (hdos _ (List.mem_cons_of_mem _ (List.mem_cons_of_mem _ (List.mem_cons_of_mem _ List.mem_cons_self))))
          have h28 : f21 lq = some (.inl (cI G, 12, .inl (j6 S0.2.2.2.2.2.2.2.1 S1.2.2.2.2.2.2.2.1))) := k23 _ _ h19 (Nat.ne_of_beq_eq_false rfl) (hdos _ (List.mem_cons_of_mem _ (List.mem_cons_of_mem _ (List.mem_cons_of_mem _ (List.mem_cons_of_mem _ List.mem_cons_self)))))
          have h29 : f21 le = some (.inl (cI G, 16, .inl (jE (e8 ((closeS S0).1) ((closeS S0).2.1) ((closeS S0).2.2.1) ((closeS S0).2.2.2.1) ((closeS S0).2.2.2.2.1) ((closeS S0).2.2.2.2.2.1) ((closeS S0).2.2.2.2.2.2.1) (nI (closeS S0).2.2.2.2.2.2.2.2.length)) (eS S1)))) := k23 _ _ h11 (Nat.ne_of_beq_eq_false rfl) (hdos _ (List.mem_cons_of_mem _ (List.mem_cons_of_mem _ (List.mem_cons_of_mem _ (List.mem_cons_of_mem _ (List.mem_cons_of_mem _ List.mem_cons_self))))))
          exact hp_zret (v := 1) B0 hw hS hr ⟨Nat.le_of_ble_eq_true rfl, Nat.le_of_ble_eq_true rfl⟩ (rfl) dL_links_614 (⟨rfl, (closeS S0), S1, gw0, ga0, gw1, ga1, hC22, ⟨⟨_, h24, (show XS _ (closeS S0).2.2.2.2.2.2.2.2 from hX0.app _ rfl)⟩, ⟨_, h25, hX1⟩, h26, h27, h28, h29⟩, ⟨SOK.mono (SOK.close hSo0) (by omega), SOK.mono hSo1 (by omega), hgw0, hga0, hgw1, hga1⟩, (by rw [closeS_len]; omega), hl1, ((show hKn [lx, ly, lw, la, lq, le, xo, ez, eo, bu, nw0, na0, nq0, nr0, nw1, na1, nq1, nr1, bs, bp, bh, bf, bl, bg] f f4 from (hKn.mono (hKn.eq k7) (sub_cons List.mem_cons_self (sub_cons (List.mem_cons_of_mem _ (List.mem_cons_of_mem _ (List.mem_cons_of_mem _ (List.mem_cons_of_mem _ (List.mem_cons_of_mem _ List.mem_cons_self))))) sub_nil)))).tr ((show hKn [lx, ly, lw, la, lq, le, xo, ez, eo, bu, nw0, na0, nq0, nr0, nw1, na1, nq1, nr1, bs, bp, bh, bf, bl, bg] f4 f8 from (by rw [ef8]; exact hKn.up (List.mem_cons_of_mem _ (List.mem_cons_of_mem _ (List.mem_cons_of_mem _ (List.mem_cons_of_mem _ (List.mem_cons_of_mem _ List.mem_cons_self))))))).tr (show hKn [lx, ly, lw, la, lq, le, xo, ez, eo, bu, nw0, na0, nq0, nr0, nw1, na1, nq1, nr1, bs, bp, bh, bf, bl, bg] f8 f21 from (hKn.mono k23 sbA))))⟩)
    · refine lv_aload_n hx hb dL_links_556 rfl (lv_at hl9 4 rfl) ?_
      refine lv_iload hx hb dL_links_557 (lv_at hl9 3 rfl) ?_
      refine hp_SH (As := [.ref xo, .int 0]) (rest := []) B0 hw hS (c_V_close_S0 hl G f xo ez eo bu nw0 na0 nq0 nr0 nw1 na1 nq1 nr1 bs bp bh bf bl bg S0 S1 gw0 ga0 gw1 ga1 n a cg x sa pk fl gv gh gl hC (Nat.lt_of_le_of_lt hl0 (by decide)) (Nat.lt_of_le_of_lt hl1 (by decide)) c3) mH_L_close qM_L_109 rfl rfl hl9.1 (Nat.le_of_ble_eq_true rfl) ⟨⟨Nat.le_of_ble_eq_true rfl, Nat.le_of_ble_eq_true rfl⟩, Nat.le_of_ble_eq_true rfl, Nat.le_of_ble_eq_true rfl⟩ dL_links_559 (fun E ce q9 f30 H locs hPX hw hS hce hcv hcl => ?_) (fun v f30 H locs hP hw hS => ?_)
      · exact hPX.elim
      · obtain ⟨ev9, hC31, k32⟩ := hP
        subst ev9
        have hC31 : CXW G f30 xo ez eo bu nw0 na0 nq0 nr0 nw1 na1 nq1 nr1 bs bp bh bf bl bg S0 S1 gw0 ga0 gw1 ga1 n a cg x sa pk fl gv gh gl := hC31
        refine W.eq (g2 := F0 m 562 ls [.int (-73)]) rfl ?_
        refine lv_bipush (v := (-73)) hx hb dL_links_562 (by decide) ?_
        refine lv_icmp_ne (tgt := 571) hx hb dL_links_564 (by decide) (fun c9 => absurd (by decide) c9) (fun _ => ?_)
        refine lv_iconst (v := 1) hx hb dL_links_567 (by decide) ?_
        refine lv_goto (tgt := 572) hx hb dL_links_568 (by decide) ?_
        have h33 : f30 lx = some (.inl (cJ G, 64, .inr (.inl xs0))) := k32 _ _ k_lx (Nat.ne_of_beq_eq_false rfl) (hdos _ List.mem_cons_self)
        have h34 : f30 ly = some (.inl (cJ G, 64, .inr (.inl xs1))) := k32 _ _ k_ly (Nat.ne_of_beq_eq_false rfl) (hdos _ (List.mem_cons_of_mem _ List.mem_cons_self))
        have h35 : f30 lw = some (.inl (cI G, 12, .inl (j6 gw0 gw1))) := k32 _ _ k_lw (Nat.ne_of_beq_eq_false rfl) (hdos _ (List.mem_cons_of_mem _ (List.mem_cons_of_mem _ List.mem_cons_self)))
        have h36 : f30 la = some (.inl (cI G, 12, .inl (j6 ga0 ga1))) := k32 _ _ k_la (Nat.ne_of_beq_eq_false rfl) (hdos _ (List.mem_cons_of_mem _ (List.mem_cons_of_mem _ (List.mem_cons_of_mem _ List.mem_cons_self))))
        have h37 : f30 lq = some (.inl (cI G, 12, .inl (j6 S0.2.2.2.2.2.2.2.1 S1.2.2.2.2.2.2.2.1))) := k32 _ _ k_lq (Nat.ne_of_beq_eq_false rfl) (hdos _ (List.mem_cons_of_mem _ (List.mem_cons_of_mem _ (List.mem_cons_of_mem _ (List.mem_cons_of_mem _ List.mem_cons_self)))))
        have h38 : f30 le = some (.inl (cI G, 16, .inl (jE (e8 S0.1 S0.2.1 S0.2.2.1 S0.2.2.2.1 S0.2.2.2.2.1 S0.2.2.2.2.2.1 S0.2.2.2.2.2.2.1 (nI S0.2.2.2.2.2.2.2.2.length)) (eS S1)))) := k32 _ _ h1 (Nat.ne_of_beq_eq_false rfl) (hdos _ (List.mem_cons_of_mem _ (List.mem_cons_of_mem _ (List.mem_cons_of_mem _ (List.mem_cons_of_mem _ (List.mem_cons_of_mem _ List.mem_cons_self))))))
        exact hp_zret (v := 1) B0 hw hS hr ⟨Nat.le_of_ble_eq_true rfl, Nat.le_of_ble_eq_true rfl⟩ (rfl) dL_links_572 (⟨rfl, S0, S1, gw0, ga0, gw1, ga1, hC31, ⟨⟨_, h33, hX0⟩, ⟨_, h34, hX1⟩, h35, h36, h37, h38⟩, ⟨SOK.mono hSo0 (by omega), SOK.mono hSo1 (by omega), hgw0, hga0, hgw1, hga1⟩, hl0, hl1, (show hKn [lx, ly, lw, la, lq, le, xo, ez, eo, bu, nw0, na0, nq0, nr0, nw1, na1, nq1, nr1, bs, bp, bh, bf, bl, bg] f f30 from (hKn.mono k32 sbA))⟩)
  · refine lv_aload_n hx hb dL_links_532 rfl (lv_at hl9 4 rfl) ?_
    refine lv_iconst (v := 2) hx hb dL_links_533 (by decide) ?_
    refine hp_SH (As := [.ref xo, .int 2]) (rest := []) B0 hw hS (c_V_close_E hl G f xo ez eo bu nw0 na0 nq0 nr0 nw1 na1 nq1 nr1 bs bp bh bf bl bg S0 S1 gw0 ga0 gw1 ga1 n a cg x sa pk fl gv gh gl hC (Nat.lt_of_le_of_lt hl0 (by decide)) (Nat.lt_of_le_of_lt hl1 (by decide)) 2 (by decide)) mH_L_close qM_L_109 rfl rfl hl9.1 (Nat.le_of_ble_eq_true rfl) ⟨⟨Nat.le_of_ble_eq_true rfl, Nat.le_of_ble_eq_true rfl⟩, Nat.le_of_ble_eq_true rfl, Nat.le_of_ble_eq_true rfl⟩ dL_links_534 (fun E ce q9 f39 H locs hPX hw hS hce hcv hcl => ?_) (fun v f39 H locs hP hw hS => ?_)
    · exact hPX.elim
    · obtain ⟨ev9, hC40, k41⟩ := hP
      subst ev9
      have hC40 : CXW G f39 xo ez eo bu nw0 na0 nq0 nr0 nw1 na1 nq1 nr1 bs bp bh bf bl bg S0 S1 gw0 ga0 gw1 ga1 n a cg x sa pk fl gv gh gl := hC40
      refine W.eq (g2 := F0 m 537 ls [.int (-71)]) rfl ?_
      refine lv_bipush (v := (-71)) hx hb dL_links_537 (by decide) ?_
      refine lv_icmp_ne (tgt := 546) hx hb dL_links_539 (by decide) (fun c9 => absurd (by decide) c9) (fun _ => ?_)
      refine lv_iconst (v := 1) hx hb dL_links_542 (by decide) ?_
      refine lv_goto (tgt := 547) hx hb dL_links_543 (by decide) ?_
      have h42 : f39 lx = some (.inl (cJ G, 64, .inr (.inl xs0))) := k41 _ _ k_lx (Nat.ne_of_beq_eq_false rfl) (hdos _ List.mem_cons_self)
      have h43 : f39 ly = some (.inl (cJ G, 64, .inr (.inl xs1))) := k41 _ _ k_ly (Nat.ne_of_beq_eq_false rfl) (hdos _ (List.mem_cons_of_mem _ List.mem_cons_self))
      have h44 : f39 lw = some (.inl (cI G, 12, .inl (j6 gw0 gw1))) := k41 _ _ k_lw (Nat.ne_of_beq_eq_false rfl) (hdos _ (List.mem_cons_of_mem _ (List.mem_cons_of_mem _ List.mem_cons_self)))
      have h45 : f39 la = some (.inl (cI G, 12, .inl (j6 ga0 ga1))) := k41 _ _ k_la (Nat.ne_of_beq_eq_false rfl) (hdos _ (List.mem_cons_of_mem _ (List.mem_cons_of_mem _ (List.mem_cons_of_mem _ List.mem_cons_self))))
      have h46 : f39 lq = some (.inl (cI G, 12, .inl (j6 S0.2.2.2.2.2.2.2.1 S1.2.2.2.2.2.2.2.1))) := k41 _ _ k_lq (Nat.ne_of_beq_eq_false rfl) (hdos _ (List.mem_cons_of_mem _ (List.mem_cons_of_mem _ (List.mem_cons_of_mem _ (List.mem_cons_of_mem _ List.mem_cons_self)))))
      have h47 : f39 le = some (.inl (cI G, 16, .inl (jE (e8 S0.1 S0.2.1 S0.2.2.1 S0.2.2.2.1 S0.2.2.2.2.1 S0.2.2.2.2.2.1 S0.2.2.2.2.2.2.1 (nI S0.2.2.2.2.2.2.2.2.length)) (eS S1)))) := k41 _ _ h1 (Nat.ne_of_beq_eq_false rfl) (hdos _ (List.mem_cons_of_mem _ (List.mem_cons_of_mem _ (List.mem_cons_of_mem _ (List.mem_cons_of_mem _ (List.mem_cons_of_mem _ List.mem_cons_self))))))
      exact hp_zret (v := 1) B0 hw hS hr ⟨Nat.le_of_ble_eq_true rfl, Nat.le_of_ble_eq_true rfl⟩ (rfl) dL_links_547 (⟨rfl, S0, S1, gw0, ga0, gw1, ga1, hC40, ⟨⟨_, h42, hX0⟩, ⟨_, h43, hX1⟩, h44, h45, h46, h47⟩, ⟨SOK.mono hSo0 (by omega), SOK.mono hSo1 (by omega), hgw0, hga0, hgw1, hga1⟩, hl0, hl1, (show hKn [lx, ly, lw, la, lq, le, xo, ez, eo, bu, nw0, na0, nq0, nr0, nw1, na1, nq1, nr1, bs, bp, bh, bf, bl, bg] f f39 from (hKn.mono k41 sbA))⟩)

set_option maxHeartbeats 4000000 in
set_option maxRecDepth 100000 in
theorem lk_c_1 {l : Launch} (hl : l.stackTraces = false) (G : hG) (f : hM) (xo ez eo bu nw0 na0 nq0 nr0 nw1 na1 nq1 nr1 bs bp bh bf bl bg : Nat) (S0 : ES) (S1 : ES) (gw0 : Nat → Int32) (ga0 : Nat → Int32) (gw1 : Nat → Int32) (ga1 : Nat → Int32) (n : Nat) (a : Nat) (cg : Nat) (x : Nat) (sa : Nat → Nat) (pk : Nat → Nat) (fl : Nat → Nat) (gv : Nat → Nat) (gh : Nat → Int32) (gl : Nat → Int32) (hC : CXW G f xo ez eo bu nw0 na0 nq0 nr0 nw1 na1 nq1 nr1 bs bp bh bf bl bg S0 S1 gw0 ga0 gw1 ga1 n a cg x sa pk fl gv gh gl) (lx ly lw la lq le : Nat) (hdis : ∀ p, p ∈ [xo, ez, eo, bu, nw0, na0, nq0, nr0, nw1, na1, nq1, nr1, bs, bp, bh, bf, bl, bg] → p ∉ [lx, ly, lw, la, lq, le]) (hdos : ∀ p, p ∈ [lx, ly, lw, la, lq, le] → p ∉ [xo, ez, eo, bu, nw0, na0, nq0, nr0, nw1, na1, nq1, nr1, bs, bp, bh, bf, bl, bg]) (n_lx_ly : lx ≠ ly) (n_lw_la : lw ≠ la) (n_lw_lq : lw ≠ lq) (n_la_lq : la ≠ lq) (hLX : LX G f lx ly lw la lq le S0 S1 gw0 ga0 gw1 ga1) (b : Nat) (hInv : INV b S0 S1 gw0 ga0 gw1 ga1) (hbb : b + 200 ≤ 1000000) (hl0 : S0.2.2.2.2.2.2.2.2.length ≤ 52) (hl1 : S1.2.2.2.2.2.2.2.2.length ≤ 52) (ac : Nat) (hac : ac < 24) (hact : ac ≠ 22 → S0.2.2.2.2.2.2.2.2.length ≤ 40 ∧ S1.2.2.2.2.2.2.2.2.length ≤ 40) (u z : Int32) {p : Program} {e : Env} {s : State} {m : MethodId} {args : Array Value} {below : List Frame} {meth : Method} {c : Code} (B0 : hB p l s m args meth c cL_links 17 RL G) (hr : meth.sig.returnType = some .boolean) {H : Heap} {locs : List Loc} {ls : Array Slot} (hw : hW G f H) (hS : va_S (hFr G) s.heap H locs) (j13 : Nat) (hj13 : j13 < 6) (hc : nI ac = 10) (hl9 : lv_has ls 17 [(13, .int (nI j13)), (12, .ref ly), (11, .int 8), (10, .int 1), (0, .ref xo), (1, .int (nI ac)), (2, .int u), (3, .int z), (4, .ref lx), (5, .ref ly), (6, .ref lw), (7, .ref la), (8, .ref lq), (9, .ref le)]) : W p l e { frames := 9, cells := 203, slots := 1118, locals := 178 } s m args below meth c H locs 0 0 (vx_MQ below (hQ G (fun v f1 => v = some (.int 1) ∧ ∃ (S2 S3 : ES) (w0 a0 w1 a1 : Nat → Int32), CXW G f1 xo ez eo bu nw0 na0 nq0 nr0 nw1 na1 nq1 nr1 bs bp bh bf bl bg S2 S3 w0 a0 w1 a1 n a cg x sa pk fl gv gh gl ∧ LX G f1 lx ly lw la lq le S2 S3 w0 a0 w1 a1 ∧ INV (b + 100) S2 S3 w0 a0 w1 a1 ∧ S2.2.2.2.2.2.2.2.2.length ≤ 52 ∧ S3.2.2.2.2.2.2.2.2.length ≤ 52 ∧ hKn [lx, ly, lw, la, lq, le, xo, ez, eo, bu, nw0, na0, nq0, nr0, nw1, na1, nq1, nr1, bs, bp, bh, bf, bl, bg] f f1)) (hX G (fun E f1 => False)) args s 203 1118 (hFr G)) (F0 m 525 ls []) := by
  have hx := B0.1
  have hb := B0.2.1
  obtain ⟨⟨xs0, k_lx, hX0⟩, ⟨xs1, k_ly, hX1⟩, k_lw, k_la, k_lq, k_le⟩ := hLX
  obtain ⟨hSo0, hSo1, hgw0, hga0, hgw1, hga1⟩ := id hInv
  have n_lx_lw : lx ≠ lw := hneL k_lx k_lw (Nat.ne_of_beq_eq_false rfl)
  have n_lx_la : lx ≠ la := hneL k_lx k_la (Nat.ne_of_beq_eq_false rfl)
  have n_lx_lq : lx ≠ lq := hneL k_lx k_lq (Nat.ne_of_beq_eq_false rfl)
  have n_lx_le : lx ≠ le := hneL k_lx k_le (Nat.ne_of_beq_eq_false rfl)
  have n_ly_lw : ly ≠ lw := hneL k_ly k_lw (Nat.ne_of_beq_eq_false rfl)
  have n_ly_la : ly ≠ la := hneL k_ly k_la (Nat.ne_of_beq_eq_false rfl)
  have n_ly_lq : ly ≠ lq := hneL k_ly k_lq (Nat.ne_of_beq_eq_false rfl)
  have n_ly_le : ly ≠ le := hneL k_ly k_le (Nat.ne_of_beq_eq_false rfl)
  have n_lw_le : lw ≠ le := hneL k_lw k_le (Nat.ne_of_beq_eq_false rfl)
  have n_la_le : la ≠ le := hneL k_la k_le (Nat.ne_of_beq_eq_false rfl)
  have n_lq_le : lq ≠ le := hneL k_lq k_le (Nat.ne_of_beq_eq_false rfl)
  have sbA : ∀ x9, x9 ∈ [xo, ez, eo, bu, nw0, na0, nq0, nr0, nw1, na1, nq1, nr1, bs, bp, bh, bf, bl, bg] → x9 ∈ [lx, ly, lw, la, lq, le, xo, ez, eo, bu, nw0, na0, nq0, nr0, nw1, na1, nq1, nr1, bs, bp, bh, bf, bl, bg] := sbA
  obtain ⟨xx, hxx, hx4⟩ := hSo1.2.2.2.2.1
  have h1 : f le = some (.inl (cI G, 16, .inl (jE (eS S0) (e8 S1.1 S1.2.1 S1.2.2.1 S1.2.2.2.1 S1.2.2.2.2.1 S1.2.2.2.2.2.1 S1.2.2.2.2.2.2.1 (nI S1.2.2.2.2.2.2.2.2.length))))) := k_le
  refine lv_iload_n hx hb dL_links_525 rfl (lv_at hl9 7 rfl) ?_
  refine lv_bipush (v := 6) hx hb dL_links_526 (by decide) ?_
  refine lv_iand hx hb dL_links_528 ?_
  refine lv_if_le (tgt := 548) hx hb dL_links_529 (by decide) (fun c2 => ?_) (fun c2 => ?_)
  · refine lv_aload hx hb dL_links_548 (lv_at hl9 13 rfl) ?_
    refine lv_iload hx hb dL_links_550 (lv_at hl9 2 rfl) ?_
    refine hp_iald B0 hw h1 (by unfold vp_in; decide) dL_links_552 ?_
    refine hp_c (v := S1.1) (rfl) ?_
    refine lv_if_ne (tgt := 573) hx hb dL_links_553 (by decide) (fun c3 => ?_) (fun c3 => ?_)
    · obtain ⟨h40a, h40b⟩ := hact (fun e9 => by subst e9; exact absurd hc (by decide))
      refine lv_aload hx hb dL_links_573 (lv_at hl9 13 rfl) ?_
      refine lv_iload hx hb dL_links_575 (lv_at hl9 2 rfl) ?_
      refine hp_iald B0 hw h1 (by unfold vp_in; decide) dL_links_577 ?_
      refine hp_c (v := S1.1) (rfl) ?_
      refine lv_istore (lv' := [(14, .int S1.1), (13, .int (nI j13)), (12, .ref ly), (11, .int 8), (10, .int 1), (0, .ref xo), (1, .int (nI ac)), (2, .int u), (3, .int z), (4, .ref lx), (5, .ref ly), (6, .ref lw), (7, .ref la), (8, .ref lq), (9, .ref le)]) hx hb dL_links_578 hl9 (by decide) rfl (fun ls hl9 => ?_)
      refine lv_aload hx hb dL_links_580 (lv_at hl9 2 rfl) ?_
      refine lv_aload hx hb dL_links_582 (lv_at hl9 14 rfl) ?_
      refine lv_iload hx hb dL_links_584 (lv_at hl9 4 rfl) ?_
      refine lv_iconst (v := 4) hx hb dL_links_586 (by decide) ?_
      refine lv_iconst (v := 0) hx hb dL_links_587 (by decide) ?_
      refine lv_lconst (v := lN 0) hx hb dL_links_588 rfl ?_
      refine hp_S (As := [.ref ly, .ref le, .int 1, .int 4, .int 0, .long (lN 0)]) (rest := []) B0 hw hS (c_L_post_1 hl G f ly le xs1 (jE (eS S0) (e8 S1.1 S1.2.1 S1.2.2.1 S1.2.2.2.1 S1.2.2.2.2.1 S1.2.2.2.2.2.1 S1.2.2.2.2.2.2.1 (nI S1.2.2.2.2.2.2.2.2.length))) k_ly h1 4 0 0 xx S1.2.2.2.2.2.2.2.2.length (by omega) (by omega) (show (jE (eS S0) (e8 S1.1 S1.2.1 S1.2.2.1 S1.2.2.2.1 S1.2.2.2.2.1 S1.2.2.2.2.2.1 S1.2.2.2.2.2.2.1 (nI S1.2.2.2.2.2.2.2.2.length))) 14 = nI xx from hxx) (by omega) (show (jE (eS S0) (e8 S1.1 S1.2.1 S1.2.2.1 S1.2.2.2.1 S1.2.2.2.2.1 S1.2.2.2.2.2.1 S1.2.2.2.2.2.2.1 (nI S1.2.2.2.2.2.2.2.2.length))) 15 = nI S1.2.2.2.2.2.2.2.2.length from rfl) (by omega)) mS_L_post qM_L_73 rfl rfl hl9.1 (Nat.le_of_ble_eq_true rfl) ⟨⟨Nat.le_of_ble_eq_true rfl, Nat.le_of_ble_eq_true rfl⟩, Nat.le_of_ble_eq_true rfl, Nat.le_of_ble_eq_true rfl⟩ dL_links_589 (fun E ce q9 f4 H locs hPX hw hS hce hcv hcl => ?_) (fun v f4 H locs hP hw hS => ?_)
      · exact hPX.elim
      · obtain ⟨ev9, h5, h6, k7⟩ := hP
        subst ev9
        rw [show (upd (jE (eS S0) (e8 S1.1 S1.2.1 S1.2.2.1 S1.2.2.2.1 S1.2.2.2.2.1 S1.2.2.2.2.2.1 S1.2.2.2.2.2.2.1 (nI S1.2.2.2.2.2.2.2.2.length))) 15 (nI (S1.2.2.2.2.2.2.2.2.length + 1)) : Nat → Int32) = (jE (eS S0) (e8 S1.1 S1.2.1 S1.2.2.1 S1.2.2.2.1 S1.2.2.2.2.1 S1.2.2.2.2.2.1 S1.2.2.2.2.2.2.1 (nI (S1.2.2.2.2.2.2.2.2.length + 1)))) from (by rw [show 15 = 8 + 7 from rfl, jE_u1, e8_u7])] at h6
        refine W.eq (g2 := F0 m 592 ls []) rfl ?_
        refine lv_aload hx hb dL_links_592 (lv_at hl9 14 rfl) ?_
        refine lv_iload hx hb dL_links_594 (lv_at hl9 3 rfl) ?_
        refine lv_iconst (v := 0) hx hb dL_links_596 (by decide) ?_
        refine hp_iast B0 hw hS h6 (by unfold vp_in; decide) dL_links_597 (fun H locs f8 ef8 hw hS => ?_)
        rw [show (upd (jE (eS S0) (e8 S1.1 S1.2.1 S1.2.2.1 S1.2.2.2.1 S1.2.2.2.2.1 S1.2.2.2.2.2.1 S1.2.2.2.2.2.2.1 (nI (S1.2.2.2.2.2.2.2.2.length + 1)))) (8 : Int32).toNatClampNeg 0 : Nat → Int32) = (jE (eS S0) (e8 0 S1.2.1 S1.2.2.1 S1.2.2.2.1 S1.2.2.2.2.1 S1.2.2.2.2.2.1 S1.2.2.2.2.2.2.1 (nI (S1.2.2.2.2.2.2.2.2.length + 1)))) from (by rw [show (8 : Int32).toNatClampNeg = 8 + 0 from rfl, jE_u1, e8_u0])] at ef8
        have h9 : f8 le = some (.inl (cI G, 16, .inl (jE (eS S0) (e8 0 S1.2.1 S1.2.2.1 S1.2.2.2.1 S1.2.2.2.2.1 S1.2.2.2.2.2.1 S1.2.2.2.2.2.2.1 (nI (S1.2.2.2.2.2.2.2.2.length + 1)))))) := by rw [ef8, va_up_self]
        have h10 : f8 ly = some (.inl (cJ G, 64, .inr (.inl (vp_updL xs1 S1.2.2.2.2.2.2.2.2.length (lN (4 + 8 * 0 + xx * 4294967296 + 0 * 68719476736)))))) := by rw [ef8, va_up_ne _ _ n_ly_le]; exact h5
        rw [stop_pk hxx hx4] at h10
        rw [show (e8 0 S1.2.1 S1.2.2.1 S1.2.2.2.1 S1.2.2.2.2.1 S1.2.2.2.2.2.1 S1.2.2.2.2.2.2.1 (nI (S1.2.2.2.2.2.2.2.2.length + 1))) = eS (closeS S1) from eS_app (gq := S1.2.2.2.2.2.2.2.1) (4, 0, S1.2.2.2.2.2.2.1, N6)] at h9
        have h11 : f8 le = some (.inl (cI G, 16, .inl (jE (eS S0) (e8 ((closeS S1).1) ((closeS S1).2.1) ((closeS S1).2.2.1) ((closeS S1).2.2.2.1) ((closeS S1).2.2.2.2.1) ((closeS S1).2.2.2.2.2.1) ((closeS S1).2.2.2.2.2.2.1) (nI (closeS S1).2.2.2.2.2.2.2.2.length))))) := h9
        refine lv_aload_n hx hb dL_links_598 rfl (lv_at hl9 5 rfl) ?_
        refine lv_iload hx hb dL_links_599 (lv_at hl9 4 rfl) ?_
        have h12 : f4 lx = some (.inl (cJ G, 64, .inr (.inl xs0))) := (hEq.k k7) _ _ k_lx (ninc n_lx_ly (ninc n_lx_le nin0))
        have h13 : f8 lx = some (.inl (cJ G, 64, .inr (.inl xs0))) := by rw [ef8, va_up_ne _ _ n_lx_le]; exact h12
        have h14 : f4 lw = some (.inl (cI G, 12, .inl (j6 gw0 gw1))) := (hEq.k k7) _ _ k_lw (ninc (Ne.symm n_ly_lw) (ninc n_lw_le nin0))
        have h15 : f8 lw = some (.inl (cI G, 12, .inl (j6 gw0 gw1))) := by rw [ef8, va_up_ne _ _ n_lw_le]; exact h14
        have h16 : f4 la = some (.inl (cI G, 12, .inl (j6 ga0 ga1))) := (hEq.k k7) _ _ k_la (ninc (Ne.symm n_ly_la) (ninc n_la_le nin0))
        have h17 : f8 la = some (.inl (cI G, 12, .inl (j6 ga0 ga1))) := by rw [ef8, va_up_ne _ _ n_la_le]; exact h16
        have h18 : f4 lq = some (.inl (cI G, 12, .inl (j6 S0.2.2.2.2.2.2.2.1 S1.2.2.2.2.2.2.2.1))) := (hEq.k k7) _ _ k_lq (ninc (Ne.symm n_ly_lq) (ninc n_lq_le nin0))
        have h19 : f8 lq = some (.inl (cI G, 12, .inl (j6 S0.2.2.2.2.2.2.2.1 S1.2.2.2.2.2.2.2.1))) := by rw [ef8, va_up_ne _ _ n_lq_le]; exact h18
        have hC20 : CXW G f8 xo ez eo bu nw0 na0 nq0 nr0 nw1 na1 nq1 nr1 bs bp bh bf bl bg S0 S1 gw0 ga0 gw1 ga1 n a cg x sa pk fl gv gh gl := CXW.eq hC ((show hEq [lx, ly, lw, la, lq, le] f f4 from (hEq.mono k7 (sub_cons (List.mem_cons_of_mem _ List.mem_cons_self) (sub_cons (List.mem_cons_of_mem _ (List.mem_cons_of_mem _ (List.mem_cons_of_mem _ (List.mem_cons_of_mem _ (List.mem_cons_of_mem _ List.mem_cons_self))))) sub_nil)))).tr (show hEq [lx, ly, lw, la, lq, le] f4 f8 from (by rw [ef8]; exact hEq.up (List.mem_cons_of_mem _ (List.mem_cons_of_mem _ (List.mem_cons_of_mem _ (List.mem_cons_of_mem _ (List.mem_cons_of_mem _ List.mem_cons_self)))))))) hdis (fun b9 hb9 => by
            simp only [List.mem_cons, List.not_mem_nil, or_false] at hb9
            rcases hb9 with hb9 | hb9 | hb9 | hb9 | hb9 | hb9
            · rw [hb9]; exact ⟨_, _, k_lx, h13, (Nat.ne_of_beq_eq_false rfl), (Nat.ne_of_beq_eq_false rfl)⟩
            · rw [hb9]; exact ⟨_, _, k_ly, h10, (Nat.ne_of_beq_eq_false rfl), (Nat.ne_of_beq_eq_false rfl)⟩
            · rw [hb9]; exact ⟨_, _, k_lw, h15, (Nat.ne_of_beq_eq_false rfl), (Nat.ne_of_beq_eq_false rfl)⟩
            · rw [hb9]; exact ⟨_, _, k_la, h17, (Nat.ne_of_beq_eq_false rfl), (Nat.ne_of_beq_eq_false rfl)⟩
            · rw [hb9]; exact ⟨_, _, k_lq, h19, (Nat.ne_of_beq_eq_false rfl), (Nat.ne_of_beq_eq_false rfl)⟩
            · rw [hb9]; exact ⟨_, _, h1, h11, (Nat.ne_of_beq_eq_false rfl), (Nat.ne_of_beq_eq_false rfl)⟩)
        refine hp_SH (As := [.ref xo, .int 1]) (rest := []) B0 hw hS (c_V_close_1 hl G f8 xo ez eo bu nw0 na0 nq0 nr0 nw1 na1 nq1 nr1 bs bp bh bf bl bg S0 S1 gw0 ga0 gw1 ga1 n a cg x sa pk fl gv gh gl hC20 (Nat.lt_of_le_of_lt hl0 (by decide)) (Nat.lt_of_le_of_lt hl1 (by decide)) c3) mH_L_close qM_L_109 rfl rfl hl9.1 (Nat.le_of_ble_eq_true rfl) ⟨⟨Nat.le_of_ble_eq_true rfl, Nat.le_of_ble_eq_true rfl⟩, Nat.le_of_ble_eq_true rfl, Nat.le_of_ble_eq_true rfl⟩ dL_links_601 (fun E ce q9 f21 H locs hPX hw hS hce hcv hcl => ?_) (fun v f21 H locs hP hw hS => ?_)
        · exact hPX.elim
        · obtain ⟨ev9, hC22, k23⟩ := hP
          subst ev9
          have hC22 : CXW G f21 xo ez eo bu nw0 na0 nq0 nr0 nw1 na1 nq1 nr1 bs bp bh bf bl bg S0 (closeS S1) gw0 ga0 gw1 ga1 n a cg x sa pk fl gv gh gl := hC22
          refine W.eq (g2 := F0 m 604 ls [.int (S1.1)]) rfl ?_
          refine lv_iload hx hb dL_links_604 (lv_at hl9 0 rfl) ?_
          refine lv_icmp_ne (tgt := 613) hx hb dL_links_606 (by decide) (fun c9 => absurd rfl c9) (fun _ => ?_)
          refine lv_iconst (v := 1) hx hb dL_links_609 (by decide) ?_
          refine lv_goto (tgt := 614) hx hb dL_links_610 (by decide) ?_
          have h24 : f21 lx = some (.inl (cJ G, 64, .inr (.inl xs0))) := k23 _ _ h13 (Nat.ne_of_beq_eq_false rfl) (hdos _ List.mem_cons_self)
          have h25 : f21 ly = some (.inl (cJ G, 64, .inr (.inl (vp_updL xs1 S1.2.2.2.2.2.2.2.2.length (lN (pkN (4, 0, S1.2.2.2.2.2.2.1, N6))))))) := k23 _ _ h10 (Nat.ne_of_beq_eq_false rfl) (hdos _ (List.mem_cons_of_mem _ List.mem_cons_self))
          have h26 : f21 lw = some (.inl (cI G, 12, .inl (j6 gw0 gw1))) := k23 _ _ h15 (Nat.ne_of_beq_eq_false rfl) (hdos _ (List.mem_cons_of_mem _ (List.mem_cons_of_mem _ List.mem_cons_self)))
          have h27 : f21 la = some (.inl (cI G, 12, .inl (j6 ga0 ga1))) := k23 _ _ h17 (Nat.ne_of_beq_eq_false rfl) (hdos _ (List.mem_cons_of_mem _ (List.mem_cons_of_mem _ (List.mem_cons_of_mem _ List.mem_cons_self))))
          have h28 : f21 lq = some (.inl (cI G, 12, .inl (j6 S0.2.2.2.2.2.2.2.1 S1.2.2.2.2.2.2.2.1))) := k23 _ _ h19 (Nat.ne_of_beq_eq_false rfl) (hdos _ (List.mem_cons_of_mem _ (List.mem_cons_of_mem _ (List.mem_cons_of_mem _ (List.mem_cons_of_mem _ List.mem_cons_self)))))
          have h29 : f21 le = some (.inl (cI G, 16, .inl (jE (eS S0) (e8 ((closeS S1).1) ((closeS S1).2.1) ((closeS S1).2.2.1) ((closeS S1).2.2.2.1) ((closeS S1).2.2.2.2.1) ((closeS S1).2.2.2.2.2.1) ((closeS S1).2.2.2.2.2.2.1) (nI (closeS S1).2.2.2.2.2.2.2.2.length))))) := k23 _ _ h11 (Nat.ne_of_beq_eq_false rfl) (hdos _ (List.mem_cons_of_mem _ (List.mem_cons_of_mem _ (List.mem_cons_of_mem _ (List.mem_cons_of_mem _ (List.mem_cons_of_mem _ List.mem_cons_self))))))
          exact hp_zret (v := 1) B0 hw hS hr ⟨Nat.le_of_ble_eq_true rfl, Nat.le_of_ble_eq_true rfl⟩ (rfl) dL_links_614 (⟨rfl, S0, (closeS S1), gw0, ga0, gw1, ga1, hC22, ⟨⟨_, h24, hX0⟩, ⟨_, h25, (show XS _ (closeS S1).2.2.2.2.2.2.2.2 from hX1.app _ rfl)⟩, h26, h27, h28, h29⟩, ⟨SOK.mono hSo0 (by omega), SOK.mono (SOK.close hSo1) (by omega), hgw0, hga0, hgw1, hga1⟩, hl0, (by rw [closeS_len]; omega), ((show hKn [lx, ly, lw, la, lq, le, xo, ez, eo, bu, nw0, na0, nq0, nr0, nw1, na1, nq1, nr1, bs, bp, bh, bf, bl, bg] f f4 from (hKn.mono (hKn.eq k7) (sub_cons (List.mem_cons_of_mem _ List.mem_cons_self) (sub_cons (List.mem_cons_of_mem _ (List.mem_cons_of_mem _ (List.mem_cons_of_mem _ (List.mem_cons_of_mem _ (List.mem_cons_of_mem _ List.mem_cons_self))))) sub_nil)))).tr ((show hKn [lx, ly, lw, la, lq, le, xo, ez, eo, bu, nw0, na0, nq0, nr0, nw1, na1, nq1, nr1, bs, bp, bh, bf, bl, bg] f4 f8 from (by rw [ef8]; exact hKn.up (List.mem_cons_of_mem _ (List.mem_cons_of_mem _ (List.mem_cons_of_mem _ (List.mem_cons_of_mem _ (List.mem_cons_of_mem _ List.mem_cons_self))))))).tr (show hKn [lx, ly, lw, la, lq, le, xo, ez, eo, bu, nw0, na0, nq0, nr0, nw1, na1, nq1, nr1, bs, bp, bh, bf, bl, bg] f8 f21 from (hKn.mono k23 sbA))))⟩)
    · refine lv_aload_n hx hb dL_links_556 rfl (lv_at hl9 4 rfl) ?_
      refine lv_iload hx hb dL_links_557 (lv_at hl9 3 rfl) ?_
      refine hp_SH (As := [.ref xo, .int 1]) (rest := []) B0 hw hS (c_V_close_S1 hl G f xo ez eo bu nw0 na0 nq0 nr0 nw1 na1 nq1 nr1 bs bp bh bf bl bg S0 S1 gw0 ga0 gw1 ga1 n a cg x sa pk fl gv gh gl hC (Nat.lt_of_le_of_lt hl0 (by decide)) (Nat.lt_of_le_of_lt hl1 (by decide)) c3) mH_L_close qM_L_109 rfl rfl hl9.1 (Nat.le_of_ble_eq_true rfl) ⟨⟨Nat.le_of_ble_eq_true rfl, Nat.le_of_ble_eq_true rfl⟩, Nat.le_of_ble_eq_true rfl, Nat.le_of_ble_eq_true rfl⟩ dL_links_559 (fun E ce q9 f30 H locs hPX hw hS hce hcv hcl => ?_) (fun v f30 H locs hP hw hS => ?_)
      · exact hPX.elim
      · obtain ⟨ev9, hC31, k32⟩ := hP
        subst ev9
        have hC31 : CXW G f30 xo ez eo bu nw0 na0 nq0 nr0 nw1 na1 nq1 nr1 bs bp bh bf bl bg S0 S1 gw0 ga0 gw1 ga1 n a cg x sa pk fl gv gh gl := hC31
        refine W.eq (g2 := F0 m 562 ls [.int (-73)]) rfl ?_
        refine lv_bipush (v := (-73)) hx hb dL_links_562 (by decide) ?_
        refine lv_icmp_ne (tgt := 571) hx hb dL_links_564 (by decide) (fun c9 => absurd (by decide) c9) (fun _ => ?_)
        refine lv_iconst (v := 1) hx hb dL_links_567 (by decide) ?_
        refine lv_goto (tgt := 572) hx hb dL_links_568 (by decide) ?_
        have h33 : f30 lx = some (.inl (cJ G, 64, .inr (.inl xs0))) := k32 _ _ k_lx (Nat.ne_of_beq_eq_false rfl) (hdos _ List.mem_cons_self)
        have h34 : f30 ly = some (.inl (cJ G, 64, .inr (.inl xs1))) := k32 _ _ k_ly (Nat.ne_of_beq_eq_false rfl) (hdos _ (List.mem_cons_of_mem _ List.mem_cons_self))
        have h35 : f30 lw = some (.inl (cI G, 12, .inl (j6 gw0 gw1))) := k32 _ _ k_lw (Nat.ne_of_beq_eq_false rfl) (hdos _ (List.mem_cons_of_mem _ (List.mem_cons_of_mem _ List.mem_cons_self)))
        have h36 : f30 la = some (.inl (cI G, 12, .inl (j6 ga0 ga1))) := k32 _ _ k_la (Nat.ne_of_beq_eq_false rfl) (hdos _ (List.mem_cons_of_mem _ (List.mem_cons_of_mem _ (List.mem_cons_of_mem _ List.mem_cons_self))))
        have h37 : f30 lq = some (.inl (cI G, 12, .inl (j6 S0.2.2.2.2.2.2.2.1 S1.2.2.2.2.2.2.2.1))) := k32 _ _ k_lq (Nat.ne_of_beq_eq_false rfl) (hdos _ (List.mem_cons_of_mem _ (List.mem_cons_of_mem _ (List.mem_cons_of_mem _ (List.mem_cons_of_mem _ List.mem_cons_self)))))
        have h38 : f30 le = some (.inl (cI G, 16, .inl (jE (eS S0) (e8 S1.1 S1.2.1 S1.2.2.1 S1.2.2.2.1 S1.2.2.2.2.1 S1.2.2.2.2.2.1 S1.2.2.2.2.2.2.1 (nI S1.2.2.2.2.2.2.2.2.length))))) := k32 _ _ h1 (Nat.ne_of_beq_eq_false rfl) (hdos _ (List.mem_cons_of_mem _ (List.mem_cons_of_mem _ (List.mem_cons_of_mem _ (List.mem_cons_of_mem _ (List.mem_cons_of_mem _ List.mem_cons_self))))))
        exact hp_zret (v := 1) B0 hw hS hr ⟨Nat.le_of_ble_eq_true rfl, Nat.le_of_ble_eq_true rfl⟩ (rfl) dL_links_572 (⟨rfl, S0, S1, gw0, ga0, gw1, ga1, hC31, ⟨⟨_, h33, hX0⟩, ⟨_, h34, hX1⟩, h35, h36, h37, h38⟩, ⟨SOK.mono hSo0 (by omega), SOK.mono hSo1 (by omega), hgw0, hga0, hgw1, hga1⟩, hl0, hl1, (show hKn [lx, ly, lw, la, lq, le, xo, ez, eo, bu, nw0, na0, nq0, nr0, nw1, na1, nq1, nr1, bs, bp, bh, bf, bl, bg] f f30 from (hKn.mono k32 sbA))⟩)
  · refine lv_aload_n hx hb dL_links_532 rfl (lv_at hl9 4 rfl) ?_
    refine lv_iconst (v := 2) hx hb dL_links_533 (by decide) ?_
    refine hp_SH (As := [.ref xo, .int 2]) (rest := []) B0 hw hS (c_V_close_E hl G f xo ez eo bu nw0 na0 nq0 nr0 nw1 na1 nq1 nr1 bs bp bh bf bl bg S0 S1 gw0 ga0 gw1 ga1 n a cg x sa pk fl gv gh gl hC (Nat.lt_of_le_of_lt hl0 (by decide)) (Nat.lt_of_le_of_lt hl1 (by decide)) 2 (by decide)) mH_L_close qM_L_109 rfl rfl hl9.1 (Nat.le_of_ble_eq_true rfl) ⟨⟨Nat.le_of_ble_eq_true rfl, Nat.le_of_ble_eq_true rfl⟩, Nat.le_of_ble_eq_true rfl, Nat.le_of_ble_eq_true rfl⟩ dL_links_534 (fun E ce q9 f39 H locs hPX hw hS hce hcv hcl => ?_) (fun v f39 H locs hP hw hS => ?_)
    · exact hPX.elim
    · obtain ⟨ev9, hC40, k41⟩ := hP
      subst ev9
      have hC40 : CXW G f39 xo ez eo bu nw0 na0 nq0 nr0 nw1 na1 nq1 nr1 bs bp bh bf bl bg S0 S1 gw0 ga0 gw1 ga1 n a cg x sa pk fl gv gh gl := hC40
      refine W.eq (g2 := F0 m 537 ls [.int (-71)]) rfl ?_
      refine lv_bipush (v := (-71)) hx hb dL_links_537 (by decide) ?_
      refine lv_icmp_ne (tgt := 546) hx hb dL_links_539 (by decide) (fun c9 => absurd (by decide) c9) (fun _ => ?_)
      refine lv_iconst (v := 1) hx hb dL_links_542 (by decide) ?_
      refine lv_goto (tgt := 547) hx hb dL_links_543 (by decide) ?_
      have h42 : f39 lx = some (.inl (cJ G, 64, .inr (.inl xs0))) := k41 _ _ k_lx (Nat.ne_of_beq_eq_false rfl) (hdos _ List.mem_cons_self)
      have h43 : f39 ly = some (.inl (cJ G, 64, .inr (.inl xs1))) := k41 _ _ k_ly (Nat.ne_of_beq_eq_false rfl) (hdos _ (List.mem_cons_of_mem _ List.mem_cons_self))
      have h44 : f39 lw = some (.inl (cI G, 12, .inl (j6 gw0 gw1))) := k41 _ _ k_lw (Nat.ne_of_beq_eq_false rfl) (hdos _ (List.mem_cons_of_mem _ (List.mem_cons_of_mem _ List.mem_cons_self)))
      have h45 : f39 la = some (.inl (cI G, 12, .inl (j6 ga0 ga1))) := k41 _ _ k_la (Nat.ne_of_beq_eq_false rfl) (hdos _ (List.mem_cons_of_mem _ (List.mem_cons_of_mem _ (List.mem_cons_of_mem _ List.mem_cons_self))))
      have h46 : f39 lq = some (.inl (cI G, 12, .inl (j6 S0.2.2.2.2.2.2.2.1 S1.2.2.2.2.2.2.2.1))) := k41 _ _ k_lq (Nat.ne_of_beq_eq_false rfl) (hdos _ (List.mem_cons_of_mem _ (List.mem_cons_of_mem _ (List.mem_cons_of_mem _ (List.mem_cons_of_mem _ List.mem_cons_self)))))
      have h47 : f39 le = some (.inl (cI G, 16, .inl (jE (eS S0) (e8 S1.1 S1.2.1 S1.2.2.1 S1.2.2.2.1 S1.2.2.2.2.1 S1.2.2.2.2.2.1 S1.2.2.2.2.2.2.1 (nI S1.2.2.2.2.2.2.2.2.length))))) := k41 _ _ h1 (Nat.ne_of_beq_eq_false rfl) (hdos _ (List.mem_cons_of_mem _ (List.mem_cons_of_mem _ (List.mem_cons_of_mem _ (List.mem_cons_of_mem _ (List.mem_cons_of_mem _ List.mem_cons_self))))))
      exact hp_zret (v := 1) B0 hw hS hr ⟨Nat.le_of_ble_eq_true rfl, Nat.le_of_ble_eq_true rfl⟩ (rfl) dL_links_547 (⟨rfl, S0, S1, gw0, ga0, gw1, ga1, hC40, ⟨⟨_, h42, hX0⟩, ⟨_, h43, hX1⟩, h44, h45, h46, h47⟩, ⟨SOK.mono hSo0 (by omega), SOK.mono hSo1 (by omega), hgw0, hga0, hgw1, hga1⟩, hl0, hl1, (show hKn [lx, ly, lw, la, lq, le, xo, ez, eo, bu, nw0, na0, nq0, nr0, nw1, na1, nq1, nr1, bs, bp, bh, bf, bl, bg] f f39 from (hKn.mono k41 sbA))⟩)

set_option maxHeartbeats 4000000 in
set_option maxRecDepth 100000 in
theorem lk_p_0 {l : Launch} (hl : l.stackTraces = false) (G : hG) (f : hM) (xo ez eo bu nw0 na0 nq0 nr0 nw1 na1 nq1 nr1 bs bp bh bf bl bg : Nat) (S0 : ES) (S1 : ES) (gw0 : Nat → Int32) (ga0 : Nat → Int32) (gw1 : Nat → Int32) (ga1 : Nat → Int32) (n : Nat) (a : Nat) (cg : Nat) (x : Nat) (sa : Nat → Nat) (pk : Nat → Nat) (fl : Nat → Nat) (gv : Nat → Nat) (gh : Nat → Int32) (gl : Nat → Int32) (hC : CXW G f xo ez eo bu nw0 na0 nq0 nr0 nw1 na1 nq1 nr1 bs bp bh bf bl bg S0 S1 gw0 ga0 gw1 ga1 n a cg x sa pk fl gv gh gl) (lx ly lw la lq le : Nat) (hdis : ∀ p, p ∈ [xo, ez, eo, bu, nw0, na0, nq0, nr0, nw1, na1, nq1, nr1, bs, bp, bh, bf, bl, bg] → p ∉ [lx, ly, lw, la, lq, le]) (hdos : ∀ p, p ∈ [lx, ly, lw, la, lq, le] → p ∉ [xo, ez, eo, bu, nw0, na0, nq0, nr0, nw1, na1, nq1, nr1, bs, bp, bh, bf, bl, bg]) (n_lx_ly : lx ≠ ly) (n_lw_la : lw ≠ la) (n_lw_lq : lw ≠ lq) (n_la_lq : la ≠ lq) (hLX : LX G f lx ly lw la lq le S0 S1 gw0 ga0 gw1 ga1) (b : Nat) (hInv : INV b S0 S1 gw0 ga0 gw1 ga1) (hbb : b + 200 ≤ 1000000) (hl0 : S0.2.2.2.2.2.2.2.2.length ≤ 52) (hl1 : S1.2.2.2.2.2.2.2.2.length ≤ 52) (ac : Nat) (hac : ac < 24) (hact : ac ≠ 22 → S0.2.2.2.2.2.2.2.2.length ≤ 40 ∧ S1.2.2.2.2.2.2.2.2.length ≤ 40) (u z : Int32) {p : Program} {e : Env} {s : State} {m : MethodId} {args : Array Value} {below : List Frame} {meth : Method} {c : Code} (B0 : hB p l s m args meth c cL_links 17 RL G) (hr : meth.sig.returnType = some .boolean) {H : Heap} {locs : List Loc} {ls : Array Slot} (hw : hW G f H) (hS : va_S (hFr G) s.heap H locs) (j13 : Nat) (hj13 : j13 < 6) (hc : ¬ 14 ≤ nI ac) (hl9 : lv_has ls 17 [(13, .int (nI j13)), (12, .ref lx), (11, .int 0), (10, .int 0), (0, .ref xo), (1, .int (nI ac)), (2, .int u), (3, .int z), (4, .ref lx), (5, .ref ly), (6, .ref lw), (7, .ref la), (8, .ref lq), (9, .ref le)]) : W p l e { frames := 9, cells := 203, slots := 1118, locals := 178 } s m args below meth c H locs 0 0 (vx_MQ below (hQ G (fun v f1 => v = some (.int 1) ∧ ∃ (S2 S3 : ES) (w0 a0 w1 a1 : Nat → Int32), CXW G f1 xo ez eo bu nw0 na0 nq0 nr0 nw1 na1 nq1 nr1 bs bp bh bf bl bg S2 S3 w0 a0 w1 a1 n a cg x sa pk fl gv gh gl ∧ LX G f1 lx ly lw la lq le S2 S3 w0 a0 w1 a1 ∧ INV (b + 100) S2 S3 w0 a0 w1 a1 ∧ S2.2.2.2.2.2.2.2.2.length ≤ 52 ∧ S3.2.2.2.2.2.2.2.2.length ≤ 52 ∧ hKn [lx, ly, lw, la, lq, le, xo, ez, eo, bu, nw0, na0, nq0, nr0, nw1, na1, nq1, nr1, bs, bp, bh, bf, bl, bg] f f1)) (hX G (fun E f1 => False)) args s 203 1118 (hFr G)) (F0 m 621 ls []) := by
  have hx := B0.1
  have hb := B0.2.1
  obtain ⟨⟨xs0, k_lx, hX0⟩, ⟨xs1, k_ly, hX1⟩, k_lw, k_la, k_lq, k_le⟩ := hLX
  obtain ⟨hSo0, hSo1, hgw0, hga0, hgw1, hga1⟩ := id hInv
  have n_lx_lw : lx ≠ lw := hneL k_lx k_lw (Nat.ne_of_beq_eq_false rfl)
  have n_lx_la : lx ≠ la := hneL k_lx k_la (Nat.ne_of_beq_eq_false rfl)
  have n_lx_lq : lx ≠ lq := hneL k_lx k_lq (Nat.ne_of_beq_eq_false rfl)
  have n_lx_le : lx ≠ le := hneL k_lx k_le (Nat.ne_of_beq_eq_false rfl)
  have n_ly_lw : ly ≠ lw := hneL k_ly k_lw (Nat.ne_of_beq_eq_false rfl)
  have n_ly_la : ly ≠ la := hneL k_ly k_la (Nat.ne_of_beq_eq_false rfl)
  have n_ly_lq : ly ≠ lq := hneL k_ly k_lq (Nat.ne_of_beq_eq_false rfl)
  have n_ly_le : ly ≠ le := hneL k_ly k_le (Nat.ne_of_beq_eq_false rfl)
  have n_lw_le : lw ≠ le := hneL k_lw k_le (Nat.ne_of_beq_eq_false rfl)
  have n_la_le : la ≠ le := hneL k_la k_le (Nat.ne_of_beq_eq_false rfl)
  have n_lq_le : lq ≠ le := hneL k_lq k_le (Nat.ne_of_beq_eq_false rfl)
  have sbA : ∀ x9, x9 ∈ [xo, ez, eo, bu, nw0, na0, nq0, nr0, nw1, na1, nq1, nr1, bs, bp, bh, bf, bl, bg] → x9 ∈ [lx, ly, lw, la, lq, le, xo, ez, eo, bu, nw0, na0, nq0, nr0, nw1, na1, nq1, nr1, bs, bp, bh, bf, bl, bg] := sbA
  obtain ⟨xx, hxx, hx4⟩ := hSo0.2.2.2.2.1
  have h1 : f le = some (.inl (cI G, 16, .inl (jE (e8 S0.1 S0.2.1 S0.2.2.1 S0.2.2.2.1 S0.2.2.2.2.1 S0.2.2.2.2.2.1 S0.2.2.2.2.2.2.1 (nI S0.2.2.2.2.2.2.2.2.length)) (eS S1)))) := k_le
  obtain ⟨h40a, h40b⟩ := hact (fun e9 => by subst e9; exact absurd (by decide) hc)
  refine lv_iconst (v := 1) hx hb dL_links_621 (by decide) ?_
  refine lv_iload_n hx hb dL_links_622 rfl (lv_at hl9 7 rfl) ?_
  refine lv_iload_n hx hb dL_links_623 rfl (lv_at hl9 6 rfl) ?_
  refine lv_bipush (v := 48) hx hb dL_links_624 (by decide) ?_
  refine lv_iand hx hb dL_links_626 ?_
  refine lv_if_ne (tgt := 635) hx hb dL_links_627 (by decide) (fun c2 => ?_) (fun c2 => ?_)
  · refine lv_iconst (v := 5) hx hb dL_links_635 (by decide) ?_
    refine hp_S (As := [.int z, .int 5]) (rest := [.int 1]) B0 hw hS (c_L_low hl G f z 5 (by omega) (by omega)) mS_L_low qM_L_94 rfl rfl hl9.1 (Nat.le_of_ble_eq_true rfl) ⟨⟨Nat.le_of_ble_eq_true rfl, Nat.le_of_ble_eq_true rfl⟩, Nat.le_of_ble_eq_true rfl, Nat.le_of_ble_eq_true rfl⟩ dL_links_636 (fun E ce q9 f3 H locs hPX hw hS hce hcv hcl => ?_) (fun v f3 H locs hP hw hS => ?_)
    · exact hPX.elim
    · obtain ⟨ef9, j4, hj5, ev9⟩ := hP
      rw [ef9] at hw
      subst ev9
      refine W.eq (g2 := F0 m 639 ls [.int (nI j4), .int 1]) rfl ?_
      refine lv_iadd hx hb dL_links_639 ?_
      refine hp_c (v := (nI (1 + j4))) (nI_add 1 j4) ?_
      refine lv_istore (lv' := [(14, .int (nI (1 + j4))), (13, .int (nI j13)), (12, .ref lx), (11, .int 0), (10, .int 0), (0, .ref xo), (1, .int (nI ac)), (2, .int u), (3, .int z), (4, .ref lx), (5, .ref ly), (6, .ref lw), (7, .ref la), (8, .ref lq), (9, .ref le)]) hx hb dL_links_640 hl9 (by decide) rfl (fun ls hl9 => ?_)
      refine lv_iload hx hb dL_links_642 (lv_at hl9 0 rfl) ?_
      refine lv_aload hx hb dL_links_644 (lv_at hl9 9 rfl) ?_
      refine lv_aload hx hb dL_links_646 (lv_at hl9 10 rfl) ?_
      refine lv_aload hx hb dL_links_648 (lv_at hl9 13 rfl) ?_
      refine lv_aload hx hb dL_links_650 (lv_at hl9 14 rfl) ?_
      have hpo0 : pot S0 ≤ S0.2.2.2.2.2.2.2.2.length + 10 := Nat.add_le_add_left (Nat.sub_le _ _) _
      have hpo1 : pot S1 ≤ S1.2.2.2.2.2.2.2.2.length + 10 := Nat.add_le_add_left (Nat.sub_le _ _) _
      refine hp_S (As := [.int (nI (1 + j4)), .ref lx, .ref ly, .ref lq, .ref le]) (rest := []) B0 hw hS (c_L_goBy hl G f lx ly lq le S0 S1 b hSo0 hSo1 (by omega) (by have := hpo0; omega) (by have := hpo1; omega) (1 + j4) (by omega) (by omega) n_lx_ly xs0 xs1 hX0 hX1 k_lx k_ly k_lq h1) mS_L_goBy qM_L_111 rfl rfl hl9.1 (Nat.le_of_ble_eq_true rfl) ⟨⟨Nat.le_of_ble_eq_true rfl, Nat.le_of_ble_eq_true rfl⟩, Nat.le_of_ble_eq_true rfl, Nat.le_of_ble_eq_true rfl⟩ dL_links_652 (fun E ce q9 f6 H locs hPX hw hS hce hcv hcl => ?_) (fun v f6 H locs hP hw hS => ?_)
      · exact hPX.elim
      · obtain ⟨ev9, ⟨xs7, h8, hX9⟩, ⟨ys10, h11, hY12⟩, h13, h14, k15⟩ := hP
        subst ev9
        refine W.eq (g2 := F0 m 655 ls [.int ((passF (1 + j4) (S0, S1, 0)).2.2)]) rfl ?_
        refine lv_istore (lv' := [(15, .int ((passF (1 + j4) (S0, S1, 0)).2.2)), (14, .int (nI (1 + j4))), (13, .int (nI j13)), (12, .ref lx), (11, .int 0), (10, .int 0), (0, .ref xo), (1, .int (nI ac)), (2, .int u), (3, .int z), (4, .ref lx), (5, .ref ly), (6, .ref lw), (7, .ref la), (8, .ref lq), (9, .ref le)]) hx hb dL_links_655 hl9 (by decide) rfl (fun ls hl9 => ?_)
        refine lv_aload_n hx hb dL_links_657 rfl (lv_at hl9 6 rfl) ?_
        refine lv_iconst (v := 0) hx hb dL_links_658 (by decide) ?_
        have h16 : f6 lw = some (.inl (cI G, 12, .inl (j6 gw0 gw1))) := (hEq.k k15) _ _ k_lw (ninc (Ne.symm n_lx_lw) (ninc (Ne.symm n_ly_lw) (ninc n_lw_le nin0)))
        have h17 : f6 la = some (.inl (cI G, 12, .inl (j6 ga0 ga1))) := (hEq.k k15) _ _ k_la (ninc (Ne.symm n_lx_la) (ninc (Ne.symm n_ly_la) (ninc n_la_le nin0)))
        have hC18 : CXW G f6 xo ez eo bu nw0 na0 nq0 nr0 nw1 na1 nq1 nr1 bs bp bh bf bl bg S0 S1 gw0 ga0 gw1 ga1 n a cg x sa pk fl gv gh gl := CXW.eq hC (show hEq [lx, ly, lw, la, lq, le] f f6 from (hEq.mono k15 (sub_cons List.mem_cons_self (sub_cons (List.mem_cons_of_mem _ List.mem_cons_self) (sub_cons (List.mem_cons_of_mem _ (List.mem_cons_of_mem _ (List.mem_cons_of_mem _ (List.mem_cons_of_mem _ (List.mem_cons_of_mem _ List.mem_cons_self))))) sub_nil))))) hdis (fun b9 hb9 => by
            simp only [List.mem_cons, List.not_mem_nil, or_false] at hb9
            rcases hb9 with hb9 | hb9 | hb9 | hb9 | hb9 | hb9
            · rw [hb9]; exact ⟨_, _, k_lx, h8, (Nat.ne_of_beq_eq_false rfl), (Nat.ne_of_beq_eq_false rfl)⟩
            · rw [hb9]; exact ⟨_, _, k_ly, h11, (Nat.ne_of_beq_eq_false rfl), (Nat.ne_of_beq_eq_false rfl)⟩
            · rw [hb9]; exact ⟨_, _, k_lw, h16, (Nat.ne_of_beq_eq_false rfl), (Nat.ne_of_beq_eq_false rfl)⟩
            · rw [hb9]; exact ⟨_, _, k_la, h17, (Nat.ne_of_beq_eq_false rfl), (Nat.ne_of_beq_eq_false rfl)⟩
            · rw [hb9]; exact ⟨_, _, k_lq, h13, (Nat.ne_of_beq_eq_false rfl), (Nat.ne_of_beq_eq_false rfl)⟩
            · rw [hb9]; exact ⟨_, _, h1, h14, (Nat.ne_of_beq_eq_false rfl), (Nat.ne_of_beq_eq_false rfl)⟩)
        refine hp_SH (As := [.ref xo, .int 0]) (rest := []) B0 hw hS (c_V_pass_A hl G f6 xo ez eo bu nw0 na0 nq0 nr0 nw1 na1 nq1 nr1 bs bp bh bf bl bg S0 S1 gw0 ga0 gw1 ga1 n a cg x sa pk fl gv gh gl hC18 (Nat.lt_of_le_of_lt hl0 (by decide)) (Nat.lt_of_le_of_lt hl1 (by decide)) 0 (by decide)) mH_L_pass qM_L_115 rfl rfl hl9.1 (Nat.le_of_ble_eq_true rfl) ⟨⟨Nat.le_of_ble_eq_true rfl, Nat.le_of_ble_eq_true rfl⟩, Nat.le_of_ble_eq_true rfl, Nat.le_of_ble_eq_true rfl⟩ dL_links_659 (fun E ce q9 f19 H locs hPX hw hS hce hcv hcl => ?_) (fun v f19 H locs hP hw hS => ?_)
        · exact hPX.elim
        · obtain ⟨ev9, hC20, k21⟩ := hP
          subst ev9
          have hC20 : CXW G f19 xo ez eo bu nw0 na0 nq0 nr0 nw1 na1 nq1 nr1 bs bp bh bf bl bg S0 S1 gw0 ga0 gw1 ga1 n a cg x sa pk fl gv gh gl := hC20
          refine W.eq (g2 := F0 m 662 ls [.int (-72)]) rfl ?_
          refine lv_bipush (v := (-72)) hx hb dL_links_662 (by decide) ?_
          refine lv_icmp_ne (tgt := 704) hx hb dL_links_664 (by decide) (fun c9 => absurd (by decide) c9) (fun _ => ?_)
          refine lv_aload_n hx hb dL_links_667 rfl (lv_at hl9 6 rfl) ?_
          refine lv_bipush (v := 51) hx hb dL_links_668 (by decide) ?_
          refine hp_SH (As := [.ref xo, .int 51]) (rest := []) B0 hw hS (c_V_pass_A hl G f19 xo ez eo bu nw0 na0 nq0 nr0 nw1 na1 nq1 nr1 bs bp bh bf bl bg S0 S1 gw0 ga0 gw1 ga1 n a cg x sa pk fl gv gh gl hC20 (Nat.lt_of_le_of_lt hl0 (by decide)) (Nat.lt_of_le_of_lt hl1 (by decide)) 51 (by decide)) mH_L_pass qM_L_115 rfl rfl hl9.1 (Nat.le_of_ble_eq_true rfl) ⟨⟨Nat.le_of_ble_eq_true rfl, Nat.le_of_ble_eq_true rfl⟩, Nat.le_of_ble_eq_true rfl, Nat.le_of_ble_eq_true rfl⟩ dL_links_670 (fun E ce q9 f22 H locs hPX hw hS hce hcv hcl => ?_) (fun v f22 H locs hP hw hS => ?_)
          · exact hPX.elim
          · obtain ⟨ev9, hC23, k24⟩ := hP
            subst ev9
            have hC23 : CXW G f22 xo ez eo bu nw0 na0 nq0 nr0 nw1 na1 nq1 nr1 bs bp bh bf bl bg S0 S1 gw0 ga0 gw1 ga1 n a cg x sa pk fl gv gh gl := hC23
            refine W.eq (g2 := F0 m 673 ls [.int (-72)]) rfl ?_
            refine lv_bipush (v := (-72)) hx hb dL_links_673 (by decide) ?_
            refine lv_icmp_ne (tgt := 704) hx hb dL_links_675 (by decide) (fun c9 => absurd (by decide) c9) (fun _ => ?_)
            refine lv_aload_n hx hb dL_links_678 rfl (lv_at hl9 6 rfl) ?_
            refine lv_ldc (v := (-2147483648)) hx hb B0.2.2.2.1 (B0.2.2.2.2.1 _ qK_L_67) dL_links_679 ?_
            refine hp_SH (As := [.ref xo, .int (-2147483648)]) (rest := []) B0 hw hS (c_V_pass_A hl G f22 xo ez eo bu nw0 na0 nq0 nr0 nw1 na1 nq1 nr1 bs bp bh bf bl bg S0 S1 gw0 ga0 gw1 ga1 n a cg x sa pk fl gv gh gl hC23 (Nat.lt_of_le_of_lt hl0 (by decide)) (Nat.lt_of_le_of_lt hl1 (by decide)) (-2147483648) (by decide)) mH_L_pass qM_L_115 rfl rfl hl9.1 (Nat.le_of_ble_eq_true rfl) ⟨⟨Nat.le_of_ble_eq_true rfl, Nat.le_of_ble_eq_true rfl⟩, Nat.le_of_ble_eq_true rfl, Nat.le_of_ble_eq_true rfl⟩ dL_links_681 (fun E ce q9 f25 H locs hPX hw hS hce hcv hcl => ?_) (fun v f25 H locs hP hw hS => ?_)
            · exact hPX.elim
            · obtain ⟨ev9, hC26, k27⟩ := hP
              subst ev9
              have hC26 : CXW G f25 xo ez eo bu nw0 na0 nq0 nr0 nw1 na1 nq1 nr1 bs bp bh bf bl bg S0 S1 gw0 ga0 gw1 ga1 n a cg x sa pk fl gv gh gl := hC26
              refine W.eq (g2 := F0 m 684 ls [.int (-72)]) rfl ?_
              refine lv_bipush (v := (-72)) hx hb dL_links_684 (by decide) ?_
              refine lv_icmp_ne (tgt := 704) hx hb dL_links_686 (by decide) (fun c9 => absurd (by decide) c9) (fun _ => ?_)
              refine lv_aload_n hx hb dL_links_689 rfl (lv_at hl9 6 rfl) ?_
              refine lv_iload hx hb dL_links_690 (lv_at hl9 1 rfl) ?_
              refine hp_SH (As := [.ref xo, .int (nI (1 + j4))]) (rest := []) B0 hw hS (c_V_pass_ok hl G f25 xo ez eo bu nw0 na0 nq0 nr0 nw1 na1 nq1 nr1 bs bp bh bf bl bg S0 S1 gw0 ga0 gw1 ga1 n a cg x sa pk fl gv gh gl hC26 (Nat.lt_of_le_of_lt hl0 (by decide)) (Nat.lt_of_le_of_lt hl1 (by decide)) (1 + j4) (by omega) (by omega)) mH_L_pass qM_L_115 rfl rfl hl9.1 (Nat.le_of_ble_eq_true rfl) ⟨⟨Nat.le_of_ble_eq_true rfl, Nat.le_of_ble_eq_true rfl⟩, Nat.le_of_ble_eq_true rfl, Nat.le_of_ble_eq_true rfl⟩ dL_links_692 (fun E ce q9 f28 H locs hPX hw hS hce hcv hcl => ?_) (fun v f28 H locs hP hw hS => ?_)
              · exact hPX.elim
              · obtain ⟨ev9, hC29, k30⟩ := hP
                subst ev9
                have hC29 : CXW G f28 xo ez eo bu nw0 na0 nq0 nr0 nw1 na1 nq1 nr1 bs bp bh bf bl bg ((passF (1 + j4) (S0, S1, 0)).1) ((passF (1 + j4) (S0, S1, 0)).2.1) gw0 ga0 gw1 ga1 n a cg x sa pk fl gv gh gl := hC29
                refine W.eq (g2 := F0 m 695 ls [.int ((passF (1 + j4) (S0, S1, 0)).2.2)]) rfl ?_
                refine lv_iload hx hb dL_links_695 (lv_at hl9 0 rfl) ?_
                refine lv_icmp_ne (tgt := 704) hx hb dL_links_697 (by decide) (fun c9 => absurd rfl c9) (fun _ => ?_)
                refine lv_iconst (v := 1) hx hb dL_links_700 (by decide) ?_
                refine lv_goto (tgt := 705) hx hb dL_links_701 (by decide) ?_
                have h31 : f19 lx = some (.inl (cJ G, 64, .inr (.inl xs7))) := k21 _ _ h8 (Nat.ne_of_beq_eq_false rfl) (hdos _ List.mem_cons_self)
                have h32 : f22 lx = some (.inl (cJ G, 64, .inr (.inl xs7))) := k24 _ _ h31 (Nat.ne_of_beq_eq_false rfl) (hdos _ List.mem_cons_self)
                have h33 : f25 lx = some (.inl (cJ G, 64, .inr (.inl xs7))) := k27 _ _ h32 (Nat.ne_of_beq_eq_false rfl) (hdos _ List.mem_cons_self)
                have h34 : f28 lx = some (.inl (cJ G, 64, .inr (.inl xs7))) := k30 _ _ h33 (Nat.ne_of_beq_eq_false rfl) (hdos _ List.mem_cons_self)
                have h35 : f19 ly = some (.inl (cJ G, 64, .inr (.inl ys10))) := k21 _ _ h11 (Nat.ne_of_beq_eq_false rfl) (hdos _ (List.mem_cons_of_mem _ List.mem_cons_self))
                have h36 : f22 ly = some (.inl (cJ G, 64, .inr (.inl ys10))) := k24 _ _ h35 (Nat.ne_of_beq_eq_false rfl) (hdos _ (List.mem_cons_of_mem _ List.mem_cons_self))
                have h37 : f25 ly = some (.inl (cJ G, 64, .inr (.inl ys10))) := k27 _ _ h36 (Nat.ne_of_beq_eq_false rfl) (hdos _ (List.mem_cons_of_mem _ List.mem_cons_self))
                have h38 : f28 ly = some (.inl (cJ G, 64, .inr (.inl ys10))) := k30 _ _ h37 (Nat.ne_of_beq_eq_false rfl) (hdos _ (List.mem_cons_of_mem _ List.mem_cons_self))
                have h39 : f19 lw = some (.inl (cI G, 12, .inl (j6 gw0 gw1))) := k21 _ _ h16 (Nat.ne_of_beq_eq_false rfl) (hdos _ (List.mem_cons_of_mem _ (List.mem_cons_of_mem _ List.mem_cons_self)))
                have h40 : f22 lw = some (.inl (cI G, 12, .inl (j6 gw0 gw1))) := k24 _ _ h39 (Nat.ne_of_beq_eq_false rfl) (hdos _ (List.mem_cons_of_mem _ (List.mem_cons_of_mem _ List.mem_cons_self)))
                have h41 : f25 lw = some (.inl (cI G, 12, .inl (j6 gw0 gw1))) := k27 _ _ h40 (Nat.ne_of_beq_eq_false rfl) (hdos _ (List.mem_cons_of_mem _ (List.mem_cons_of_mem _ List.mem_cons_self)))
                have h42 : f28 lw = some (.inl (cI G, 12, .inl (j6 gw0 gw1))) := k30 _ _ h41 (Nat.ne_of_beq_eq_false rfl) (hdos _ (List.mem_cons_of_mem _ (List.mem_cons_of_mem _ List.mem_cons_self)))
                have h43 : f19 la = some (.inl (cI G, 12, .inl (j6 ga0 ga1))) := k21 _ _ h17 (Nat.ne_of_beq_eq_false rfl) (hdos _ (List.mem_cons_of_mem _ (List.mem_cons_of_mem _ (List.mem_cons_of_mem _ List.mem_cons_self))))
                have h44 : f22 la = some (.inl (cI G, 12, .inl (j6 ga0 ga1))) := k24 _ _ h43 (Nat.ne_of_beq_eq_false rfl) (hdos _ (List.mem_cons_of_mem _ (List.mem_cons_of_mem _ (List.mem_cons_of_mem _ List.mem_cons_self))))
                have h45 : f25 la = some (.inl (cI G, 12, .inl (j6 ga0 ga1))) := k27 _ _ h44 (Nat.ne_of_beq_eq_false rfl) (hdos _ (List.mem_cons_of_mem _ (List.mem_cons_of_mem _ (List.mem_cons_of_mem _ List.mem_cons_self))))
                have h46 : f28 la = some (.inl (cI G, 12, .inl (j6 ga0 ga1))) := k30 _ _ h45 (Nat.ne_of_beq_eq_false rfl) (hdos _ (List.mem_cons_of_mem _ (List.mem_cons_of_mem _ (List.mem_cons_of_mem _ List.mem_cons_self))))
                have h47 : f19 lq = some (.inl (cI G, 12, .inl (j6 (passF (1 + j4) (S0, S1, 0)).1.2.2.2.2.2.2.2.1 (passF (1 + j4) (S0, S1, 0)).2.1.2.2.2.2.2.2.2.1))) := k21 _ _ h13 (Nat.ne_of_beq_eq_false rfl) (hdos _ (List.mem_cons_of_mem _ (List.mem_cons_of_mem _ (List.mem_cons_of_mem _ (List.mem_cons_of_mem _ List.mem_cons_self)))))
                have h48 : f22 lq = some (.inl (cI G, 12, .inl (j6 (passF (1 + j4) (S0, S1, 0)).1.2.2.2.2.2.2.2.1 (passF (1 + j4) (S0, S1, 0)).2.1.2.2.2.2.2.2.2.1))) := k24 _ _ h47 (Nat.ne_of_beq_eq_false rfl) (hdos _ (List.mem_cons_of_mem _ (List.mem_cons_of_mem _ (List.mem_cons_of_mem _ (List.mem_cons_of_mem _ List.mem_cons_self)))))
                have h49 : f25 lq = some (.inl (cI G, 12, .inl (j6 (passF (1 + j4) (S0, S1, 0)).1.2.2.2.2.2.2.2.1 (passF (1 + j4) (S0, S1, 0)).2.1.2.2.2.2.2.2.2.1))) := k27 _ _ h48 (Nat.ne_of_beq_eq_false rfl) (hdos _ (List.mem_cons_of_mem _ (List.mem_cons_of_mem _ (List.mem_cons_of_mem _ (List.mem_cons_of_mem _ List.mem_cons_self)))))
                have h50 : f28 lq = some (.inl (cI G, 12, .inl (j6 (passF (1 + j4) (S0, S1, 0)).1.2.2.2.2.2.2.2.1 (passF (1 + j4) (S0, S1, 0)).2.1.2.2.2.2.2.2.2.1))) := k30 _ _ h49 (Nat.ne_of_beq_eq_false rfl) (hdos _ (List.mem_cons_of_mem _ (List.mem_cons_of_mem _ (List.mem_cons_of_mem _ (List.mem_cons_of_mem _ List.mem_cons_self)))))
                have h51 : f19 le = some (.inl (cI G, 16, .inl (jE (eS (passF (1 + j4) (S0, S1, 0)).1) (eS (passF (1 + j4) (S0, S1, 0)).2.1)))) := k21 _ _ h14 (Nat.ne_of_beq_eq_false rfl) (hdos _ (List.mem_cons_of_mem _ (List.mem_cons_of_mem _ (List.mem_cons_of_mem _ (List.mem_cons_of_mem _ (List.mem_cons_of_mem _ List.mem_cons_self))))))
                have h52 : f22 le = some (.inl (cI G, 16, .inl (jE (eS (passF (1 + j4) (S0, S1, 0)).1) (eS (passF (1 + j4) (S0, S1, 0)).2.1)))) := k24 _ _ h51 (Nat.ne_of_beq_eq_false rfl) (hdos _ (List.mem_cons_of_mem _ (List.mem_cons_of_mem _ (List.mem_cons_of_mem _ (List.mem_cons_of_mem _ (List.mem_cons_of_mem _ List.mem_cons_self))))))
                have h53 : f25 le = some (.inl (cI G, 16, .inl (jE (eS (passF (1 + j4) (S0, S1, 0)).1) (eS (passF (1 + j4) (S0, S1, 0)).2.1)))) := k27 _ _ h52 (Nat.ne_of_beq_eq_false rfl) (hdos _ (List.mem_cons_of_mem _ (List.mem_cons_of_mem _ (List.mem_cons_of_mem _ (List.mem_cons_of_mem _ (List.mem_cons_of_mem _ List.mem_cons_self))))))
                have h54 : f28 le = some (.inl (cI G, 16, .inl (jE (eS (passF (1 + j4) (S0, S1, 0)).1) (eS (passF (1 + j4) (S0, S1, 0)).2.1)))) := k30 _ _ h53 (Nat.ne_of_beq_eq_false rfl) (hdos _ (List.mem_cons_of_mem _ (List.mem_cons_of_mem _ (List.mem_cons_of_mem _ (List.mem_cons_of_mem _ (List.mem_cons_of_mem _ List.mem_cons_self))))))
                exact hp_zret (v := 1) B0 hw hS hr ⟨Nat.le_of_ble_eq_true rfl, Nat.le_of_ble_eq_true rfl⟩ (rfl) dL_links_705 (⟨rfl, (passF (1 + j4) (S0, S1, 0)).1, (passF (1 + j4) (S0, S1, 0)).2.1, gw0, ga0, gw1, ga1, hC29, ⟨⟨_, h34, hX9⟩, ⟨_, h38, hY12⟩, h42, h46, h50, h54⟩, ⟨SOK.mono (passF_ok (1 + j4) b (S0, S1, 0) hSo0 hSo1 (by omega)).1 (by omega), SOK.mono (passF_ok (1 + j4) b (S0, S1, 0) hSo0 hSo1 (by omega)).2 (by omega), hgw0, hga0, hgw1, hga1⟩, (Nat.le_trans (pot_len _) (Nat.le_trans (passF_pot (1 + j4) b (S0, S1, 0) hSo0 hSo1 (by omega)).1 (by have h9 := hpo0; show pot S0 ≤ 52; omega))), (Nat.le_trans (pot_len _) (Nat.le_trans (passF_pot (1 + j4) b (S0, S1, 0) hSo0 hSo1 (by omega)).2 (by have h9 := hpo1; show pot S1 ≤ 52; omega))), ((show hKn [lx, ly, lw, la, lq, le, xo, ez, eo, bu, nw0, na0, nq0, nr0, nw1, na1, nq1, nr1, bs, bp, bh, bf, bl, bg] f f6 from (hKn.mono (hKn.eq k15) (sub_cons List.mem_cons_self (sub_cons (List.mem_cons_of_mem _ List.mem_cons_self) (sub_cons (List.mem_cons_of_mem _ (List.mem_cons_of_mem _ (List.mem_cons_of_mem _ (List.mem_cons_of_mem _ (List.mem_cons_of_mem _ List.mem_cons_self))))) sub_nil))))).tr ((show hKn [lx, ly, lw, la, lq, le, xo, ez, eo, bu, nw0, na0, nq0, nr0, nw1, na1, nq1, nr1, bs, bp, bh, bf, bl, bg] f6 f19 from (hKn.mono k21 sbA)).tr ((show hKn [lx, ly, lw, la, lq, le, xo, ez, eo, bu, nw0, na0, nq0, nr0, nw1, na1, nq1, nr1, bs, bp, bh, bf, bl, bg] f19 f22 from (hKn.mono k24 sbA)).tr ((show hKn [lx, ly, lw, la, lq, le, xo, ez, eo, bu, nw0, na0, nq0, nr0, nw1, na1, nq1, nr1, bs, bp, bh, bf, bl, bg] f22 f25 from (hKn.mono k27 sbA)).tr (show hKn [lx, ly, lw, la, lq, le, xo, ez, eo, bu, nw0, na0, nq0, nr0, nw1, na1, nq1, nr1, bs, bp, bh, bf, bl, bg] f25 f28 from (hKn.mono k30 sbA))))))⟩)
  · refine lv_bipush (v := 50) hx hb dL_links_630 (by decide) ?_
    refine lv_goto (tgt := 636) hx hb dL_links_632 (by decide) ?_
    refine hp_S (As := [.int z, .int 50]) (rest := [.int 1]) B0 hw hS (c_L_low hl G f z 50 (by omega) (by omega)) mS_L_low qM_L_94 rfl rfl hl9.1 (Nat.le_of_ble_eq_true rfl) ⟨⟨Nat.le_of_ble_eq_true rfl, Nat.le_of_ble_eq_true rfl⟩, Nat.le_of_ble_eq_true rfl, Nat.le_of_ble_eq_true rfl⟩ dL_links_636 (fun E ce q9 f55 H locs hPX hw hS hce hcv hcl => ?_) (fun v f55 H locs hP hw hS => ?_)
    · exact hPX.elim
    · obtain ⟨ef9, j56, hj57, ev9⟩ := hP
      rw [ef9] at hw
      subst ev9
      refine W.eq (g2 := F0 m 639 ls [.int (nI j56), .int 1]) rfl ?_
      refine lv_iadd hx hb dL_links_639 ?_
      refine hp_c (v := (nI (1 + j56))) (nI_add 1 j56) ?_
      refine lv_istore (lv' := [(14, .int (nI (1 + j56))), (13, .int (nI j13)), (12, .ref lx), (11, .int 0), (10, .int 0), (0, .ref xo), (1, .int (nI ac)), (2, .int u), (3, .int z), (4, .ref lx), (5, .ref ly), (6, .ref lw), (7, .ref la), (8, .ref lq), (9, .ref le)]) hx hb dL_links_640 hl9 (by decide) rfl (fun ls hl9 => ?_)
      refine lv_iload hx hb dL_links_642 (lv_at hl9 0 rfl) ?_
      refine lv_aload hx hb dL_links_644 (lv_at hl9 9 rfl) ?_
      refine lv_aload hx hb dL_links_646 (lv_at hl9 10 rfl) ?_
      refine lv_aload hx hb dL_links_648 (lv_at hl9 13 rfl) ?_
      refine lv_aload hx hb dL_links_650 (lv_at hl9 14 rfl) ?_
      have hpo0 : pot S0 ≤ S0.2.2.2.2.2.2.2.2.length + 10 := Nat.add_le_add_left (Nat.sub_le _ _) _
      have hpo1 : pot S1 ≤ S1.2.2.2.2.2.2.2.2.length + 10 := Nat.add_le_add_left (Nat.sub_le _ _) _
      refine hp_S (As := [.int (nI (1 + j56)), .ref lx, .ref ly, .ref lq, .ref le]) (rest := []) B0 hw hS (c_L_goBy hl G f lx ly lq le S0 S1 b hSo0 hSo1 (by omega) (by have := hpo0; omega) (by have := hpo1; omega) (1 + j56) (by omega) (by omega) n_lx_ly xs0 xs1 hX0 hX1 k_lx k_ly k_lq h1) mS_L_goBy qM_L_111 rfl rfl hl9.1 (Nat.le_of_ble_eq_true rfl) ⟨⟨Nat.le_of_ble_eq_true rfl, Nat.le_of_ble_eq_true rfl⟩, Nat.le_of_ble_eq_true rfl, Nat.le_of_ble_eq_true rfl⟩ dL_links_652 (fun E ce q9 f58 H locs hPX hw hS hce hcv hcl => ?_) (fun v f58 H locs hP hw hS => ?_)
      · exact hPX.elim
      · obtain ⟨ev9, ⟨xs59, h60, hX61⟩, ⟨ys62, h63, hY64⟩, h65, h66, k67⟩ := hP
        subst ev9
        refine W.eq (g2 := F0 m 655 ls [.int ((passF (1 + j56) (S0, S1, 0)).2.2)]) rfl ?_
        refine lv_istore (lv' := [(15, .int ((passF (1 + j56) (S0, S1, 0)).2.2)), (14, .int (nI (1 + j56))), (13, .int (nI j13)), (12, .ref lx), (11, .int 0), (10, .int 0), (0, .ref xo), (1, .int (nI ac)), (2, .int u), (3, .int z), (4, .ref lx), (5, .ref ly), (6, .ref lw), (7, .ref la), (8, .ref lq), (9, .ref le)]) hx hb dL_links_655 hl9 (by decide) rfl (fun ls hl9 => ?_)
        refine lv_aload_n hx hb dL_links_657 rfl (lv_at hl9 6 rfl) ?_
        refine lv_iconst (v := 0) hx hb dL_links_658 (by decide) ?_
        have h68 : f58 lw = some (.inl (cI G, 12, .inl (j6 gw0 gw1))) := (hEq.k k67) _ _ k_lw (ninc (Ne.symm n_lx_lw) (ninc (Ne.symm n_ly_lw) (ninc n_lw_le nin0)))
        have h69 : f58 la = some (.inl (cI G, 12, .inl (j6 ga0 ga1))) := (hEq.k k67) _ _ k_la (ninc (Ne.symm n_lx_la) (ninc (Ne.symm n_ly_la) (ninc n_la_le nin0)))
        have hC70 : CXW G f58 xo ez eo bu nw0 na0 nq0 nr0 nw1 na1 nq1 nr1 bs bp bh bf bl bg S0 S1 gw0 ga0 gw1 ga1 n a cg x sa pk fl gv gh gl := CXW.eq hC (show hEq [lx, ly, lw, la, lq, le] f f58 from (hEq.mono k67 (sub_cons List.mem_cons_self (sub_cons (List.mem_cons_of_mem _ List.mem_cons_self) (sub_cons (List.mem_cons_of_mem _ (List.mem_cons_of_mem _ (List.mem_cons_of_mem _ (List.mem_cons_of_mem _ (List.mem_cons_of_mem _ List.mem_cons_self))))) sub_nil))))) hdis (fun b9 hb9 => by
            simp only [List.mem_cons, List.not_mem_nil, or_false] at hb9
            rcases hb9 with hb9 | hb9 | hb9 | hb9 | hb9 | hb9
            · rw [hb9]; exact ⟨_, _, k_lx, h60, (Nat.ne_of_beq_eq_false rfl), (Nat.ne_of_beq_eq_false rfl)⟩
            · rw [hb9]; exact ⟨_, _, k_ly, h63, (Nat.ne_of_beq_eq_false rfl), (Nat.ne_of_beq_eq_false rfl)⟩
            · rw [hb9]; exact ⟨_, _, k_lw, h68, (Nat.ne_of_beq_eq_false rfl), (Nat.ne_of_beq_eq_false rfl)⟩
            · rw [hb9]; exact ⟨_, _, k_la, h69, (Nat.ne_of_beq_eq_false rfl), (Nat.ne_of_beq_eq_false rfl)⟩
            · rw [hb9]; exact ⟨_, _, k_lq, h65, (Nat.ne_of_beq_eq_false rfl), (Nat.ne_of_beq_eq_false rfl)⟩
            · rw [hb9]; exact ⟨_, _, h1, h66, (Nat.ne_of_beq_eq_false rfl), (Nat.ne_of_beq_eq_false rfl)⟩)
        refine hp_SH (As := [.ref xo, .int 0]) (rest := []) B0 hw hS (c_V_pass_A hl G f58 xo ez eo bu nw0 na0 nq0 nr0 nw1 na1 nq1 nr1 bs bp bh bf bl bg S0 S1 gw0 ga0 gw1 ga1 n a cg x sa pk fl gv gh gl hC70 (Nat.lt_of_le_of_lt hl0 (by decide)) (Nat.lt_of_le_of_lt hl1 (by decide)) 0 (by decide)) mH_L_pass qM_L_115 rfl rfl hl9.1 (Nat.le_of_ble_eq_true rfl) ⟨⟨Nat.le_of_ble_eq_true rfl, Nat.le_of_ble_eq_true rfl⟩, Nat.le_of_ble_eq_true rfl, Nat.le_of_ble_eq_true rfl⟩ dL_links_659 (fun E ce q9 f71 H locs hPX hw hS hce hcv hcl => ?_) (fun v f71 H locs hP hw hS => ?_)
        · exact hPX.elim
        · obtain ⟨ev9, hC72, k73⟩ := hP
          subst ev9
          have hC72 : CXW G f71 xo ez eo bu nw0 na0 nq0 nr0 nw1 na1 nq1 nr1 bs bp bh bf bl bg S0 S1 gw0 ga0 gw1 ga1 n a cg x sa pk fl gv gh gl := hC72
          refine W.eq (g2 := F0 m 662 ls [.int (-72)]) rfl ?_
          refine lv_bipush (v := (-72)) hx hb dL_links_662 (by decide) ?_
          refine lv_icmp_ne (tgt := 704) hx hb dL_links_664 (by decide) (fun c9 => absurd (by decide) c9) (fun _ => ?_)
          refine lv_aload_n hx hb dL_links_667 rfl (lv_at hl9 6 rfl) ?_
          refine lv_bipush (v := 51) hx hb dL_links_668 (by decide) ?_
          refine hp_SH (As := [.ref xo, .int 51]) (rest := []) B0 hw hS (c_V_pass_A hl G f71 xo ez eo bu nw0 na0 nq0 nr0 nw1 na1 nq1 nr1 bs bp bh bf bl bg S0 S1 gw0 ga0 gw1 ga1 n a cg x sa pk fl gv gh gl hC72 (Nat.lt_of_le_of_lt hl0 (by decide)) (Nat.lt_of_le_of_lt hl1 (by decide)) 51 (by decide)) mH_L_pass qM_L_115 rfl rfl hl9.1 (Nat.le_of_ble_eq_true rfl) ⟨⟨Nat.le_of_ble_eq_true rfl, Nat.le_of_ble_eq_true rfl⟩, Nat.le_of_ble_eq_true rfl, Nat.le_of_ble_eq_true rfl⟩ dL_links_670 (fun E ce q9 f74 H locs hPX hw hS hce hcv hcl => ?_) (fun v f74 H locs hP hw hS => ?_)
          · exact hPX.elim
          · obtain ⟨ev9, hC75, k76⟩ := hP
            subst ev9
            have hC75 : CXW G f74 xo ez eo bu nw0 na0 nq0 nr0 nw1 na1 nq1 nr1 bs bp bh bf bl bg S0 S1 gw0 ga0 gw1 ga1 n a cg x sa pk fl gv gh gl := hC75
            refine W.eq (g2 := F0 m 673 ls [.int (-72)]) rfl ?_
            refine lv_bipush (v := (-72)) hx hb dL_links_673 (by decide) ?_
            refine lv_icmp_ne (tgt := 704) hx hb dL_links_675 (by decide) (fun c9 => absurd (by decide) c9) (fun _ => ?_)
            refine lv_aload_n hx hb dL_links_678 rfl (lv_at hl9 6 rfl) ?_
            refine lv_ldc (v := (-2147483648)) hx hb B0.2.2.2.1 (B0.2.2.2.2.1 _ qK_L_67) dL_links_679 ?_
            refine hp_SH (As := [.ref xo, .int (-2147483648)]) (rest := []) B0 hw hS (c_V_pass_A hl G f74 xo ez eo bu nw0 na0 nq0 nr0 nw1 na1 nq1 nr1 bs bp bh bf bl bg S0 S1 gw0 ga0 gw1 ga1 n a cg x sa pk fl gv gh gl hC75 (Nat.lt_of_le_of_lt hl0 (by decide)) (Nat.lt_of_le_of_lt hl1 (by decide)) (-2147483648) (by decide)) mH_L_pass qM_L_115 rfl rfl hl9.1 (Nat.le_of_ble_eq_true rfl) ⟨⟨Nat.le_of_ble_eq_true rfl, Nat.le_of_ble_eq_true rfl⟩, Nat.le_of_ble_eq_true rfl, Nat.le_of_ble_eq_true rfl⟩ dL_links_681 (fun E ce q9 f77 H locs hPX hw hS hce hcv hcl => ?_) (fun v f77 H locs hP hw hS => ?_)
            · exact hPX.elim
            · obtain ⟨ev9, hC78, k79⟩ := hP
              subst ev9
              have hC78 : CXW G f77 xo ez eo bu nw0 na0 nq0 nr0 nw1 na1 nq1 nr1 bs bp bh bf bl bg S0 S1 gw0 ga0 gw1 ga1 n a cg x sa pk fl gv gh gl := hC78
              refine W.eq (g2 := F0 m 684 ls [.int (-72)]) rfl ?_
              refine lv_bipush (v := (-72)) hx hb dL_links_684 (by decide) ?_
              refine lv_icmp_ne (tgt := 704) hx hb dL_links_686 (by decide) (fun c9 => absurd (by decide) c9) (fun _ => ?_)
              refine lv_aload_n hx hb dL_links_689 rfl (lv_at hl9 6 rfl) ?_
              refine lv_iload hx hb dL_links_690 (lv_at hl9 1 rfl) ?_
              refine hp_SH (As := [.ref xo, .int (nI (1 + j56))]) (rest := []) B0 hw hS (c_V_pass_ok hl G f77 xo ez eo bu nw0 na0 nq0 nr0 nw1 na1 nq1 nr1 bs bp bh bf bl bg S0 S1 gw0 ga0 gw1 ga1 n a cg x sa pk fl gv gh gl hC78 (Nat.lt_of_le_of_lt hl0 (by decide)) (Nat.lt_of_le_of_lt hl1 (by decide)) (1 + j56) (by omega) (by omega)) mH_L_pass qM_L_115 rfl rfl hl9.1 (Nat.le_of_ble_eq_true rfl) ⟨⟨Nat.le_of_ble_eq_true rfl, Nat.le_of_ble_eq_true rfl⟩, Nat.le_of_ble_eq_true rfl, Nat.le_of_ble_eq_true rfl⟩ dL_links_692 (fun E ce q9 f80 H locs hPX hw hS hce hcv hcl => ?_) (fun v f80 H locs hP hw hS => ?_)
              · exact hPX.elim
              · obtain ⟨ev9, hC81, k82⟩ := hP
                subst ev9
                have hC81 : CXW G f80 xo ez eo bu nw0 na0 nq0 nr0 nw1 na1 nq1 nr1 bs bp bh bf bl bg ((passF (1 + j56) (S0, S1, 0)).1) ((passF (1 + j56) (S0, S1, 0)).2.1) gw0 ga0 gw1 ga1 n a cg x sa pk fl gv gh gl := hC81
                refine W.eq (g2 := F0 m 695 ls [.int ((passF (1 + j56) (S0, S1, 0)).2.2)]) rfl ?_
                refine lv_iload hx hb dL_links_695 (lv_at hl9 0 rfl) ?_
                refine lv_icmp_ne (tgt := 704) hx hb dL_links_697 (by decide) (fun c9 => absurd rfl c9) (fun _ => ?_)
                refine lv_iconst (v := 1) hx hb dL_links_700 (by decide) ?_
                refine lv_goto (tgt := 705) hx hb dL_links_701 (by decide) ?_
                have h83 : f71 lx = some (.inl (cJ G, 64, .inr (.inl xs59))) := k73 _ _ h60 (Nat.ne_of_beq_eq_false rfl) (hdos _ List.mem_cons_self)
                have h84 : f74 lx = some (.inl (cJ G, 64, .inr (.inl xs59))) := k76 _ _ h83 (Nat.ne_of_beq_eq_false rfl) (hdos _ List.mem_cons_self)
                have h85 : f77 lx = some (.inl (cJ G, 64, .inr (.inl xs59))) := k79 _ _ h84 (Nat.ne_of_beq_eq_false rfl) (hdos _ List.mem_cons_self)
                have h86 : f80 lx = some (.inl (cJ G, 64, .inr (.inl xs59))) := k82 _ _ h85 (Nat.ne_of_beq_eq_false rfl) (hdos _ List.mem_cons_self)
                have h87 : f71 ly = some (.inl (cJ G, 64, .inr (.inl ys62))) := k73 _ _ h63 (Nat.ne_of_beq_eq_false rfl) (hdos _ (List.mem_cons_of_mem _ List.mem_cons_self))
                have h88 : f74 ly = some (.inl (cJ G, 64, .inr (.inl ys62))) := k76 _ _ h87 (Nat.ne_of_beq_eq_false rfl) (hdos _ (List.mem_cons_of_mem _ List.mem_cons_self))
                have h89 : f77 ly = some (.inl (cJ G, 64, .inr (.inl ys62))) := k79 _ _ h88 (Nat.ne_of_beq_eq_false rfl) (hdos _ (List.mem_cons_of_mem _ List.mem_cons_self))
                have h90 : f80 ly = some (.inl (cJ G, 64, .inr (.inl ys62))) := k82 _ _ h89 (Nat.ne_of_beq_eq_false rfl) (hdos _ (List.mem_cons_of_mem _ List.mem_cons_self))
                have h91 : f71 lw = some (.inl (cI G, 12, .inl (j6 gw0 gw1))) := k73 _ _ h68 (Nat.ne_of_beq_eq_false rfl) (hdos _ (List.mem_cons_of_mem _ (List.mem_cons_of_mem _ List.mem_cons_self)))
                have h92 : f74 lw = some (.inl (cI G, 12, .inl (j6 gw0 gw1))) := k76 _ _ h91 (Nat.ne_of_beq_eq_false rfl) (hdos _ (List.mem_cons_of_mem _ (List.mem_cons_of_mem _ List.mem_cons_self)))
                have h93 : f77 lw = some (.inl (cI G, 12, .inl (j6 gw0 gw1))) := k79 _ _ h92 (Nat.ne_of_beq_eq_false rfl) (hdos _ (List.mem_cons_of_mem _ (List.mem_cons_of_mem _ List.mem_cons_self)))
                have h94 : f80 lw = some (.inl (cI G, 12, .inl (j6 gw0 gw1))) := k82 _ _ h93 (Nat.ne_of_beq_eq_false rfl) (hdos _ (List.mem_cons_of_mem _ (List.mem_cons_of_mem _ List.mem_cons_self)))
                have h95 : f71 la = some (.inl (cI G, 12, .inl (j6 ga0 ga1))) := k73 _ _ h69 (Nat.ne_of_beq_eq_false rfl) (hdos _ (List.mem_cons_of_mem _ (List.mem_cons_of_mem _ (List.mem_cons_of_mem _ List.mem_cons_self))))
                have h96 : f74 la = some (.inl (cI G, 12, .inl (j6 ga0 ga1))) := k76 _ _ h95 (Nat.ne_of_beq_eq_false rfl) (hdos _ (List.mem_cons_of_mem _ (List.mem_cons_of_mem _ (List.mem_cons_of_mem _ List.mem_cons_self))))
                have h97 : f77 la = some (.inl (cI G, 12, .inl (j6 ga0 ga1))) := k79 _ _ h96 (Nat.ne_of_beq_eq_false rfl) (hdos _ (List.mem_cons_of_mem _ (List.mem_cons_of_mem _ (List.mem_cons_of_mem _ List.mem_cons_self))))
                have h98 : f80 la = some (.inl (cI G, 12, .inl (j6 ga0 ga1))) := k82 _ _ h97 (Nat.ne_of_beq_eq_false rfl) (hdos _ (List.mem_cons_of_mem _ (List.mem_cons_of_mem _ (List.mem_cons_of_mem _ List.mem_cons_self))))
                have h99 : f71 lq = some (.inl (cI G, 12, .inl (j6 (passF (1 + j56) (S0, S1, 0)).1.2.2.2.2.2.2.2.1 (passF (1 + j56) (S0, S1, 0)).2.1.2.2.2.2.2.2.2.1))) := k73 _ _ h65 (Nat.ne_of_beq_eq_false rfl) (hdos _ (List.mem_cons_of_mem _ (List.mem_cons_of_mem _ (List.mem_cons_of_mem _ (List.mem_cons_of_mem _ List.mem_cons_self)))))
                have h100 : f74 lq = some (.inl (cI G, 12, .inl (j6 (passF (1 + j56) (S0, S1, 0)).1.2.2.2.2.2.2.2.1 (passF (1 + j56) (S0, S1, 0)).2.1.2.2.2.2.2.2.2.1))) := k76 _ _ h99 (Nat.ne_of_beq_eq_false rfl) (hdos _ (List.mem_cons_of_mem _ (List.mem_cons_of_mem _ (List.mem_cons_of_mem _ (List.mem_cons_of_mem _ List.mem_cons_self)))))
                have h101 : f77 lq = some (.inl (cI G, 12, .inl (j6 (passF (1 + j56) (S0, S1, 0)).1.2.2.2.2.2.2.2.1 (passF (1 + j56) (S0, S1, 0)).2.1.2.2.2.2.2.2.2.1))) := k79 _ _ h100 (Nat.ne_of_beq_eq_false rfl) (hdos _ (List.mem_cons_of_mem _ (List.mem_cons_of_mem _ (List.mem_cons_of_mem _ (List.mem_cons_of_mem _ List.mem_cons_self)))))
                have h102 : f80 lq = some (.inl (cI G, 12, .inl (j6 (passF (1 + j56) (S0, S1, 0)).1.2.2.2.2.2.2.2.1 (passF (1 + j56) (S0, S1, 0)).2.1.2.2.2.2.2.2.2.1))) := k82 _ _ h101 (Nat.ne_of_beq_eq_false rfl) (hdos _ (List.mem_cons_of_mem _ (List.mem_cons_of_mem _ (List.mem_cons_of_mem _ (List.mem_cons_of_mem _ List.mem_cons_self)))))
                have h103 : f71 le = some (.inl (cI G, 16, .inl (jE (eS (passF (1 + j56) (S0, S1, 0)).1) (eS (passF (1 + j56) (S0, S1, 0)).2.1)))) := k73 _ _ h66 (Nat.ne_of_beq_eq_false rfl) (hdos _ (List.mem_cons_of_mem _ (List.mem_cons_of_mem _ (List.mem_cons_of_mem _ (List.mem_cons_of_mem _ (List.mem_cons_of_mem _ List.mem_cons_self))))))
                have h104 : f74 le = some (.inl (cI G, 16, .inl (jE (eS (passF (1 + j56) (S0, S1, 0)).1) (eS (passF (1 + j56) (S0, S1, 0)).2.1)))) := k76 _ _ h103 (Nat.ne_of_beq_eq_false rfl) (hdos _ (List.mem_cons_of_mem _ (List.mem_cons_of_mem _ (List.mem_cons_of_mem _ (List.mem_cons_of_mem _ (List.mem_cons_of_mem _ List.mem_cons_self))))))
                have h105 : f77 le = some (.inl (cI G, 16, .inl (jE (eS (passF (1 + j56) (S0, S1, 0)).1) (eS (passF (1 + j56) (S0, S1, 0)).2.1)))) := k79 _ _ h104 (Nat.ne_of_beq_eq_false rfl) (hdos _ (List.mem_cons_of_mem _ (List.mem_cons_of_mem _ (List.mem_cons_of_mem _ (List.mem_cons_of_mem _ (List.mem_cons_of_mem _ List.mem_cons_self))))))
                have h106 : f80 le = some (.inl (cI G, 16, .inl (jE (eS (passF (1 + j56) (S0, S1, 0)).1) (eS (passF (1 + j56) (S0, S1, 0)).2.1)))) := k82 _ _ h105 (Nat.ne_of_beq_eq_false rfl) (hdos _ (List.mem_cons_of_mem _ (List.mem_cons_of_mem _ (List.mem_cons_of_mem _ (List.mem_cons_of_mem _ (List.mem_cons_of_mem _ List.mem_cons_self))))))
                exact hp_zret (v := 1) B0 hw hS hr ⟨Nat.le_of_ble_eq_true rfl, Nat.le_of_ble_eq_true rfl⟩ (rfl) dL_links_705 (⟨rfl, (passF (1 + j56) (S0, S1, 0)).1, (passF (1 + j56) (S0, S1, 0)).2.1, gw0, ga0, gw1, ga1, hC81, ⟨⟨_, h86, hX61⟩, ⟨_, h90, hY64⟩, h94, h98, h102, h106⟩, ⟨SOK.mono (passF_ok (1 + j56) b (S0, S1, 0) hSo0 hSo1 (by omega)).1 (by omega), SOK.mono (passF_ok (1 + j56) b (S0, S1, 0) hSo0 hSo1 (by omega)).2 (by omega), hgw0, hga0, hgw1, hga1⟩, (Nat.le_trans (pot_len _) (Nat.le_trans (passF_pot (1 + j56) b (S0, S1, 0) hSo0 hSo1 (by omega)).1 (by have h9 := hpo0; show pot S0 ≤ 52; omega))), (Nat.le_trans (pot_len _) (Nat.le_trans (passF_pot (1 + j56) b (S0, S1, 0) hSo0 hSo1 (by omega)).2 (by have h9 := hpo1; show pot S1 ≤ 52; omega))), ((show hKn [lx, ly, lw, la, lq, le, xo, ez, eo, bu, nw0, na0, nq0, nr0, nw1, na1, nq1, nr1, bs, bp, bh, bf, bl, bg] f f58 from (hKn.mono (hKn.eq k67) (sub_cons List.mem_cons_self (sub_cons (List.mem_cons_of_mem _ List.mem_cons_self) (sub_cons (List.mem_cons_of_mem _ (List.mem_cons_of_mem _ (List.mem_cons_of_mem _ (List.mem_cons_of_mem _ (List.mem_cons_of_mem _ List.mem_cons_self))))) sub_nil))))).tr ((show hKn [lx, ly, lw, la, lq, le, xo, ez, eo, bu, nw0, na0, nq0, nr0, nw1, na1, nq1, nr1, bs, bp, bh, bf, bl, bg] f58 f71 from (hKn.mono k73 sbA)).tr ((show hKn [lx, ly, lw, la, lq, le, xo, ez, eo, bu, nw0, na0, nq0, nr0, nw1, na1, nq1, nr1, bs, bp, bh, bf, bl, bg] f71 f74 from (hKn.mono k76 sbA)).tr ((show hKn [lx, ly, lw, la, lq, le, xo, ez, eo, bu, nw0, na0, nq0, nr0, nw1, na1, nq1, nr1, bs, bp, bh, bf, bl, bg] f74 f77 from (hKn.mono k79 sbA)).tr (show hKn [lx, ly, lw, la, lq, le, xo, ez, eo, bu, nw0, na0, nq0, nr0, nw1, na1, nq1, nr1, bs, bp, bh, bf, bl, bg] f77 f80 from (hKn.mono k82 sbA))))))⟩)

set_option maxHeartbeats 4000000 in
set_option maxRecDepth 100000 in
theorem lk_p_1 {l : Launch} (hl : l.stackTraces = false) (G : hG) (f : hM) (xo ez eo bu nw0 na0 nq0 nr0 nw1 na1 nq1 nr1 bs bp bh bf bl bg : Nat) (S0 : ES) (S1 : ES) (gw0 : Nat → Int32) (ga0 : Nat → Int32) (gw1 : Nat → Int32) (ga1 : Nat → Int32) (n : Nat) (a : Nat) (cg : Nat) (x : Nat) (sa : Nat → Nat) (pk : Nat → Nat) (fl : Nat → Nat) (gv : Nat → Nat) (gh : Nat → Int32) (gl : Nat → Int32) (hC : CXW G f xo ez eo bu nw0 na0 nq0 nr0 nw1 na1 nq1 nr1 bs bp bh bf bl bg S0 S1 gw0 ga0 gw1 ga1 n a cg x sa pk fl gv gh gl) (lx ly lw la lq le : Nat) (hdis : ∀ p, p ∈ [xo, ez, eo, bu, nw0, na0, nq0, nr0, nw1, na1, nq1, nr1, bs, bp, bh, bf, bl, bg] → p ∉ [lx, ly, lw, la, lq, le]) (hdos : ∀ p, p ∈ [lx, ly, lw, la, lq, le] → p ∉ [xo, ez, eo, bu, nw0, na0, nq0, nr0, nw1, na1, nq1, nr1, bs, bp, bh, bf, bl, bg]) (n_lx_ly : lx ≠ ly) (n_lw_la : lw ≠ la) (n_lw_lq : lw ≠ lq) (n_la_lq : la ≠ lq) (hLX : LX G f lx ly lw la lq le S0 S1 gw0 ga0 gw1 ga1) (b : Nat) (hInv : INV b S0 S1 gw0 ga0 gw1 ga1) (hbb : b + 200 ≤ 1000000) (hl0 : S0.2.2.2.2.2.2.2.2.length ≤ 52) (hl1 : S1.2.2.2.2.2.2.2.2.length ≤ 52) (ac : Nat) (hac : ac < 24) (hact : ac ≠ 22 → S0.2.2.2.2.2.2.2.2.length ≤ 40 ∧ S1.2.2.2.2.2.2.2.2.length ≤ 40) (u z : Int32) {p : Program} {e : Env} {s : State} {m : MethodId} {args : Array Value} {below : List Frame} {meth : Method} {c : Code} (B0 : hB p l s m args meth c cL_links 17 RL G) (hr : meth.sig.returnType = some .boolean) {H : Heap} {locs : List Loc} {ls : Array Slot} (hw : hW G f H) (hS : va_S (hFr G) s.heap H locs) (j13 : Nat) (hj13 : j13 < 6) (hc : ¬ 14 ≤ nI ac) (hl9 : lv_has ls 17 [(13, .int (nI j13)), (12, .ref ly), (11, .int 8), (10, .int 1), (0, .ref xo), (1, .int (nI ac)), (2, .int u), (3, .int z), (4, .ref lx), (5, .ref ly), (6, .ref lw), (7, .ref la), (8, .ref lq), (9, .ref le)]) : W p l e { frames := 9, cells := 203, slots := 1118, locals := 178 } s m args below meth c H locs 0 0 (vx_MQ below (hQ G (fun v f1 => v = some (.int 1) ∧ ∃ (S2 S3 : ES) (w0 a0 w1 a1 : Nat → Int32), CXW G f1 xo ez eo bu nw0 na0 nq0 nr0 nw1 na1 nq1 nr1 bs bp bh bf bl bg S2 S3 w0 a0 w1 a1 n a cg x sa pk fl gv gh gl ∧ LX G f1 lx ly lw la lq le S2 S3 w0 a0 w1 a1 ∧ INV (b + 100) S2 S3 w0 a0 w1 a1 ∧ S2.2.2.2.2.2.2.2.2.length ≤ 52 ∧ S3.2.2.2.2.2.2.2.2.length ≤ 52 ∧ hKn [lx, ly, lw, la, lq, le, xo, ez, eo, bu, nw0, na0, nq0, nr0, nw1, na1, nq1, nr1, bs, bp, bh, bf, bl, bg] f f1)) (hX G (fun E f1 => False)) args s 203 1118 (hFr G)) (F0 m 621 ls []) := by
  have hx := B0.1
  have hb := B0.2.1
  obtain ⟨⟨xs0, k_lx, hX0⟩, ⟨xs1, k_ly, hX1⟩, k_lw, k_la, k_lq, k_le⟩ := hLX
  obtain ⟨hSo0, hSo1, hgw0, hga0, hgw1, hga1⟩ := id hInv
  have n_lx_lw : lx ≠ lw := hneL k_lx k_lw (Nat.ne_of_beq_eq_false rfl)
  have n_lx_la : lx ≠ la := hneL k_lx k_la (Nat.ne_of_beq_eq_false rfl)
  have n_lx_lq : lx ≠ lq := hneL k_lx k_lq (Nat.ne_of_beq_eq_false rfl)
  have n_lx_le : lx ≠ le := hneL k_lx k_le (Nat.ne_of_beq_eq_false rfl)
  have n_ly_lw : ly ≠ lw := hneL k_ly k_lw (Nat.ne_of_beq_eq_false rfl)
  have n_ly_la : ly ≠ la := hneL k_ly k_la (Nat.ne_of_beq_eq_false rfl)
  have n_ly_lq : ly ≠ lq := hneL k_ly k_lq (Nat.ne_of_beq_eq_false rfl)
  have n_ly_le : ly ≠ le := hneL k_ly k_le (Nat.ne_of_beq_eq_false rfl)
  have n_lw_le : lw ≠ le := hneL k_lw k_le (Nat.ne_of_beq_eq_false rfl)
  have n_la_le : la ≠ le := hneL k_la k_le (Nat.ne_of_beq_eq_false rfl)
  have n_lq_le : lq ≠ le := hneL k_lq k_le (Nat.ne_of_beq_eq_false rfl)
  have sbA : ∀ x9, x9 ∈ [xo, ez, eo, bu, nw0, na0, nq0, nr0, nw1, na1, nq1, nr1, bs, bp, bh, bf, bl, bg] → x9 ∈ [lx, ly, lw, la, lq, le, xo, ez, eo, bu, nw0, na0, nq0, nr0, nw1, na1, nq1, nr1, bs, bp, bh, bf, bl, bg] := sbA
  obtain ⟨xx, hxx, hx4⟩ := hSo1.2.2.2.2.1
  have h1 : f le = some (.inl (cI G, 16, .inl (jE (eS S0) (e8 S1.1 S1.2.1 S1.2.2.1 S1.2.2.2.1 S1.2.2.2.2.1 S1.2.2.2.2.2.1 S1.2.2.2.2.2.2.1 (nI S1.2.2.2.2.2.2.2.2.length))))) := k_le
  obtain ⟨h40a, h40b⟩ := hact (fun e9 => by subst e9; exact absurd (by decide) hc)
  refine lv_iconst (v := 1) hx hb dL_links_621 (by decide) ?_
  refine lv_iload_n hx hb dL_links_622 rfl (lv_at hl9 7 rfl) ?_
  refine lv_iload_n hx hb dL_links_623 rfl (lv_at hl9 6 rfl) ?_
  refine lv_bipush (v := 48) hx hb dL_links_624 (by decide) ?_
  refine lv_iand hx hb dL_links_626 ?_
  refine lv_if_ne (tgt := 635) hx hb dL_links_627 (by decide) (fun c2 => ?_) (fun c2 => ?_)
  · refine lv_iconst (v := 5) hx hb dL_links_635 (by decide) ?_
    refine hp_S (As := [.int z, .int 5]) (rest := [.int 1]) B0 hw hS (c_L_low hl G f z 5 (by omega) (by omega)) mS_L_low qM_L_94 rfl rfl hl9.1 (Nat.le_of_ble_eq_true rfl) ⟨⟨Nat.le_of_ble_eq_true rfl, Nat.le_of_ble_eq_true rfl⟩, Nat.le_of_ble_eq_true rfl, Nat.le_of_ble_eq_true rfl⟩ dL_links_636 (fun E ce q9 f3 H locs hPX hw hS hce hcv hcl => ?_) (fun v f3 H locs hP hw hS => ?_)
    · exact hPX.elim
    · obtain ⟨ef9, j4, hj5, ev9⟩ := hP
      rw [ef9] at hw
      subst ev9
      refine W.eq (g2 := F0 m 639 ls [.int (nI j4), .int 1]) rfl ?_
      refine lv_iadd hx hb dL_links_639 ?_
      refine hp_c (v := (nI (1 + j4))) (nI_add 1 j4) ?_
      refine lv_istore (lv' := [(14, .int (nI (1 + j4))), (13, .int (nI j13)), (12, .ref ly), (11, .int 8), (10, .int 1), (0, .ref xo), (1, .int (nI ac)), (2, .int u), (3, .int z), (4, .ref lx), (5, .ref ly), (6, .ref lw), (7, .ref la), (8, .ref lq), (9, .ref le)]) hx hb dL_links_640 hl9 (by decide) rfl (fun ls hl9 => ?_)
      refine lv_iload hx hb dL_links_642 (lv_at hl9 0 rfl) ?_
      refine lv_aload hx hb dL_links_644 (lv_at hl9 9 rfl) ?_
      refine lv_aload hx hb dL_links_646 (lv_at hl9 10 rfl) ?_
      refine lv_aload hx hb dL_links_648 (lv_at hl9 13 rfl) ?_
      refine lv_aload hx hb dL_links_650 (lv_at hl9 14 rfl) ?_
      have hpo0 : pot S0 ≤ S0.2.2.2.2.2.2.2.2.length + 10 := Nat.add_le_add_left (Nat.sub_le _ _) _
      have hpo1 : pot S1 ≤ S1.2.2.2.2.2.2.2.2.length + 10 := Nat.add_le_add_left (Nat.sub_le _ _) _
      refine hp_S (As := [.int (nI (1 + j4)), .ref lx, .ref ly, .ref lq, .ref le]) (rest := []) B0 hw hS (c_L_goBy hl G f lx ly lq le S0 S1 b hSo0 hSo1 (by omega) (by have := hpo0; omega) (by have := hpo1; omega) (1 + j4) (by omega) (by omega) n_lx_ly xs0 xs1 hX0 hX1 k_lx k_ly k_lq h1) mS_L_goBy qM_L_111 rfl rfl hl9.1 (Nat.le_of_ble_eq_true rfl) ⟨⟨Nat.le_of_ble_eq_true rfl, Nat.le_of_ble_eq_true rfl⟩, Nat.le_of_ble_eq_true rfl, Nat.le_of_ble_eq_true rfl⟩ dL_links_652 (fun E ce q9 f6 H locs hPX hw hS hce hcv hcl => ?_) (fun v f6 H locs hP hw hS => ?_)
      · exact hPX.elim
      · obtain ⟨ev9, ⟨xs7, h8, hX9⟩, ⟨ys10, h11, hY12⟩, h13, h14, k15⟩ := hP
        subst ev9
        refine W.eq (g2 := F0 m 655 ls [.int ((passF (1 + j4) (S0, S1, 0)).2.2)]) rfl ?_
        refine lv_istore (lv' := [(15, .int ((passF (1 + j4) (S0, S1, 0)).2.2)), (14, .int (nI (1 + j4))), (13, .int (nI j13)), (12, .ref ly), (11, .int 8), (10, .int 1), (0, .ref xo), (1, .int (nI ac)), (2, .int u), (3, .int z), (4, .ref lx), (5, .ref ly), (6, .ref lw), (7, .ref la), (8, .ref lq), (9, .ref le)]) hx hb dL_links_655 hl9 (by decide) rfl (fun ls hl9 => ?_)
        refine lv_aload_n hx hb dL_links_657 rfl (lv_at hl9 6 rfl) ?_
        refine lv_iconst (v := 0) hx hb dL_links_658 (by decide) ?_
        have h16 : f6 lw = some (.inl (cI G, 12, .inl (j6 gw0 gw1))) := (hEq.k k15) _ _ k_lw (ninc (Ne.symm n_lx_lw) (ninc (Ne.symm n_ly_lw) (ninc n_lw_le nin0)))
        have h17 : f6 la = some (.inl (cI G, 12, .inl (j6 ga0 ga1))) := (hEq.k k15) _ _ k_la (ninc (Ne.symm n_lx_la) (ninc (Ne.symm n_ly_la) (ninc n_la_le nin0)))
        have hC18 : CXW G f6 xo ez eo bu nw0 na0 nq0 nr0 nw1 na1 nq1 nr1 bs bp bh bf bl bg S0 S1 gw0 ga0 gw1 ga1 n a cg x sa pk fl gv gh gl := CXW.eq hC (show hEq [lx, ly, lw, la, lq, le] f f6 from (hEq.mono k15 (sub_cons List.mem_cons_self (sub_cons (List.mem_cons_of_mem _ List.mem_cons_self) (sub_cons (List.mem_cons_of_mem _ (List.mem_cons_of_mem _ (List.mem_cons_of_mem _ (List.mem_cons_of_mem _ (List.mem_cons_of_mem _ List.mem_cons_self))))) sub_nil))))) hdis (fun b9 hb9 => by
            simp only [List.mem_cons, List.not_mem_nil, or_false] at hb9
            rcases hb9 with hb9 | hb9 | hb9 | hb9 | hb9 | hb9
            · rw [hb9]; exact ⟨_, _, k_lx, h8, (Nat.ne_of_beq_eq_false rfl), (Nat.ne_of_beq_eq_false rfl)⟩
            · rw [hb9]; exact ⟨_, _, k_ly, h11, (Nat.ne_of_beq_eq_false rfl), (Nat.ne_of_beq_eq_false rfl)⟩
            · rw [hb9]; exact ⟨_, _, k_lw, h16, (Nat.ne_of_beq_eq_false rfl), (Nat.ne_of_beq_eq_false rfl)⟩
            · rw [hb9]; exact ⟨_, _, k_la, h17, (Nat.ne_of_beq_eq_false rfl), (Nat.ne_of_beq_eq_false rfl)⟩
            · rw [hb9]; exact ⟨_, _, k_lq, h13, (Nat.ne_of_beq_eq_false rfl), (Nat.ne_of_beq_eq_false rfl)⟩
            · rw [hb9]; exact ⟨_, _, h1, h14, (Nat.ne_of_beq_eq_false rfl), (Nat.ne_of_beq_eq_false rfl)⟩)
        refine hp_SH (As := [.ref xo, .int 0]) (rest := []) B0 hw hS (c_V_pass_A hl G f6 xo ez eo bu nw0 na0 nq0 nr0 nw1 na1 nq1 nr1 bs bp bh bf bl bg S0 S1 gw0 ga0 gw1 ga1 n a cg x sa pk fl gv gh gl hC18 (Nat.lt_of_le_of_lt hl0 (by decide)) (Nat.lt_of_le_of_lt hl1 (by decide)) 0 (by decide)) mH_L_pass qM_L_115 rfl rfl hl9.1 (Nat.le_of_ble_eq_true rfl) ⟨⟨Nat.le_of_ble_eq_true rfl, Nat.le_of_ble_eq_true rfl⟩, Nat.le_of_ble_eq_true rfl, Nat.le_of_ble_eq_true rfl⟩ dL_links_659 (fun E ce q9 f19 H locs hPX hw hS hce hcv hcl => ?_) (fun v f19 H locs hP hw hS => ?_)
        · exact hPX.elim
        · obtain ⟨ev9, hC20, k21⟩ := hP
          subst ev9
          have hC20 : CXW G f19 xo ez eo bu nw0 na0 nq0 nr0 nw1 na1 nq1 nr1 bs bp bh bf bl bg S0 S1 gw0 ga0 gw1 ga1 n a cg x sa pk fl gv gh gl := hC20
          refine W.eq (g2 := F0 m 662 ls [.int (-72)]) rfl ?_
          refine lv_bipush (v := (-72)) hx hb dL_links_662 (by decide) ?_
          refine lv_icmp_ne (tgt := 704) hx hb dL_links_664 (by decide) (fun c9 => absurd (by decide) c9) (fun _ => ?_)
          refine lv_aload_n hx hb dL_links_667 rfl (lv_at hl9 6 rfl) ?_
          refine lv_bipush (v := 51) hx hb dL_links_668 (by decide) ?_
          refine hp_SH (As := [.ref xo, .int 51]) (rest := []) B0 hw hS (c_V_pass_A hl G f19 xo ez eo bu nw0 na0 nq0 nr0 nw1 na1 nq1 nr1 bs bp bh bf bl bg S0 S1 gw0 ga0 gw1 ga1 n a cg x sa pk fl gv gh gl hC20 (Nat.lt_of_le_of_lt hl0 (by decide)) (Nat.lt_of_le_of_lt hl1 (by decide)) 51 (by decide)) mH_L_pass qM_L_115 rfl rfl hl9.1 (Nat.le_of_ble_eq_true rfl) ⟨⟨Nat.le_of_ble_eq_true rfl, Nat.le_of_ble_eq_true rfl⟩, Nat.le_of_ble_eq_true rfl, Nat.le_of_ble_eq_true rfl⟩ dL_links_670 (fun E ce q9 f22 H locs hPX hw hS hce hcv hcl => ?_) (fun v f22 H locs hP hw hS => ?_)
          · exact hPX.elim
          · obtain ⟨ev9, hC23, k24⟩ := hP
            subst ev9
            have hC23 : CXW G f22 xo ez eo bu nw0 na0 nq0 nr0 nw1 na1 nq1 nr1 bs bp bh bf bl bg S0 S1 gw0 ga0 gw1 ga1 n a cg x sa pk fl gv gh gl := hC23
            refine W.eq (g2 := F0 m 673 ls [.int (-72)]) rfl ?_
            refine lv_bipush (v := (-72)) hx hb dL_links_673 (by decide) ?_
            refine lv_icmp_ne (tgt := 704) hx hb dL_links_675 (by decide) (fun c9 => absurd (by decide) c9) (fun _ => ?_)
            refine lv_aload_n hx hb dL_links_678 rfl (lv_at hl9 6 rfl) ?_
            refine lv_ldc (v := (-2147483648)) hx hb B0.2.2.2.1 (B0.2.2.2.2.1 _ qK_L_67) dL_links_679 ?_
            refine hp_SH (As := [.ref xo, .int (-2147483648)]) (rest := []) B0 hw hS (c_V_pass_A hl G f22 xo ez eo bu nw0 na0 nq0 nr0 nw1 na1 nq1 nr1 bs bp bh bf bl bg S0 S1 gw0 ga0 gw1 ga1 n a cg x sa pk fl gv gh gl hC23 (Nat.lt_of_le_of_lt hl0 (by decide)) (Nat.lt_of_le_of_lt hl1 (by decide)) (-2147483648) (by decide)) mH_L_pass qM_L_115 rfl rfl hl9.1 (Nat.le_of_ble_eq_true rfl) ⟨⟨Nat.le_of_ble_eq_true rfl, Nat.le_of_ble_eq_true rfl⟩, Nat.le_of_ble_eq_true rfl, Nat.le_of_ble_eq_true rfl⟩ dL_links_681 (fun E ce q9 f25 H locs hPX hw hS hce hcv hcl => ?_) (fun v f25 H locs hP hw hS => ?_)
            · exact hPX.elim
            · obtain ⟨ev9, hC26, k27⟩ := hP
              subst ev9
              have hC26 : CXW G f25 xo ez eo bu nw0 na0 nq0 nr0 nw1 na1 nq1 nr1 bs bp bh bf bl bg S0 S1 gw0 ga0 gw1 ga1 n a cg x sa pk fl gv gh gl := hC26
              refine W.eq (g2 := F0 m 684 ls [.int (-72)]) rfl ?_
              refine lv_bipush (v := (-72)) hx hb dL_links_684 (by decide) ?_
              refine lv_icmp_ne (tgt := 704) hx hb dL_links_686 (by decide) (fun c9 => absurd (by decide) c9) (fun _ => ?_)
              refine lv_aload_n hx hb dL_links_689 rfl (lv_at hl9 6 rfl) ?_
              refine lv_iload hx hb dL_links_690 (lv_at hl9 1 rfl) ?_
              refine hp_SH (As := [.ref xo, .int (nI (1 + j4))]) (rest := []) B0 hw hS (c_V_pass_ok hl G f25 xo ez eo bu nw0 na0 nq0 nr0 nw1 na1 nq1 nr1 bs bp bh bf bl bg S0 S1 gw0 ga0 gw1 ga1 n a cg x sa pk fl gv gh gl hC26 (Nat.lt_of_le_of_lt hl0 (by decide)) (Nat.lt_of_le_of_lt hl1 (by decide)) (1 + j4) (by omega) (by omega)) mH_L_pass qM_L_115 rfl rfl hl9.1 (Nat.le_of_ble_eq_true rfl) ⟨⟨Nat.le_of_ble_eq_true rfl, Nat.le_of_ble_eq_true rfl⟩, Nat.le_of_ble_eq_true rfl, Nat.le_of_ble_eq_true rfl⟩ dL_links_692 (fun E ce q9 f28 H locs hPX hw hS hce hcv hcl => ?_) (fun v f28 H locs hP hw hS => ?_)
              · exact hPX.elim
              · obtain ⟨ev9, hC29, k30⟩ := hP
                subst ev9
                have hC29 : CXW G f28 xo ez eo bu nw0 na0 nq0 nr0 nw1 na1 nq1 nr1 bs bp bh bf bl bg ((passF (1 + j4) (S0, S1, 0)).1) ((passF (1 + j4) (S0, S1, 0)).2.1) gw0 ga0 gw1 ga1 n a cg x sa pk fl gv gh gl := hC29
                refine W.eq (g2 := F0 m 695 ls [.int ((passF (1 + j4) (S0, S1, 0)).2.2)]) rfl ?_
                refine lv_iload hx hb dL_links_695 (lv_at hl9 0 rfl) ?_
                refine lv_icmp_ne (tgt := 704) hx hb dL_links_697 (by decide) (fun c9 => absurd rfl c9) (fun _ => ?_)
                refine lv_iconst (v := 1) hx hb dL_links_700 (by decide) ?_
                refine lv_goto (tgt := 705) hx hb dL_links_701 (by decide) ?_
                have h31 : f19 lx = some (.inl (cJ G, 64, .inr (.inl xs7))) := k21 _ _ h8 (Nat.ne_of_beq_eq_false rfl) (hdos _ List.mem_cons_self)
                have h32 : f22 lx = some (.inl (cJ G, 64, .inr (.inl xs7))) := k24 _ _ h31 (Nat.ne_of_beq_eq_false rfl) (hdos _ List.mem_cons_self)
                have h33 : f25 lx = some (.inl (cJ G, 64, .inr (.inl xs7))) := k27 _ _ h32 (Nat.ne_of_beq_eq_false rfl) (hdos _ List.mem_cons_self)
                have h34 : f28 lx = some (.inl (cJ G, 64, .inr (.inl xs7))) := k30 _ _ h33 (Nat.ne_of_beq_eq_false rfl) (hdos _ List.mem_cons_self)
                have h35 : f19 ly = some (.inl (cJ G, 64, .inr (.inl ys10))) := k21 _ _ h11 (Nat.ne_of_beq_eq_false rfl) (hdos _ (List.mem_cons_of_mem _ List.mem_cons_self))
                have h36 : f22 ly = some (.inl (cJ G, 64, .inr (.inl ys10))) := k24 _ _ h35 (Nat.ne_of_beq_eq_false rfl) (hdos _ (List.mem_cons_of_mem _ List.mem_cons_self))
                have h37 : f25 ly = some (.inl (cJ G, 64, .inr (.inl ys10))) := k27 _ _ h36 (Nat.ne_of_beq_eq_false rfl) (hdos _ (List.mem_cons_of_mem _ List.mem_cons_self))
                have h38 : f28 ly = some (.inl (cJ G, 64, .inr (.inl ys10))) := k30 _ _ h37 (Nat.ne_of_beq_eq_false rfl) (hdos _ (List.mem_cons_of_mem _ List.mem_cons_self))
                have h39 : f19 lw = some (.inl (cI G, 12, .inl (j6 gw0 gw1))) := k21 _ _ h16 (Nat.ne_of_beq_eq_false rfl) (hdos _ (List.mem_cons_of_mem _ (List.mem_cons_of_mem _ List.mem_cons_self)))
                have h40 : f22 lw = some (.inl (cI G, 12, .inl (j6 gw0 gw1))) := k24 _ _ h39 (Nat.ne_of_beq_eq_false rfl) (hdos _ (List.mem_cons_of_mem _ (List.mem_cons_of_mem _ List.mem_cons_self)))
                have h41 : f25 lw = some (.inl (cI G, 12, .inl (j6 gw0 gw1))) := k27 _ _ h40 (Nat.ne_of_beq_eq_false rfl) (hdos _ (List.mem_cons_of_mem _ (List.mem_cons_of_mem _ List.mem_cons_self)))
                have h42 : f28 lw = some (.inl (cI G, 12, .inl (j6 gw0 gw1))) := k30 _ _ h41 (Nat.ne_of_beq_eq_false rfl) (hdos _ (List.mem_cons_of_mem _ (List.mem_cons_of_mem _ List.mem_cons_self)))
                have h43 : f19 la = some (.inl (cI G, 12, .inl (j6 ga0 ga1))) := k21 _ _ h17 (Nat.ne_of_beq_eq_false rfl) (hdos _ (List.mem_cons_of_mem _ (List.mem_cons_of_mem _ (List.mem_cons_of_mem _ List.mem_cons_self))))
                have h44 : f22 la = some (.inl (cI G, 12, .inl (j6 ga0 ga1))) := k24 _ _ h43 (Nat.ne_of_beq_eq_false rfl) (hdos _ (List.mem_cons_of_mem _ (List.mem_cons_of_mem _ (List.mem_cons_of_mem _ List.mem_cons_self))))
                have h45 : f25 la = some (.inl (cI G, 12, .inl (j6 ga0 ga1))) := k27 _ _ h44 (Nat.ne_of_beq_eq_false rfl) (hdos _ (List.mem_cons_of_mem _ (List.mem_cons_of_mem _ (List.mem_cons_of_mem _ List.mem_cons_self))))
                have h46 : f28 la = some (.inl (cI G, 12, .inl (j6 ga0 ga1))) := k30 _ _ h45 (Nat.ne_of_beq_eq_false rfl) (hdos _ (List.mem_cons_of_mem _ (List.mem_cons_of_mem _ (List.mem_cons_of_mem _ List.mem_cons_self))))
                have h47 : f19 lq = some (.inl (cI G, 12, .inl (j6 (passF (1 + j4) (S0, S1, 0)).1.2.2.2.2.2.2.2.1 (passF (1 + j4) (S0, S1, 0)).2.1.2.2.2.2.2.2.2.1))) := k21 _ _ h13 (Nat.ne_of_beq_eq_false rfl) (hdos _ (List.mem_cons_of_mem _ (List.mem_cons_of_mem _ (List.mem_cons_of_mem _ (List.mem_cons_of_mem _ List.mem_cons_self)))))
                have h48 : f22 lq = some (.inl (cI G, 12, .inl (j6 (passF (1 + j4) (S0, S1, 0)).1.2.2.2.2.2.2.2.1 (passF (1 + j4) (S0, S1, 0)).2.1.2.2.2.2.2.2.2.1))) := k24 _ _ h47 (Nat.ne_of_beq_eq_false rfl) (hdos _ (List.mem_cons_of_mem _ (List.mem_cons_of_mem _ (List.mem_cons_of_mem _ (List.mem_cons_of_mem _ List.mem_cons_self)))))
                have h49 : f25 lq = some (.inl (cI G, 12, .inl (j6 (passF (1 + j4) (S0, S1, 0)).1.2.2.2.2.2.2.2.1 (passF (1 + j4) (S0, S1, 0)).2.1.2.2.2.2.2.2.2.1))) := k27 _ _ h48 (Nat.ne_of_beq_eq_false rfl) (hdos _ (List.mem_cons_of_mem _ (List.mem_cons_of_mem _ (List.mem_cons_of_mem _ (List.mem_cons_of_mem _ List.mem_cons_self)))))
                have h50 : f28 lq = some (.inl (cI G, 12, .inl (j6 (passF (1 + j4) (S0, S1, 0)).1.2.2.2.2.2.2.2.1 (passF (1 + j4) (S0, S1, 0)).2.1.2.2.2.2.2.2.2.1))) := k30 _ _ h49 (Nat.ne_of_beq_eq_false rfl) (hdos _ (List.mem_cons_of_mem _ (List.mem_cons_of_mem _ (List.mem_cons_of_mem _ (List.mem_cons_of_mem _ List.mem_cons_self)))))
                have h51 : f19 le = some (.inl (cI G, 16, .inl (jE (eS (passF (1 + j4) (S0, S1, 0)).1) (eS (passF (1 + j4) (S0, S1, 0)).2.1)))) := k21 _ _ h14 (Nat.ne_of_beq_eq_false rfl) (hdos _ (List.mem_cons_of_mem _ (List.mem_cons_of_mem _ (List.mem_cons_of_mem _ (List.mem_cons_of_mem _ (List.mem_cons_of_mem _ List.mem_cons_self))))))
                have h52 : f22 le = some (.inl (cI G, 16, .inl (jE (eS (passF (1 + j4) (S0, S1, 0)).1) (eS (passF (1 + j4) (S0, S1, 0)).2.1)))) := k24 _ _ h51 (Nat.ne_of_beq_eq_false rfl) (hdos _ (List.mem_cons_of_mem _ (List.mem_cons_of_mem _ (List.mem_cons_of_mem _ (List.mem_cons_of_mem _ (List.mem_cons_of_mem _ List.mem_cons_self))))))
                have h53 : f25 le = some (.inl (cI G, 16, .inl (jE (eS (passF (1 + j4) (S0, S1, 0)).1) (eS (passF (1 + j4) (S0, S1, 0)).2.1)))) := k27 _ _ h52 (Nat.ne_of_beq_eq_false rfl) (hdos _ (List.mem_cons_of_mem _ (List.mem_cons_of_mem _ (List.mem_cons_of_mem _ (List.mem_cons_of_mem _ (List.mem_cons_of_mem _ List.mem_cons_self))))))
                have h54 : f28 le = some (.inl (cI G, 16, .inl (jE (eS (passF (1 + j4) (S0, S1, 0)).1) (eS (passF (1 + j4) (S0, S1, 0)).2.1)))) := k30 _ _ h53 (Nat.ne_of_beq_eq_false rfl) (hdos _ (List.mem_cons_of_mem _ (List.mem_cons_of_mem _ (List.mem_cons_of_mem _ (List.mem_cons_of_mem _ (List.mem_cons_of_mem _ List.mem_cons_self))))))
                exact hp_zret (v := 1) B0 hw hS hr ⟨Nat.le_of_ble_eq_true rfl, Nat.le_of_ble_eq_true rfl⟩ (rfl) dL_links_705 (⟨rfl, (passF (1 + j4) (S0, S1, 0)).1, (passF (1 + j4) (S0, S1, 0)).2.1, gw0, ga0, gw1, ga1, hC29, ⟨⟨_, h34, hX9⟩, ⟨_, h38, hY12⟩, h42, h46, h50, h54⟩, ⟨SOK.mono (passF_ok (1 + j4) b (S0, S1, 0) hSo0 hSo1 (by omega)).1 (by omega), SOK.mono (passF_ok (1 + j4) b (S0, S1, 0) hSo0 hSo1 (by omega)).2 (by omega), hgw0, hga0, hgw1, hga1⟩, (Nat.le_trans (pot_len _) (Nat.le_trans (passF_pot (1 + j4) b (S0, S1, 0) hSo0 hSo1 (by omega)).1 (by have h9 := hpo0; show pot S0 ≤ 52; omega))), (Nat.le_trans (pot_len _) (Nat.le_trans (passF_pot (1 + j4) b (S0, S1, 0) hSo0 hSo1 (by omega)).2 (by have h9 := hpo1; show pot S1 ≤ 52; omega))), ((show hKn [lx, ly, lw, la, lq, le, xo, ez, eo, bu, nw0, na0, nq0, nr0, nw1, na1, nq1, nr1, bs, bp, bh, bf, bl, bg] f f6 from (hKn.mono (hKn.eq k15) (sub_cons List.mem_cons_self (sub_cons (List.mem_cons_of_mem _ List.mem_cons_self) (sub_cons (List.mem_cons_of_mem _ (List.mem_cons_of_mem _ (List.mem_cons_of_mem _ (List.mem_cons_of_mem _ (List.mem_cons_of_mem _ List.mem_cons_self))))) sub_nil))))).tr ((show hKn [lx, ly, lw, la, lq, le, xo, ez, eo, bu, nw0, na0, nq0, nr0, nw1, na1, nq1, nr1, bs, bp, bh, bf, bl, bg] f6 f19 from (hKn.mono k21 sbA)).tr ((show hKn [lx, ly, lw, la, lq, le, xo, ez, eo, bu, nw0, na0, nq0, nr0, nw1, na1, nq1, nr1, bs, bp, bh, bf, bl, bg] f19 f22 from (hKn.mono k24 sbA)).tr ((show hKn [lx, ly, lw, la, lq, le, xo, ez, eo, bu, nw0, na0, nq0, nr0, nw1, na1, nq1, nr1, bs, bp, bh, bf, bl, bg] f22 f25 from (hKn.mono k27 sbA)).tr (show hKn [lx, ly, lw, la, lq, le, xo, ez, eo, bu, nw0, na0, nq0, nr0, nw1, na1, nq1, nr1, bs, bp, bh, bf, bl, bg] f25 f28 from (hKn.mono k30 sbA))))))⟩)
  · refine lv_bipush (v := 50) hx hb dL_links_630 (by decide) ?_
    refine lv_goto (tgt := 636) hx hb dL_links_632 (by decide) ?_
    refine hp_S (As := [.int z, .int 50]) (rest := [.int 1]) B0 hw hS (c_L_low hl G f z 50 (by omega) (by omega)) mS_L_low qM_L_94 rfl rfl hl9.1 (Nat.le_of_ble_eq_true rfl) ⟨⟨Nat.le_of_ble_eq_true rfl, Nat.le_of_ble_eq_true rfl⟩, Nat.le_of_ble_eq_true rfl, Nat.le_of_ble_eq_true rfl⟩ dL_links_636 (fun E ce q9 f55 H locs hPX hw hS hce hcv hcl => ?_) (fun v f55 H locs hP hw hS => ?_)
    · exact hPX.elim
    · obtain ⟨ef9, j56, hj57, ev9⟩ := hP
      rw [ef9] at hw
      subst ev9
      refine W.eq (g2 := F0 m 639 ls [.int (nI j56), .int 1]) rfl ?_
      refine lv_iadd hx hb dL_links_639 ?_
      refine hp_c (v := (nI (1 + j56))) (nI_add 1 j56) ?_
      refine lv_istore (lv' := [(14, .int (nI (1 + j56))), (13, .int (nI j13)), (12, .ref ly), (11, .int 8), (10, .int 1), (0, .ref xo), (1, .int (nI ac)), (2, .int u), (3, .int z), (4, .ref lx), (5, .ref ly), (6, .ref lw), (7, .ref la), (8, .ref lq), (9, .ref le)]) hx hb dL_links_640 hl9 (by decide) rfl (fun ls hl9 => ?_)
      refine lv_iload hx hb dL_links_642 (lv_at hl9 0 rfl) ?_
      refine lv_aload hx hb dL_links_644 (lv_at hl9 9 rfl) ?_
      refine lv_aload hx hb dL_links_646 (lv_at hl9 10 rfl) ?_
      refine lv_aload hx hb dL_links_648 (lv_at hl9 13 rfl) ?_
      refine lv_aload hx hb dL_links_650 (lv_at hl9 14 rfl) ?_
      have hpo0 : pot S0 ≤ S0.2.2.2.2.2.2.2.2.length + 10 := Nat.add_le_add_left (Nat.sub_le _ _) _
      have hpo1 : pot S1 ≤ S1.2.2.2.2.2.2.2.2.length + 10 := Nat.add_le_add_left (Nat.sub_le _ _) _
      refine hp_S (As := [.int (nI (1 + j56)), .ref lx, .ref ly, .ref lq, .ref le]) (rest := []) B0 hw hS (c_L_goBy hl G f lx ly lq le S0 S1 b hSo0 hSo1 (by omega) (by have := hpo0; omega) (by have := hpo1; omega) (1 + j56) (by omega) (by omega) n_lx_ly xs0 xs1 hX0 hX1 k_lx k_ly k_lq h1) mS_L_goBy qM_L_111 rfl rfl hl9.1 (Nat.le_of_ble_eq_true rfl) ⟨⟨Nat.le_of_ble_eq_true rfl, Nat.le_of_ble_eq_true rfl⟩, Nat.le_of_ble_eq_true rfl, Nat.le_of_ble_eq_true rfl⟩ dL_links_652 (fun E ce q9 f58 H locs hPX hw hS hce hcv hcl => ?_) (fun v f58 H locs hP hw hS => ?_)
      · exact hPX.elim
      · obtain ⟨ev9, ⟨xs59, h60, hX61⟩, ⟨ys62, h63, hY64⟩, h65, h66, k67⟩ := hP
        subst ev9
        refine W.eq (g2 := F0 m 655 ls [.int ((passF (1 + j56) (S0, S1, 0)).2.2)]) rfl ?_
        refine lv_istore (lv' := [(15, .int ((passF (1 + j56) (S0, S1, 0)).2.2)), (14, .int (nI (1 + j56))), (13, .int (nI j13)), (12, .ref ly), (11, .int 8), (10, .int 1), (0, .ref xo), (1, .int (nI ac)), (2, .int u), (3, .int z), (4, .ref lx), (5, .ref ly), (6, .ref lw), (7, .ref la), (8, .ref lq), (9, .ref le)]) hx hb dL_links_655 hl9 (by decide) rfl (fun ls hl9 => ?_)
        refine lv_aload_n hx hb dL_links_657 rfl (lv_at hl9 6 rfl) ?_
        refine lv_iconst (v := 0) hx hb dL_links_658 (by decide) ?_
        have h68 : f58 lw = some (.inl (cI G, 12, .inl (j6 gw0 gw1))) := (hEq.k k67) _ _ k_lw (ninc (Ne.symm n_lx_lw) (ninc (Ne.symm n_ly_lw) (ninc n_lw_le nin0)))
        have h69 : f58 la = some (.inl (cI G, 12, .inl (j6 ga0 ga1))) := (hEq.k k67) _ _ k_la (ninc (Ne.symm n_lx_la) (ninc (Ne.symm n_ly_la) (ninc n_la_le nin0)))
        have hC70 : CXW G f58 xo ez eo bu nw0 na0 nq0 nr0 nw1 na1 nq1 nr1 bs bp bh bf bl bg S0 S1 gw0 ga0 gw1 ga1 n a cg x sa pk fl gv gh gl := CXW.eq hC (show hEq [lx, ly, lw, la, lq, le] f f58 from (hEq.mono k67 (sub_cons List.mem_cons_self (sub_cons (List.mem_cons_of_mem _ List.mem_cons_self) (sub_cons (List.mem_cons_of_mem _ (List.mem_cons_of_mem _ (List.mem_cons_of_mem _ (List.mem_cons_of_mem _ (List.mem_cons_of_mem _ List.mem_cons_self))))) sub_nil))))) hdis (fun b9 hb9 => by
            simp only [List.mem_cons, List.not_mem_nil, or_false] at hb9
            rcases hb9 with hb9 | hb9 | hb9 | hb9 | hb9 | hb9
            · rw [hb9]; exact ⟨_, _, k_lx, h60, (Nat.ne_of_beq_eq_false rfl), (Nat.ne_of_beq_eq_false rfl)⟩
            · rw [hb9]; exact ⟨_, _, k_ly, h63, (Nat.ne_of_beq_eq_false rfl), (Nat.ne_of_beq_eq_false rfl)⟩
            · rw [hb9]; exact ⟨_, _, k_lw, h68, (Nat.ne_of_beq_eq_false rfl), (Nat.ne_of_beq_eq_false rfl)⟩
            · rw [hb9]; exact ⟨_, _, k_la, h69, (Nat.ne_of_beq_eq_false rfl), (Nat.ne_of_beq_eq_false rfl)⟩
            · rw [hb9]; exact ⟨_, _, k_lq, h65, (Nat.ne_of_beq_eq_false rfl), (Nat.ne_of_beq_eq_false rfl)⟩
            · rw [hb9]; exact ⟨_, _, h1, h66, (Nat.ne_of_beq_eq_false rfl), (Nat.ne_of_beq_eq_false rfl)⟩)
        refine hp_SH (As := [.ref xo, .int 0]) (rest := []) B0 hw hS (c_V_pass_A hl G f58 xo ez eo bu nw0 na0 nq0 nr0 nw1 na1 nq1 nr1 bs bp bh bf bl bg S0 S1 gw0 ga0 gw1 ga1 n a cg x sa pk fl gv gh gl hC70 (Nat.lt_of_le_of_lt hl0 (by decide)) (Nat.lt_of_le_of_lt hl1 (by decide)) 0 (by decide)) mH_L_pass qM_L_115 rfl rfl hl9.1 (Nat.le_of_ble_eq_true rfl) ⟨⟨Nat.le_of_ble_eq_true rfl, Nat.le_of_ble_eq_true rfl⟩, Nat.le_of_ble_eq_true rfl, Nat.le_of_ble_eq_true rfl⟩ dL_links_659 (fun E ce q9 f71 H locs hPX hw hS hce hcv hcl => ?_) (fun v f71 H locs hP hw hS => ?_)
        · exact hPX.elim
        · obtain ⟨ev9, hC72, k73⟩ := hP
          subst ev9
          have hC72 : CXW G f71 xo ez eo bu nw0 na0 nq0 nr0 nw1 na1 nq1 nr1 bs bp bh bf bl bg S0 S1 gw0 ga0 gw1 ga1 n a cg x sa pk fl gv gh gl := hC72
          refine W.eq (g2 := F0 m 662 ls [.int (-72)]) rfl ?_
          refine lv_bipush (v := (-72)) hx hb dL_links_662 (by decide) ?_
          refine lv_icmp_ne (tgt := 704) hx hb dL_links_664 (by decide) (fun c9 => absurd (by decide) c9) (fun _ => ?_)
          refine lv_aload_n hx hb dL_links_667 rfl (lv_at hl9 6 rfl) ?_
          refine lv_bipush (v := 51) hx hb dL_links_668 (by decide) ?_
          refine hp_SH (As := [.ref xo, .int 51]) (rest := []) B0 hw hS (c_V_pass_A hl G f71 xo ez eo bu nw0 na0 nq0 nr0 nw1 na1 nq1 nr1 bs bp bh bf bl bg S0 S1 gw0 ga0 gw1 ga1 n a cg x sa pk fl gv gh gl hC72 (Nat.lt_of_le_of_lt hl0 (by decide)) (Nat.lt_of_le_of_lt hl1 (by decide)) 51 (by decide)) mH_L_pass qM_L_115 rfl rfl hl9.1 (Nat.le_of_ble_eq_true rfl) ⟨⟨Nat.le_of_ble_eq_true rfl, Nat.le_of_ble_eq_true rfl⟩, Nat.le_of_ble_eq_true rfl, Nat.le_of_ble_eq_true rfl⟩ dL_links_670 (fun E ce q9 f74 H locs hPX hw hS hce hcv hcl => ?_) (fun v f74 H locs hP hw hS => ?_)
          · exact hPX.elim
          · obtain ⟨ev9, hC75, k76⟩ := hP
            subst ev9
            have hC75 : CXW G f74 xo ez eo bu nw0 na0 nq0 nr0 nw1 na1 nq1 nr1 bs bp bh bf bl bg S0 S1 gw0 ga0 gw1 ga1 n a cg x sa pk fl gv gh gl := hC75
            refine W.eq (g2 := F0 m 673 ls [.int (-72)]) rfl ?_
            refine lv_bipush (v := (-72)) hx hb dL_links_673 (by decide) ?_
            refine lv_icmp_ne (tgt := 704) hx hb dL_links_675 (by decide) (fun c9 => absurd (by decide) c9) (fun _ => ?_)
            refine lv_aload_n hx hb dL_links_678 rfl (lv_at hl9 6 rfl) ?_
            refine lv_ldc (v := (-2147483648)) hx hb B0.2.2.2.1 (B0.2.2.2.2.1 _ qK_L_67) dL_links_679 ?_
            refine hp_SH (As := [.ref xo, .int (-2147483648)]) (rest := []) B0 hw hS (c_V_pass_A hl G f74 xo ez eo bu nw0 na0 nq0 nr0 nw1 na1 nq1 nr1 bs bp bh bf bl bg S0 S1 gw0 ga0 gw1 ga1 n a cg x sa pk fl gv gh gl hC75 (Nat.lt_of_le_of_lt hl0 (by decide)) (Nat.lt_of_le_of_lt hl1 (by decide)) (-2147483648) (by decide)) mH_L_pass qM_L_115 rfl rfl hl9.1 (Nat.le_of_ble_eq_true rfl) ⟨⟨Nat.le_of_ble_eq_true rfl, Nat.le_of_ble_eq_true rfl⟩, Nat.le_of_ble_eq_true rfl, Nat.le_of_ble_eq_true rfl⟩ dL_links_681 (fun E ce q9 f77 H locs hPX hw hS hce hcv hcl => ?_) (fun v f77 H locs hP hw hS => ?_)
            · exact hPX.elim
            · obtain ⟨ev9, hC78, k79⟩ := hP
              subst ev9
              have hC78 : CXW G f77 xo ez eo bu nw0 na0 nq0 nr0 nw1 na1 nq1 nr1 bs bp bh bf bl bg S0 S1 gw0 ga0 gw1 ga1 n a cg x sa pk fl gv gh gl := hC78
              refine W.eq (g2 := F0 m 684 ls [.int (-72)]) rfl ?_
              refine lv_bipush (v := (-72)) hx hb dL_links_684 (by decide) ?_
              refine lv_icmp_ne (tgt := 704) hx hb dL_links_686 (by decide) (fun c9 => absurd (by decide) c9) (fun _ => ?_)
              refine lv_aload_n hx hb dL_links_689 rfl (lv_at hl9 6 rfl) ?_
              refine lv_iload hx hb dL_links_690 (lv_at hl9 1 rfl) ?_
              refine hp_SH (As := [.ref xo, .int (nI (1 + j56))]) (rest := []) B0 hw hS (c_V_pass_ok hl G f77 xo ez eo bu nw0 na0 nq0 nr0 nw1 na1 nq1 nr1 bs bp bh bf bl bg S0 S1 gw0 ga0 gw1 ga1 n a cg x sa pk fl gv gh gl hC78 (Nat.lt_of_le_of_lt hl0 (by decide)) (Nat.lt_of_le_of_lt hl1 (by decide)) (1 + j56) (by omega) (by omega)) mH_L_pass qM_L_115 rfl rfl hl9.1 (Nat.le_of_ble_eq_true rfl) ⟨⟨Nat.le_of_ble_eq_true rfl, Nat.le_of_ble_eq_true rfl⟩, Nat.le_of_ble_eq_true rfl, Nat.le_of_ble_eq_true rfl⟩ dL_links_692 (fun E ce q9 f80 H locs hPX hw hS hce hcv hcl => ?_) (fun v f80 H locs hP hw hS => ?_)
              · exact hPX.elim
              · obtain ⟨ev9, hC81, k82⟩ := hP
                subst ev9
                have hC81 : CXW G f80 xo ez eo bu nw0 na0 nq0 nr0 nw1 na1 nq1 nr1 bs bp bh bf bl bg ((passF (1 + j56) (S0, S1, 0)).1) ((passF (1 + j56) (S0, S1, 0)).2.1) gw0 ga0 gw1 ga1 n a cg x sa pk fl gv gh gl := hC81
                refine W.eq (g2 := F0 m 695 ls [.int ((passF (1 + j56) (S0, S1, 0)).2.2)]) rfl ?_
                refine lv_iload hx hb dL_links_695 (lv_at hl9 0 rfl) ?_
                refine lv_icmp_ne (tgt := 704) hx hb dL_links_697 (by decide) (fun c9 => absurd rfl c9) (fun _ => ?_)
                refine lv_iconst (v := 1) hx hb dL_links_700 (by decide) ?_
                refine lv_goto (tgt := 705) hx hb dL_links_701 (by decide) ?_
                have h83 : f71 lx = some (.inl (cJ G, 64, .inr (.inl xs59))) := k73 _ _ h60 (Nat.ne_of_beq_eq_false rfl) (hdos _ List.mem_cons_self)
                have h84 : f74 lx = some (.inl (cJ G, 64, .inr (.inl xs59))) := k76 _ _ h83 (Nat.ne_of_beq_eq_false rfl) (hdos _ List.mem_cons_self)
                have h85 : f77 lx = some (.inl (cJ G, 64, .inr (.inl xs59))) := k79 _ _ h84 (Nat.ne_of_beq_eq_false rfl) (hdos _ List.mem_cons_self)
                have h86 : f80 lx = some (.inl (cJ G, 64, .inr (.inl xs59))) := k82 _ _ h85 (Nat.ne_of_beq_eq_false rfl) (hdos _ List.mem_cons_self)
                have h87 : f71 ly = some (.inl (cJ G, 64, .inr (.inl ys62))) := k73 _ _ h63 (Nat.ne_of_beq_eq_false rfl) (hdos _ (List.mem_cons_of_mem _ List.mem_cons_self))
                have h88 : f74 ly = some (.inl (cJ G, 64, .inr (.inl ys62))) := k76 _ _ h87 (Nat.ne_of_beq_eq_false rfl) (hdos _ (List.mem_cons_of_mem _ List.mem_cons_self))
                have h89 : f77 ly = some (.inl (cJ G, 64, .inr (.inl ys62))) := k79 _ _ h88 (Nat.ne_of_beq_eq_false rfl) (hdos _ (List.mem_cons_of_mem _ List.mem_cons_self))
                have h90 : f80 ly = some (.inl (cJ G, 64, .inr (.inl ys62))) := k82 _ _ h89 (Nat.ne_of_beq_eq_false rfl) (hdos _ (List.mem_cons_of_mem _ List.mem_cons_self))
                have h91 : f71 lw = some (.inl (cI G, 12, .inl (j6 gw0 gw1))) := k73 _ _ h68 (Nat.ne_of_beq_eq_false rfl) (hdos _ (List.mem_cons_of_mem _ (List.mem_cons_of_mem _ List.mem_cons_self)))
                have h92 : f74 lw = some (.inl (cI G, 12, .inl (j6 gw0 gw1))) := k76 _ _ h91 (Nat.ne_of_beq_eq_false rfl) (hdos _ (List.mem_cons_of_mem _ (List.mem_cons_of_mem _ List.mem_cons_self)))
                have h93 : f77 lw = some (.inl (cI G, 12, .inl (j6 gw0 gw1))) := k79 _ _ h92 (Nat.ne_of_beq_eq_false rfl) (hdos _ (List.mem_cons_of_mem _ (List.mem_cons_of_mem _ List.mem_cons_self)))
                have h94 : f80 lw = some (.inl (cI G, 12, .inl (j6 gw0 gw1))) := k82 _ _ h93 (Nat.ne_of_beq_eq_false rfl) (hdos _ (List.mem_cons_of_mem _ (List.mem_cons_of_mem _ List.mem_cons_self)))
                have h95 : f71 la = some (.inl (cI G, 12, .inl (j6 ga0 ga1))) := k73 _ _ h69 (Nat.ne_of_beq_eq_false rfl) (hdos _ (List.mem_cons_of_mem _ (List.mem_cons_of_mem _ (List.mem_cons_of_mem _ List.mem_cons_self))))
                have h96 : f74 la = some (.inl (cI G, 12, .inl (j6 ga0 ga1))) := k76 _ _ h95 (Nat.ne_of_beq_eq_false rfl) (hdos _ (List.mem_cons_of_mem _ (List.mem_cons_of_mem _ (List.mem_cons_of_mem _ List.mem_cons_self))))
                have h97 : f77 la = some (.inl (cI G, 12, .inl (j6 ga0 ga1))) := k79 _ _ h96 (Nat.ne_of_beq_eq_false rfl) (hdos _ (List.mem_cons_of_mem _ (List.mem_cons_of_mem _ (List.mem_cons_of_mem _ List.mem_cons_self))))
                have h98 : f80 la = some (.inl (cI G, 12, .inl (j6 ga0 ga1))) := k82 _ _ h97 (Nat.ne_of_beq_eq_false rfl) (hdos _ (List.mem_cons_of_mem _ (List.mem_cons_of_mem _ (List.mem_cons_of_mem _ List.mem_cons_self))))
                have h99 : f71 lq = some (.inl (cI G, 12, .inl (j6 (passF (1 + j56) (S0, S1, 0)).1.2.2.2.2.2.2.2.1 (passF (1 + j56) (S0, S1, 0)).2.1.2.2.2.2.2.2.2.1))) := k73 _ _ h65 (Nat.ne_of_beq_eq_false rfl) (hdos _ (List.mem_cons_of_mem _ (List.mem_cons_of_mem _ (List.mem_cons_of_mem _ (List.mem_cons_of_mem _ List.mem_cons_self)))))
                have h100 : f74 lq = some (.inl (cI G, 12, .inl (j6 (passF (1 + j56) (S0, S1, 0)).1.2.2.2.2.2.2.2.1 (passF (1 + j56) (S0, S1, 0)).2.1.2.2.2.2.2.2.2.1))) := k76 _ _ h99 (Nat.ne_of_beq_eq_false rfl) (hdos _ (List.mem_cons_of_mem _ (List.mem_cons_of_mem _ (List.mem_cons_of_mem _ (List.mem_cons_of_mem _ List.mem_cons_self)))))
                have h101 : f77 lq = some (.inl (cI G, 12, .inl (j6 (passF (1 + j56) (S0, S1, 0)).1.2.2.2.2.2.2.2.1 (passF (1 + j56) (S0, S1, 0)).2.1.2.2.2.2.2.2.2.1))) := k79 _ _ h100 (Nat.ne_of_beq_eq_false rfl) (hdos _ (List.mem_cons_of_mem _ (List.mem_cons_of_mem _ (List.mem_cons_of_mem _ (List.mem_cons_of_mem _ List.mem_cons_self)))))
                have h102 : f80 lq = some (.inl (cI G, 12, .inl (j6 (passF (1 + j56) (S0, S1, 0)).1.2.2.2.2.2.2.2.1 (passF (1 + j56) (S0, S1, 0)).2.1.2.2.2.2.2.2.2.1))) := k82 _ _ h101 (Nat.ne_of_beq_eq_false rfl) (hdos _ (List.mem_cons_of_mem _ (List.mem_cons_of_mem _ (List.mem_cons_of_mem _ (List.mem_cons_of_mem _ List.mem_cons_self)))))
                have h103 : f71 le = some (.inl (cI G, 16, .inl (jE (eS (passF (1 + j56) (S0, S1, 0)).1) (eS (passF (1 + j56) (S0, S1, 0)).2.1)))) := k73 _ _ h66 (Nat.ne_of_beq_eq_false rfl) (hdos _ (List.mem_cons_of_mem _ (List.mem_cons_of_mem _ (List.mem_cons_of_mem _ (List.mem_cons_of_mem _ (List.mem_cons_of_mem _ List.mem_cons_self))))))
                have h104 : f74 le = some (.inl (cI G, 16, .inl (jE (eS (passF (1 + j56) (S0, S1, 0)).1) (eS (passF (1 + j56) (S0, S1, 0)).2.1)))) := k76 _ _ h103 (Nat.ne_of_beq_eq_false rfl) (hdos _ (List.mem_cons_of_mem _ (List.mem_cons_of_mem _ (List.mem_cons_of_mem _ (List.mem_cons_of_mem _ (List.mem_cons_of_mem _ List.mem_cons_self))))))
                have h105 : f77 le = some (.inl (cI G, 16, .inl (jE (eS (passF (1 + j56) (S0, S1, 0)).1) (eS (passF (1 + j56) (S0, S1, 0)).2.1)))) := k79 _ _ h104 (Nat.ne_of_beq_eq_false rfl) (hdos _ (List.mem_cons_of_mem _ (List.mem_cons_of_mem _ (List.mem_cons_of_mem _ (List.mem_cons_of_mem _ (List.mem_cons_of_mem _ List.mem_cons_self))))))
                have h106 : f80 le = some (.inl (cI G, 16, .inl (jE (eS (passF (1 + j56) (S0, S1, 0)).1) (eS (passF (1 + j56) (S0, S1, 0)).2.1)))) := k82 _ _ h105 (Nat.ne_of_beq_eq_false rfl) (hdos _ (List.mem_cons_of_mem _ (List.mem_cons_of_mem _ (List.mem_cons_of_mem _ (List.mem_cons_of_mem _ (List.mem_cons_of_mem _ List.mem_cons_self))))))
                exact hp_zret (v := 1) B0 hw hS hr ⟨Nat.le_of_ble_eq_true rfl, Nat.le_of_ble_eq_true rfl⟩ (rfl) dL_links_705 (⟨rfl, (passF (1 + j56) (S0, S1, 0)).1, (passF (1 + j56) (S0, S1, 0)).2.1, gw0, ga0, gw1, ga1, hC81, ⟨⟨_, h86, hX61⟩, ⟨_, h90, hY64⟩, h94, h98, h102, h106⟩, ⟨SOK.mono (passF_ok (1 + j56) b (S0, S1, 0) hSo0 hSo1 (by omega)).1 (by omega), SOK.mono (passF_ok (1 + j56) b (S0, S1, 0) hSo0 hSo1 (by omega)).2 (by omega), hgw0, hga0, hgw1, hga1⟩, (Nat.le_trans (pot_len _) (Nat.le_trans (passF_pot (1 + j56) b (S0, S1, 0) hSo0 hSo1 (by omega)).1 (by have h9 := hpo0; show pot S0 ≤ 52; omega))), (Nat.le_trans (pot_len _) (Nat.le_trans (passF_pot (1 + j56) b (S0, S1, 0) hSo0 hSo1 (by omega)).2 (by have h9 := hpo1; show pot S1 ≤ 52; omega))), ((show hKn [lx, ly, lw, la, lq, le, xo, ez, eo, bu, nw0, na0, nq0, nr0, nw1, na1, nq1, nr1, bs, bp, bh, bf, bl, bg] f f58 from (hKn.mono (hKn.eq k67) (sub_cons List.mem_cons_self (sub_cons (List.mem_cons_of_mem _ List.mem_cons_self) (sub_cons (List.mem_cons_of_mem _ (List.mem_cons_of_mem _ (List.mem_cons_of_mem _ (List.mem_cons_of_mem _ (List.mem_cons_of_mem _ List.mem_cons_self))))) sub_nil))))).tr ((show hKn [lx, ly, lw, la, lq, le, xo, ez, eo, bu, nw0, na0, nq0, nr0, nw1, na1, nq1, nr1, bs, bp, bh, bf, bl, bg] f58 f71 from (hKn.mono k73 sbA)).tr ((show hKn [lx, ly, lw, la, lq, le, xo, ez, eo, bu, nw0, na0, nq0, nr0, nw1, na1, nq1, nr1, bs, bp, bh, bf, bl, bg] f71 f74 from (hKn.mono k76 sbA)).tr ((show hKn [lx, ly, lw, la, lq, le, xo, ez, eo, bu, nw0, na0, nq0, nr0, nw1, na1, nq1, nr1, bs, bp, bh, bf, bl, bg] f74 f77 from (hKn.mono k79 sbA)).tr (show hKn [lx, ly, lw, la, lq, le, xo, ez, eo, bu, nw0, na0, nq0, nr0, nw1, na1, nq1, nr1, bs, bp, bh, bf, bl, bg] f77 f80 from (hKn.mono k82 sbA))))))⟩)

set_option maxHeartbeats 4000000 in
set_option maxRecDepth 100000 in
theorem lk_d_0 {l : Launch} (hl : l.stackTraces = false) (G : hG) (f : hM) (xo ez eo bu nw0 na0 nq0 nr0 nw1 na1 nq1 nr1 bs bp bh bf bl bg : Nat) (S0 : ES) (S1 : ES) (gw0 : Nat → Int32) (ga0 : Nat → Int32) (gw1 : Nat → Int32) (ga1 : Nat → Int32) (n : Nat) (a : Nat) (cg : Nat) (x : Nat) (sa : Nat → Nat) (pk : Nat → Nat) (fl : Nat → Nat) (gv : Nat → Nat) (gh : Nat → Int32) (gl : Nat → Int32) (hC : CXW G f xo ez eo bu nw0 na0 nq0 nr0 nw1 na1 nq1 nr1 bs bp bh bf bl bg S0 S1 gw0 ga0 gw1 ga1 n a cg x sa pk fl gv gh gl) (lx ly lw la lq le : Nat) (hdis : ∀ p, p ∈ [xo, ez, eo, bu, nw0, na0, nq0, nr0, nw1, na1, nq1, nr1, bs, bp, bh, bf, bl, bg] → p ∉ [lx, ly, lw, la, lq, le]) (hdos : ∀ p, p ∈ [lx, ly, lw, la, lq, le] → p ∉ [xo, ez, eo, bu, nw0, na0, nq0, nr0, nw1, na1, nq1, nr1, bs, bp, bh, bf, bl, bg]) (n_lx_ly : lx ≠ ly) (n_lw_la : lw ≠ la) (n_lw_lq : lw ≠ lq) (n_la_lq : la ≠ lq) (hLX : LX G f lx ly lw la lq le S0 S1 gw0 ga0 gw1 ga1) (b : Nat) (hInv : INV b S0 S1 gw0 ga0 gw1 ga1) (hbb : b + 200 ≤ 1000000) (hl0 : S0.2.2.2.2.2.2.2.2.length ≤ 52) (hl1 : S1.2.2.2.2.2.2.2.2.length ≤ 52) (ac : Nat) (hac : ac < 24) (hact : ac ≠ 22 → S0.2.2.2.2.2.2.2.2.length ≤ 40 ∧ S1.2.2.2.2.2.2.2.2.length ≤ 40) (u z : Int32) {p : Program} {e : Env} {s : State} {m : MethodId} {args : Array Value} {below : List Frame} {meth : Method} {c : Code} (B0 : hB p l s m args meth c cL_links 17 RL G) (hr : meth.sig.returnType = some .boolean) {H : Heap} {locs : List Loc} {ls : Array Slot} (hw : hW G f H) (hS : va_S (hFr G) s.heap H locs) (j13 : Nat) (hj13 : j13 < 6) (hl9 : lv_has ls 17 [(13, .int (nI j13)), (12, .ref lx), (11, .int 0), (10, .int 0), (0, .ref xo), (1, .int (nI ac)), (2, .int u), (3, .int z), (4, .ref lx), (5, .ref ly), (6, .ref lw), (7, .ref la), (8, .ref lq), (9, .ref le)]) : W p l e { frames := 9, cells := 203, slots := 1118, locals := 178 } s m args below meth c H locs 0 0 (vx_MQ below (hQ G (fun v f1 => v = some (.int 1) ∧ ∃ (S2 S3 : ES) (w0 a0 w1 a1 : Nat → Int32), CXW G f1 xo ez eo bu nw0 na0 nq0 nr0 nw1 na1 nq1 nr1 bs bp bh bf bl bg S2 S3 w0 a0 w1 a1 n a cg x sa pk fl gv gh gl ∧ LX G f1 lx ly lw la lq le S2 S3 w0 a0 w1 a1 ∧ INV (b + 100) S2 S3 w0 a0 w1 a1 ∧ S2.2.2.2.2.2.2.2.2.length ≤ 52 ∧ S3.2.2.2.2.2.2.2.2.length ≤ 52 ∧ hKn [lx, ly, lw, la, lq, le, xo, ez, eo, bu, nw0, na0, nq0, nr0, nw1, na1, nq1, nr1, bs, bp, bh, bf, bl, bg] f f1)) (hX G (fun E f1 => False)) args s 203 1118 (hFr G)) (F0 m 706 ls []) := by
  have hx := B0.1
  have hb := B0.2.1
  obtain ⟨⟨xs0, k_lx, hX0⟩, ⟨xs1, k_ly, hX1⟩, k_lw, k_la, k_lq, k_le⟩ := hLX
  obtain ⟨hSo0, hSo1, hgw0, hga0, hgw1, hga1⟩ := id hInv
  have n_lx_lw : lx ≠ lw := hneL k_lx k_lw (Nat.ne_of_beq_eq_false rfl)
  have n_lx_la : lx ≠ la := hneL k_lx k_la (Nat.ne_of_beq_eq_false rfl)
  have n_lx_lq : lx ≠ lq := hneL k_lx k_lq (Nat.ne_of_beq_eq_false rfl)
  have n_lx_le : lx ≠ le := hneL k_lx k_le (Nat.ne_of_beq_eq_false rfl)
  have n_ly_lw : ly ≠ lw := hneL k_ly k_lw (Nat.ne_of_beq_eq_false rfl)
  have n_ly_la : ly ≠ la := hneL k_ly k_la (Nat.ne_of_beq_eq_false rfl)
  have n_ly_lq : ly ≠ lq := hneL k_ly k_lq (Nat.ne_of_beq_eq_false rfl)
  have n_ly_le : ly ≠ le := hneL k_ly k_le (Nat.ne_of_beq_eq_false rfl)
  have n_lw_le : lw ≠ le := hneL k_lw k_le (Nat.ne_of_beq_eq_false rfl)
  have n_la_le : la ≠ le := hneL k_la k_le (Nat.ne_of_beq_eq_false rfl)
  have n_lq_le : lq ≠ le := hneL k_lq k_le (Nat.ne_of_beq_eq_false rfl)
  have sbA : ∀ x9, x9 ∈ [xo, ez, eo, bu, nw0, na0, nq0, nr0, nw1, na1, nq1, nr1, bs, bp, bh, bf, bl, bg] → x9 ∈ [lx, ly, lw, la, lq, le, xo, ez, eo, bu, nw0, na0, nq0, nr0, nw1, na1, nq1, nr1, bs, bp, bh, bf, bl, bg] := sbA
  obtain ⟨xx, hxx, hx4⟩ := hSo0.2.2.2.2.1
  have h1 : f le = some (.inl (cI G, 16, .inl (jE (e8 S0.1 S0.2.1 S0.2.2.1 S0.2.2.2.1 S0.2.2.2.2.1 S0.2.2.2.2.2.1 S0.2.2.2.2.2.2.1 (nI S0.2.2.2.2.2.2.2.2.length)) (eS S1)))) := k_le
  refine lv_aload_n hx hb dL_links_706 rfl (lv_at hl9 4 rfl) ?_
  refine lv_iconst (v := 2) hx hb dL_links_707 (by decide) ?_
  refine hp_SH (As := [.ref xo, .int 2]) (rest := []) B0 hw hS (c_V_deliver_E hl G f xo ez eo bu nw0 na0 nq0 nr0 nw1 na1 nq1 nr1 bs bp bh bf bl bg S0 S1 gw0 ga0 gw1 ga1 n a cg x sa pk fl gv gh gl hC (Nat.lt_of_le_of_lt hl0 (by decide)) (Nat.lt_of_le_of_lt hl1 (by decide)) 2 (by decide)) mH_L_deliver qM_L_117 rfl rfl hl9.1 (Nat.le_of_ble_eq_true rfl) ⟨⟨Nat.le_of_ble_eq_true rfl, Nat.le_of_ble_eq_true rfl⟩, Nat.le_of_ble_eq_true rfl, Nat.le_of_ble_eq_true rfl⟩ dL_links_708 (fun E ce q9 f2 H locs hPX hw hS hce hcv hcl => ?_) (fun v f2 H locs hP hw hS => ?_)
  · exact hPX.elim
  · obtain ⟨ev9, hC3, k4⟩ := hP
    subst ev9
    have hC3 : CXW G f2 xo ez eo bu nw0 na0 nq0 nr0 nw1 na1 nq1 nr1 bs bp bh bf bl bg S0 S1 gw0 ga0 gw1 ga1 n a cg x sa pk fl gv gh gl := hC3
    refine W.eq (g2 := F0 m 711 ls [.int (-71)]) rfl ?_
    refine lv_bipush (v := (-71)) hx hb dL_links_711 (by decide) ?_
    refine lv_icmp_ne (tgt := 736) hx hb dL_links_713 (by decide) (fun c9 => absurd (by decide) c9) (fun _ => ?_)
    refine lv_aload_n hx hb dL_links_716 rfl (lv_at hl9 4 rfl) ?_
    refine lv_iconst (v := (-1)) hx hb dL_links_717 (by decide) ?_
    refine hp_SH (As := [.ref xo, .int (-1)]) (rest := []) B0 hw hS (c_V_lose_E hl G f2 xo ez eo bu nw0 na0 nq0 nr0 nw1 na1 nq1 nr1 bs bp bh bf bl bg S0 S1 gw0 ga0 gw1 ga1 n a cg x sa pk fl gv gh gl hC3 (Nat.lt_of_le_of_lt hl0 (by decide)) (Nat.lt_of_le_of_lt hl1 (by decide)) (-1) (by decide)) mH_L_lose qM_L_119 rfl rfl hl9.1 (Nat.le_of_ble_eq_true rfl) ⟨⟨Nat.le_of_ble_eq_true rfl, Nat.le_of_ble_eq_true rfl⟩, Nat.le_of_ble_eq_true rfl, Nat.le_of_ble_eq_true rfl⟩ dL_links_718 (fun E ce q9 f5 H locs hPX hw hS hce hcv hcl => ?_) (fun v f5 H locs hP hw hS => ?_)
    · exact hPX.elim
    · obtain ⟨ev9, hC6, k7⟩ := hP
      subst ev9
      have hC6 : CXW G f5 xo ez eo bu nw0 na0 nq0 nr0 nw1 na1 nq1 nr1 bs bp bh bf bl bg S0 S1 gw0 ga0 gw1 ga1 n a cg x sa pk fl gv gh gl := hC6
      refine W.eq (g2 := F0 m 721 ls [.int (-71)]) rfl ?_
      refine lv_bipush (v := (-71)) hx hb dL_links_721 (by decide) ?_
      refine lv_icmp_ne (tgt := 736) hx hb dL_links_723 (by decide) (fun c9 => absurd (by decide) c9) (fun _ => ?_)
      refine lv_aload_n hx hb dL_links_726 rfl (lv_at hl9 4 rfl) ?_
      refine lv_iconst (v := 2) hx hb dL_links_727 (by decide) ?_
      refine hp_SH (As := [.ref xo, .int 2]) (rest := []) B0 hw hS (c_V_loop_E hl G f5 xo ez eo bu nw0 na0 nq0 nr0 nw1 na1 nq1 nr1 bs bp bh bf bl bg S0 S1 gw0 ga0 gw1 ga1 n a cg x sa pk fl gv gh gl hC6 (Nat.lt_of_le_of_lt hl0 (by decide)) (Nat.lt_of_le_of_lt hl1 (by decide)) 2 (by decide)) mH_L_loop qM_L_121 rfl rfl hl9.1 (Nat.le_of_ble_eq_true rfl) ⟨⟨Nat.le_of_ble_eq_true rfl, Nat.le_of_ble_eq_true rfl⟩, Nat.le_of_ble_eq_true rfl, Nat.le_of_ble_eq_true rfl⟩ dL_links_728 (fun E ce q9 f8 H locs hPX hw hS hce hcv hcl => ?_) (fun v f8 H locs hP hw hS => ?_)
      · exact hPX.elim
      · obtain ⟨ev9, hC9, k10⟩ := hP
        subst ev9
        have hC9 : CXW G f8 xo ez eo bu nw0 na0 nq0 nr0 nw1 na1 nq1 nr1 bs bp bh bf bl bg S0 S1 gw0 ga0 gw1 ga1 n a cg x sa pk fl gv gh gl := hC9
        refine W.eq (g2 := F0 m 731 ls [.int (-71)]) rfl ?_
        refine lv_bipush (v := (-71)) hx hb dL_links_731 (by decide) ?_
        refine lv_icmp_eq (tgt := 738) hx hb dL_links_733 (by decide) (fun _ => ?_) (fun c9 => absurd (by decide) c9)
        refine lv_aload hx hb dL_links_738 (lv_at hl9 13 rfl) ?_
        refine lv_iload hx hb dL_links_740 (lv_at hl9 2 rfl) ?_
        refine lv_bipush (v := 7) hx hb dL_links_742 (by decide) ?_
        refine lv_iadd hx hb dL_links_744 ?_
        refine hp_c (v := 7) (by decide) ?_
        have h11 : f2 le = some (.inl (cI G, 16, .inl (jE (e8 S0.1 S0.2.1 S0.2.2.1 S0.2.2.2.1 S0.2.2.2.2.1 S0.2.2.2.2.2.1 S0.2.2.2.2.2.2.1 (nI S0.2.2.2.2.2.2.2.2.length)) (eS S1)))) := k4 _ _ h1 (Nat.ne_of_beq_eq_false rfl) (hdos _ (List.mem_cons_of_mem _ (List.mem_cons_of_mem _ (List.mem_cons_of_mem _ (List.mem_cons_of_mem _ (List.mem_cons_of_mem _ List.mem_cons_self))))))
        have h12 : f5 le = some (.inl (cI G, 16, .inl (jE (e8 S0.1 S0.2.1 S0.2.2.1 S0.2.2.2.1 S0.2.2.2.2.1 S0.2.2.2.2.2.1 S0.2.2.2.2.2.2.1 (nI S0.2.2.2.2.2.2.2.2.length)) (eS S1)))) := k7 _ _ h11 (Nat.ne_of_beq_eq_false rfl) (hdos _ (List.mem_cons_of_mem _ (List.mem_cons_of_mem _ (List.mem_cons_of_mem _ (List.mem_cons_of_mem _ (List.mem_cons_of_mem _ List.mem_cons_self))))))
        have h13 : f8 le = some (.inl (cI G, 16, .inl (jE (e8 S0.1 S0.2.1 S0.2.2.1 S0.2.2.2.1 S0.2.2.2.2.1 S0.2.2.2.2.2.1 S0.2.2.2.2.2.2.1 (nI S0.2.2.2.2.2.2.2.2.length)) (eS S1)))) := k10 _ _ h12 (Nat.ne_of_beq_eq_false rfl) (hdos _ (List.mem_cons_of_mem _ (List.mem_cons_of_mem _ (List.mem_cons_of_mem _ (List.mem_cons_of_mem _ (List.mem_cons_of_mem _ List.mem_cons_self))))))
        refine hp_iald B0 hw h13 (by unfold vp_in; decide) dL_links_745 ?_
        refine hp_c (v := (nI S0.2.2.2.2.2.2.2.2.length)) (rfl) ?_
        refine lv_if_ne (tgt := 788) hx hb dL_links_746 (by decide) (fun c14 => ?_) (fun c14 => ?_)
        · obtain ⟨r, L1, hLk⟩ := len_cons c14
          have hFo : FOK b r := hSo0.2.2.2.2.2.2 r (by rw [hLk]; exact List.mem_cons_self)
          have hXk : XS xs0 (r :: L1) := by rw [← hLk]; exact hX0
          have hlk : S0.2.2.2.2.2.2.2.2.length = L1.length + 1 := by rw [hLk]; rfl
          have hbo : b ≤ 1000000 := by omega
          refine lv_aload hx hb dL_links_788 (lv_at hl9 1 rfl) ?_
          refine lv_aload hx hb dL_links_790 (lv_at hl9 13 rfl) ?_
          refine lv_iload hx hb dL_links_792 (lv_at hl9 3 rfl) ?_
          have h15 : f2 lx = some (.inl (cJ G, 64, .inr (.inl xs0))) := k4 _ _ k_lx (Nat.ne_of_beq_eq_false rfl) (hdos _ List.mem_cons_self)
          have h16 : f5 lx = some (.inl (cJ G, 64, .inr (.inl xs0))) := k7 _ _ h15 (Nat.ne_of_beq_eq_false rfl) (hdos _ List.mem_cons_self)
          have h17 : f8 lx = some (.inl (cJ G, 64, .inr (.inl xs0))) := k10 _ _ h16 (Nat.ne_of_beq_eq_false rfl) (hdos _ List.mem_cons_self)
          refine hp_S (As := [.ref lx, .ref le, .int 0]) (rest := []) B0 hw hS (c_L_pull_0 hl G f8 lx le xs0 (jE (e8 S0.1 S0.2.1 S0.2.2.1 S0.2.2.2.1 S0.2.2.2.2.1 S0.2.2.2.2.2.1 S0.2.2.2.2.2.2.1 (nI S0.2.2.2.2.2.2.2.2.length)) (eS S1)) h17 h13 L1.length (show nI S0.2.2.2.2.2.2.2.2.length = nI (L1.length + 1) from by rw [hlk]) (by omega)) mS_L_pull qM_L_123 rfl rfl hl9.1 (Nat.le_of_ble_eq_true rfl) ⟨⟨Nat.le_of_ble_eq_true rfl, Nat.le_of_ble_eq_true rfl⟩, Nat.le_of_ble_eq_true rfl, Nat.le_of_ble_eq_true rfl⟩ dL_links_794 (fun E ce q9 f18 H locs hPX hw hS hce hcv hcl => ?_) (fun v f18 H locs hP hw hS => ?_)
          · exact hPX.elim
          · obtain ⟨ev9, h19, h20, k21⟩ := hP
            subst ev9
            rw [show (upd (jE (e8 S0.1 S0.2.1 S0.2.2.1 S0.2.2.2.1 S0.2.2.2.2.1 S0.2.2.2.2.2.1 S0.2.2.2.2.2.2.1 (nI S0.2.2.2.2.2.2.2.2.length)) (eS S1)) 7 (nI L1.length) : Nat → Int32) = (jE (e8 S0.1 S0.2.1 S0.2.2.1 S0.2.2.2.1 S0.2.2.2.2.1 S0.2.2.2.2.2.1 S0.2.2.2.2.2.2.1 (nI L1.length)) (eS S1)) from (by rw [jE_u0 (by omega), e8_u7])] at h20
            rw [show nI L1.length = nI (takeS S0).2.2.2.2.2.2.2.2.length from (show _ = nI S0.2.2.2.2.2.2.2.2.tail.length from by rw [hLk]; rfl)] at h20
            have h22 : f18 le = some (.inl (cI G, 16, .inl (jE (e8 ((takeS S0).1) ((takeS S0).2.1) ((takeS S0).2.2.1) ((takeS S0).2.2.2.1) ((takeS S0).2.2.2.2.1) ((takeS S0).2.2.2.2.2.1) ((takeS S0).2.2.2.2.2.2.1) (nI (takeS S0).2.2.2.2.2.2.2.2.length)) (eS S1)))) := h20
            refine W.eq (g2 := F0 m 797 ls [.long (xs0 0)]) rfl ?_
            refine hp_cl (v := lN (pkN r)) hXk.hd ?_
            refine lv_lstore (lv' := [(14, .long (lN (pkN r))), (13, .int (nI j13)), (12, .ref lx), (11, .int 0), (10, .int 0), (0, .ref xo), (1, .int (nI ac)), (2, .int u), (3, .int z), (4, .ref lx), (5, .ref ly), (6, .ref lw), (7, .ref la), (8, .ref lq), (9, .ref le)]) hx hb dL_links_797 hl9 (by decide) rfl (fun ls hl9 => ?_)
            refine lv_lload hx hb dL_links_799 (lv_at hl9 0 rfl) ?_
            refine lv_ldc2 (v := 7) hx hb B0.2.2.2.1 (B0.2.2.2.2.1 _ qK_L_81) dL_links_801 ?_
            refine hp_cl (v := lN 7) rfl ?_
            refine lv_land hx hb dL_links_804 ?_
            refine hp_cl (v := (lN ((pkN r) % 8))) (g_mask (s := 3) (p := 8) rfl (by omega) (by first | exact pkN_lt hFo hbo | exact Nat.lt_trans (pkN_lt hFo hbo) (by decide))) ?_
            refine lv_l2i (v := (nI ((pkN r) % 8))) hx hb dL_links_805 (lN_i _) ?_
            refine hp_c (v := r.1) (by rw [pkN_k hFo hbo]; exact hFo.r1) ?_
            refine lv_istore (lv' := [(16, .int r.1), (14, .long (lN (pkN r))), (13, .int (nI j13)), (12, .ref lx), (11, .int 0), (10, .int 0), (0, .ref xo), (1, .int (nI ac)), (2, .int u), (3, .int z), (4, .ref lx), (5, .ref ly), (6, .ref lw), (7, .ref la), (8, .ref lq), (9, .ref le)]) hx hb dL_links_806 hl9 (by decide) rfl (fun ls hl9 => ?_)
            refine lv_iload_n hx hb dL_links_808 rfl (lv_at hl9 7 rfl) ?_
            refine lv_bipush (v := 22) hx hb dL_links_809 (by decide) ?_
            refine lv_icmp_ge (tgt := 858) hx hb dL_links_811 (by decide) (fun c23 => ?_) (fun c23 => ?_)
            · refine lv_aload hx hb dL_links_858 (lv_at hl9 15 rfl) ?_
              refine lv_iload hx hb dL_links_860 (lv_at hl9 4 rfl) ?_
              refine lv_iconst (v := 5) hx hb dL_links_862 (by decide) ?_
              refine lv_iadd hx hb dL_links_863 ?_
              refine hp_c (v := 5) (by decide) ?_
              refine lv_dup2_11 hx hb dL_links_864 rfl rfl ?_
              refine hp_iald B0 hw h22 (by unfold vp_in; decide) dL_links_865 ?_
              refine hp_c (v := (takeS S0).2.2.2.2.2.1) (rfl) ?_
              refine lv_iconst (v := 1) hx hb dL_links_866 (by decide) ?_
              refine lv_iadd hx hb dL_links_867 ?_
              refine hp_iast B0 hw hS h22 (by unfold vp_in; decide) dL_links_868 (fun H locs f24 ef24 hw hS => ?_)
              rw [show (upd (jE (e8 ((takeS S0).1) ((takeS S0).2.1) ((takeS S0).2.2.1) ((takeS S0).2.2.2.1) ((takeS S0).2.2.2.2.1) ((takeS S0).2.2.2.2.2.1) ((takeS S0).2.2.2.2.2.2.1) (nI (takeS S0).2.2.2.2.2.2.2.2.length)) (eS S1)) (5 : Int32).toNatClampNeg (((takeS S0).2.2.2.2.2.1) + 1) : Nat → Int32) = (jE (e8 ((takeS S0).1) ((takeS S0).2.1) ((takeS S0).2.2.1) ((takeS S0).2.2.2.1) ((takeS S0).2.2.2.2.1) (((takeS S0).2.2.2.2.2.1) + 1) ((takeS S0).2.2.2.2.2.2.1) (nI (takeS S0).2.2.2.2.2.2.2.2.length)) (eS S1)) from (by rw [show (5 : Int32).toNatClampNeg = 5 from rfl, jE_u0 (by omega), e8_u5])] at ef24
              have h25 : f24 le = some (.inl (cI G, 16, .inl (jE (e8 ((takeS S0).1) ((takeS S0).2.1) ((takeS S0).2.2.1) ((takeS S0).2.2.2.1) ((takeS S0).2.2.2.2.1) (((takeS S0).2.2.2.2.2.1) + 1) ((takeS S0).2.2.2.2.2.2.1) (nI (takeS S0).2.2.2.2.2.2.2.2.length)) (eS S1)))) := by rw [ef24, va_up_self]
              have h26 : f24 le = some (.inl (cI G, 16, .inl (jE (e8 ((missS (takeS S0)).1) ((missS (takeS S0)).2.1) ((missS (takeS S0)).2.2.1) ((missS (takeS S0)).2.2.2.1) ((missS (takeS S0)).2.2.2.2.1) ((missS (takeS S0)).2.2.2.2.2.1) ((missS (takeS S0)).2.2.2.2.2.2.1) (nI (missS (takeS S0)).2.2.2.2.2.2.2.2.length)) (eS S1)))) := h25
              refine lv_iload_n hx hb dL_links_869 rfl (lv_at hl9 7 rfl) ?_
              refine lv_bipush (v := 22) hx hb dL_links_870 (by decide) ?_
              refine lv_icmp_ne (tgt := 892) hx hb dL_links_872 (by decide) (fun c27 => ?_) (fun c27 => ?_)
              · obtain ⟨h40a, h40b⟩ := hact (fun e9 => by subst e9; exact absurd (by decide) c27)
                refine lv_lload hx hb dL_links_892 (lv_at hl9 1 rfl) ?_
                refine lv_aload hx hb dL_links_894 (lv_at hl9 3 rfl) ?_
                refine lv_aload hx hb dL_links_896 (lv_at hl9 13 rfl) ?_
                refine lv_aload hx hb dL_links_898 (lv_at hl9 14 rfl) ?_
                refine lv_aload hx hb dL_links_900 (lv_at hl9 15 rfl) ?_
                refine lv_iload hx hb dL_links_902 (lv_at hl9 5 rfl) ?_
                have h28 : f24 le = some (.inl (cI G, 16, .inl (jE (e8 ((missS (takeS S0)).1) ((missS (takeS S0)).2.1) ((missS (takeS S0)).2.2.1) ((missS (takeS S0)).2.2.2.1) ((missS (takeS S0)).2.2.2.2.1) ((missS (takeS S0)).2.2.2.2.2.1) ((missS (takeS S0)).2.2.2.2.2.2.1) (nI (missS (takeS S0)).2.2.2.2.2.2.2.2.length)) (eS S1)))) := h26
                have h29 : f24 lx = some (.inl (cJ G, 64, .inr (.inl (pullN xs0 L1.length)))) := by rw [ef24, va_up_ne _ _ n_lx_le]; exact h19
                have h30 : f2 la = some (.inl (cI G, 12, .inl (j6 ga0 ga1))) := k4 _ _ k_la (Nat.ne_of_beq_eq_false rfl) (hdos _ (List.mem_cons_of_mem _ (List.mem_cons_of_mem _ (List.mem_cons_of_mem _ List.mem_cons_self))))
                have h31 : f5 la = some (.inl (cI G, 12, .inl (j6 ga0 ga1))) := k7 _ _ h30 (Nat.ne_of_beq_eq_false rfl) (hdos _ (List.mem_cons_of_mem _ (List.mem_cons_of_mem _ (List.mem_cons_of_mem _ List.mem_cons_self))))
                have h32 : f8 la = some (.inl (cI G, 12, .inl (j6 ga0 ga1))) := k10 _ _ h31 (Nat.ne_of_beq_eq_false rfl) (hdos _ (List.mem_cons_of_mem _ (List.mem_cons_of_mem _ (List.mem_cons_of_mem _ List.mem_cons_self))))
                have h33 : f18 la = some (.inl (cI G, 12, .inl (j6 ga0 ga1))) := (hEq.k k21) _ _ h32 (ninc (Ne.symm n_lx_la) (ninc n_la_le nin0))
                have h34 : f24 la = some (.inl (cI G, 12, .inl (j6 ga0 ga1))) := by rw [ef24, va_up_ne _ _ n_la_le]; exact h33
                have h35 : f2 lq = some (.inl (cI G, 12, .inl (j6 S0.2.2.2.2.2.2.2.1 S1.2.2.2.2.2.2.2.1))) := k4 _ _ k_lq (Nat.ne_of_beq_eq_false rfl) (hdos _ (List.mem_cons_of_mem _ (List.mem_cons_of_mem _ (List.mem_cons_of_mem _ (List.mem_cons_of_mem _ List.mem_cons_self)))))
                have h36 : f5 lq = some (.inl (cI G, 12, .inl (j6 S0.2.2.2.2.2.2.2.1 S1.2.2.2.2.2.2.2.1))) := k7 _ _ h35 (Nat.ne_of_beq_eq_false rfl) (hdos _ (List.mem_cons_of_mem _ (List.mem_cons_of_mem _ (List.mem_cons_of_mem _ (List.mem_cons_of_mem _ List.mem_cons_self)))))
                have h37 : f8 lq = some (.inl (cI G, 12, .inl (j6 S0.2.2.2.2.2.2.2.1 S1.2.2.2.2.2.2.2.1))) := k10 _ _ h36 (Nat.ne_of_beq_eq_false rfl) (hdos _ (List.mem_cons_of_mem _ (List.mem_cons_of_mem _ (List.mem_cons_of_mem _ (List.mem_cons_of_mem _ List.mem_cons_self)))))
                have h38 : f18 lq = some (.inl (cI G, 12, .inl (j6 S0.2.2.2.2.2.2.2.1 S1.2.2.2.2.2.2.2.1))) := (hEq.k k21) _ _ h37 (ninc (Ne.symm n_lx_lq) (ninc n_lq_le nin0))
                have h39 : f24 lq = some (.inl (cI G, 12, .inl (j6 S0.2.2.2.2.2.2.2.1 S1.2.2.2.2.2.2.2.1))) := by rw [ef24, va_up_ne _ _ n_lq_le]; exact h38
                refine hp_S (As := [.long (lN (pkN r)), .ref lx, .ref la, .ref lq, .ref le, .int 0]) (rest := []) B0 hw hS (c_L_take_0 hl G f24 lx la lq le (missS (takeS S0)).1 (missS (takeS S0)).2.1 (missS (takeS S0)).2.2.1 (missS (takeS S0)).2.2.2.1 (missS (takeS S0)).2.2.2.2.1 (missS (takeS S0)).2.2.2.2.2.1 (missS (takeS S0)).2.2.2.2.2.2.1 (missS (takeS S0)).2.2.2.2.2.2.2.1 (missS (takeS S0)).2.2.2.2.2.2.2.2 (eS S1) ga0 ga1 S1.2.2.2.2.2.2.2.1 b (SOK.miss (SOK.take hSo0)) (by omega) r.1 r.2.1 r.2.2.1 r.2.2.2 hFo hga0 n_la_lq (pullN xs0 L1.length) (show XS (pullN xs0 L1.length) (takeS S0).2.2.2.2.2.2.2.2 from (show XS _ S0.2.2.2.2.2.2.2.2.tail from by rw [hLk]; exact hXk.tail)) (Nat.lt_of_le_of_lt (Nat.le_trans (takeS_len S0) hl0) (by decide)) h29 h34 h39 h28) mS_L_take qM_L_127 rfl rfl hl9.1 (Nat.le_of_ble_eq_true rfl) ⟨⟨Nat.le_of_ble_eq_true rfl, Nat.le_of_ble_eq_true rfl⟩, Nat.le_of_ble_eq_true rfl, Nat.le_of_ble_eq_true rfl⟩ dL_links_904 (fun E ce q9 f40 H locs hPX hw hS hce hcv hcl => ?_) (fun v f40 H locs hP hw hS => ?_)
                · exact hPX.elim
                · obtain ⟨ev9, ⟨xs41, h42, hX43⟩, h44, h45, k46⟩ := hP
                  subst ev9
                  have h44 : f40 lq = some (.inl (cI G, 12, .inl (j6 (hearF ga0 r (missS (takeS S0))).2.2.2.2.2.2.2.1 S1.2.2.2.2.2.2.2.1))) := h44
                  have h47 : f40 le = some (.inl (cI G, 16, .inl (jE (e8 ((hearF ga0 r (missS (takeS S0))).1) ((hearF ga0 r (missS (takeS S0))).2.1) ((hearF ga0 r (missS (takeS S0))).2.2.1) ((hearF ga0 r (missS (takeS S0))).2.2.2.1) ((hearF ga0 r (missS (takeS S0))).2.2.2.2.1) ((hearF ga0 r (missS (takeS S0))).2.2.2.2.2.1) ((hearF ga0 r (missS (takeS S0))).2.2.2.2.2.2.1) (nI (hearF ga0 r (missS (takeS S0))).2.2.2.2.2.2.2.2.length)) (eS S1)))) := h45
                  refine W.eq (g2 := F0 m 907 ls []) rfl ?_
                  refine lv_aload_n hx hb dL_links_907 rfl (lv_at hl9 6 rfl) ?_
                  refine lv_iload hx hb dL_links_908 (lv_at hl9 5 rfl) ?_
                  have h48 : f2 ly = some (.inl (cJ G, 64, .inr (.inl xs1))) := k4 _ _ k_ly (Nat.ne_of_beq_eq_false rfl) (hdos _ (List.mem_cons_of_mem _ List.mem_cons_self))
                  have h49 : f5 ly = some (.inl (cJ G, 64, .inr (.inl xs1))) := k7 _ _ h48 (Nat.ne_of_beq_eq_false rfl) (hdos _ (List.mem_cons_of_mem _ List.mem_cons_self))
                  have h50 : f8 ly = some (.inl (cJ G, 64, .inr (.inl xs1))) := k10 _ _ h49 (Nat.ne_of_beq_eq_false rfl) (hdos _ (List.mem_cons_of_mem _ List.mem_cons_self))
                  have h51 : f2 lw = some (.inl (cI G, 12, .inl (j6 gw0 gw1))) := k4 _ _ k_lw (Nat.ne_of_beq_eq_false rfl) (hdos _ (List.mem_cons_of_mem _ (List.mem_cons_of_mem _ List.mem_cons_self)))
                  have h52 : f5 lw = some (.inl (cI G, 12, .inl (j6 gw0 gw1))) := k7 _ _ h51 (Nat.ne_of_beq_eq_false rfl) (hdos _ (List.mem_cons_of_mem _ (List.mem_cons_of_mem _ List.mem_cons_self)))
                  have h53 : f8 lw = some (.inl (cI G, 12, .inl (j6 gw0 gw1))) := k10 _ _ h52 (Nat.ne_of_beq_eq_false rfl) (hdos _ (List.mem_cons_of_mem _ (List.mem_cons_of_mem _ List.mem_cons_self)))
                  have h54 : f18 ly = some (.inl (cJ G, 64, .inr (.inl xs1))) := (hEq.k k21) _ _ h50 (ninc (Ne.symm n_lx_ly) (ninc n_ly_le nin0))
                  have h55 : f24 ly = some (.inl (cJ G, 64, .inr (.inl xs1))) := by rw [ef24, va_up_ne _ _ n_ly_le]; exact h54
                  have h56 : f40 ly = some (.inl (cJ G, 64, .inr (.inl xs1))) := (hEq.k k46) _ _ h55 (ninc (Ne.symm n_lx_ly) (ninc n_ly_lq (ninc n_ly_le nin0)))
                  have h57 : f18 lw = some (.inl (cI G, 12, .inl (j6 gw0 gw1))) := (hEq.k k21) _ _ h53 (ninc (Ne.symm n_lx_lw) (ninc n_lw_le nin0))
                  have h58 : f24 lw = some (.inl (cI G, 12, .inl (j6 gw0 gw1))) := by rw [ef24, va_up_ne _ _ n_lw_le]; exact h57
                  have h59 : f40 lw = some (.inl (cI G, 12, .inl (j6 gw0 gw1))) := (hEq.k k46) _ _ h58 (ninc (Ne.symm n_lx_lw) (ninc n_lw_lq (ninc n_lw_le nin0)))
                  have h60 : f40 la = some (.inl (cI G, 12, .inl (j6 ga0 ga1))) := (hEq.k k46) _ _ h34 (ninc (Ne.symm n_lx_la) (ninc n_la_lq (ninc n_la_le nin0)))
                  have hC61 : CXW G f40 xo ez eo bu nw0 na0 nq0 nr0 nw1 na1 nq1 nr1 bs bp bh bf bl bg S0 S1 gw0 ga0 gw1 ga1 n a cg x sa pk fl gv gh gl := CXW.eq hC9 ((show hEq [lx, ly, lw, la, lq, le] f8 f18 from (hEq.mono k21 (sub_cons List.mem_cons_self (sub_cons (List.mem_cons_of_mem _ (List.mem_cons_of_mem _ (List.mem_cons_of_mem _ (List.mem_cons_of_mem _ (List.mem_cons_of_mem _ List.mem_cons_self))))) sub_nil)))).tr ((show hEq [lx, ly, lw, la, lq, le] f18 f24 from (by rw [ef24]; exact hEq.up (List.mem_cons_of_mem _ (List.mem_cons_of_mem _ (List.mem_cons_of_mem _ (List.mem_cons_of_mem _ (List.mem_cons_of_mem _ List.mem_cons_self))))))).tr (show hEq [lx, ly, lw, la, lq, le] f24 f40 from (hEq.mono k46 (sub_cons List.mem_cons_self (sub_cons (List.mem_cons_of_mem _ (List.mem_cons_of_mem _ (List.mem_cons_of_mem _ (List.mem_cons_of_mem _ List.mem_cons_self)))) (sub_cons (List.mem_cons_of_mem _ (List.mem_cons_of_mem _ (List.mem_cons_of_mem _ (List.mem_cons_of_mem _ (List.mem_cons_of_mem _ List.mem_cons_self))))) sub_nil))))))) hdis (fun b9 hb9 => by
                      simp only [List.mem_cons, List.not_mem_nil, or_false] at hb9
                      rcases hb9 with hb9 | hb9 | hb9 | hb9 | hb9 | hb9
                      · rw [hb9]; exact ⟨_, _, h17, h42, (Nat.ne_of_beq_eq_false rfl), (Nat.ne_of_beq_eq_false rfl)⟩
                      · rw [hb9]; exact ⟨_, _, h50, h56, (Nat.ne_of_beq_eq_false rfl), (Nat.ne_of_beq_eq_false rfl)⟩
                      · rw [hb9]; exact ⟨_, _, h53, h59, (Nat.ne_of_beq_eq_false rfl), (Nat.ne_of_beq_eq_false rfl)⟩
                      · rw [hb9]; exact ⟨_, _, h32, h60, (Nat.ne_of_beq_eq_false rfl), (Nat.ne_of_beq_eq_false rfl)⟩
                      · rw [hb9]; exact ⟨_, _, h37, h44, (Nat.ne_of_beq_eq_false rfl), (Nat.ne_of_beq_eq_false rfl)⟩
                      · rw [hb9]; exact ⟨_, _, h13, h47, (Nat.ne_of_beq_eq_false rfl), (Nat.ne_of_beq_eq_false rfl)⟩)
                  refine hp_SH (As := [.ref xo, .int 0]) (rest := []) B0 hw hS (c_V_loop_0 hl G f40 xo ez eo bu nw0 na0 nq0 nr0 nw1 na1 nq1 nr1 bs bp bh bf bl bg S0 S1 gw0 ga0 gw1 ga1 n a cg x sa pk fl gv gh gl hC61 (Nat.lt_of_le_of_lt hl0 (by decide)) (Nat.lt_of_le_of_lt hl1 (by decide)) (by rw [hLk]; exact fun h9 => nomatch h9)) mH_L_loop qM_L_121 rfl rfl hl9.1 (Nat.le_of_ble_eq_true rfl) ⟨⟨Nat.le_of_ble_eq_true rfl, Nat.le_of_ble_eq_true rfl⟩, Nat.le_of_ble_eq_true rfl, Nat.le_of_ble_eq_true rfl⟩ dL_links_910 (fun E ce q9 f62 H locs hPX hw hS hce hcv hcl => ?_) (fun v f62 H locs hP hw hS => ?_)
                  · exact hPX.elim
                  · obtain ⟨r9, L9, eL9, ev9, hC63, k64⟩ := hP
                    obtain ⟨er9, -⟩ := List.cons.inj (eL9.symm.trans hLk)
                    rw [er9] at ev9 hC63
                    subst ev9
                    have hC63 : CXW G f62 xo ez eo bu nw0 na0 nq0 nr0 nw1 na1 nq1 nr1 bs bp bh bf bl bg (hearF ga0 r (missS (takeS S0))) S1 gw0 ga0 gw1 ga1 n a cg x sa pk fl gv gh gl := hC63
                    refine W.eq (g2 := F0 m 913 ls [.int r.1]) rfl ?_
                    refine lv_iload hx hb dL_links_913 (lv_at hl9 0 rfl) ?_
                    refine lv_icmp_ne (tgt := 922) hx hb dL_links_915 (by decide) (fun c9 => absurd rfl c9) (fun _ => ?_)
                    refine lv_iconst (v := 1) hx hb dL_links_918 (by decide) ?_
                    refine lv_goto (tgt := 923) hx hb dL_links_919 (by decide) ?_
                    have h65 : f62 lx = some (.inl (cJ G, 64, .inr (.inl xs41))) := k64 _ _ h42 (Nat.ne_of_beq_eq_false rfl) (hdos _ List.mem_cons_self)
                    have h66 : f62 ly = some (.inl (cJ G, 64, .inr (.inl xs1))) := k64 _ _ h56 (Nat.ne_of_beq_eq_false rfl) (hdos _ (List.mem_cons_of_mem _ List.mem_cons_self))
                    have h67 : f62 lw = some (.inl (cI G, 12, .inl (j6 gw0 gw1))) := k64 _ _ h59 (Nat.ne_of_beq_eq_false rfl) (hdos _ (List.mem_cons_of_mem _ (List.mem_cons_of_mem _ List.mem_cons_self)))
                    have h68 : f62 la = some (.inl (cI G, 12, .inl (j6 ga0 ga1))) := k64 _ _ h60 (Nat.ne_of_beq_eq_false rfl) (hdos _ (List.mem_cons_of_mem _ (List.mem_cons_of_mem _ (List.mem_cons_of_mem _ List.mem_cons_self))))
                    have h69 : f62 lq = some (.inl (cI G, 12, .inl (j6 (hearF ga0 r (missS (takeS S0))).2.2.2.2.2.2.2.1 S1.2.2.2.2.2.2.2.1))) := k64 _ _ h44 (Nat.ne_of_beq_eq_false rfl) (hdos _ (List.mem_cons_of_mem _ (List.mem_cons_of_mem _ (List.mem_cons_of_mem _ (List.mem_cons_of_mem _ List.mem_cons_self)))))
                    have h70 : f62 le = some (.inl (cI G, 16, .inl (jE (e8 ((hearF ga0 r (missS (takeS S0))).1) ((hearF ga0 r (missS (takeS S0))).2.1) ((hearF ga0 r (missS (takeS S0))).2.2.1) ((hearF ga0 r (missS (takeS S0))).2.2.2.1) ((hearF ga0 r (missS (takeS S0))).2.2.2.2.1) ((hearF ga0 r (missS (takeS S0))).2.2.2.2.2.1) ((hearF ga0 r (missS (takeS S0))).2.2.2.2.2.2.1) (nI (hearF ga0 r (missS (takeS S0))).2.2.2.2.2.2.2.2.length)) (eS S1)))) := k64 _ _ h47 (Nat.ne_of_beq_eq_false rfl) (hdos _ (List.mem_cons_of_mem _ (List.mem_cons_of_mem _ (List.mem_cons_of_mem _ (List.mem_cons_of_mem _ (List.mem_cons_of_mem _ List.mem_cons_self))))))
                    exact hp_zret (v := 1) B0 hw hS hr ⟨Nat.le_of_ble_eq_true rfl, Nat.le_of_ble_eq_true rfl⟩ (rfl) dL_links_923 (⟨rfl, (hearF ga0 r (missS (takeS S0))), S1, gw0, ga0, gw1, ga1, hC63, ⟨⟨_, h65, (show XS xs41 (hearF ga0 r (missS (takeS S0))).2.2.2.2.2.2.2.2 from hX43)⟩, ⟨_, h66, hX1⟩, h67, h68, h69, h70⟩, ⟨SOK.mono (SOK.hear (SOK.miss (SOK.take hSo0)) (by omega) hFo) (by omega), SOK.mono hSo1 (by omega), hgw0, hga0, hgw1, hga1⟩, (Nat.le_trans (hearF_len ga0 r (missS (takeS S0))) (Nat.le_trans (Nat.add_le_add_right (takeS_len S0) 2) (by omega))), hl1, ((show hKn [lx, ly, lw, la, lq, le, xo, ez, eo, bu, nw0, na0, nq0, nr0, nw1, na1, nq1, nr1, bs, bp, bh, bf, bl, bg] f f2 from (hKn.mono k4 sbA)).tr ((show hKn [lx, ly, lw, la, lq, le, xo, ez, eo, bu, nw0, na0, nq0, nr0, nw1, na1, nq1, nr1, bs, bp, bh, bf, bl, bg] f2 f5 from (hKn.mono k7 sbA)).tr ((show hKn [lx, ly, lw, la, lq, le, xo, ez, eo, bu, nw0, na0, nq0, nr0, nw1, na1, nq1, nr1, bs, bp, bh, bf, bl, bg] f5 f8 from (hKn.mono k10 sbA)).tr ((show hKn [lx, ly, lw, la, lq, le, xo, ez, eo, bu, nw0, na0, nq0, nr0, nw1, na1, nq1, nr1, bs, bp, bh, bf, bl, bg] f8 f18 from (hKn.mono (hKn.eq k21) (sub_cons List.mem_cons_self (sub_cons (List.mem_cons_of_mem _ (List.mem_cons_of_mem _ (List.mem_cons_of_mem _ (List.mem_cons_of_mem _ (List.mem_cons_of_mem _ List.mem_cons_self))))) sub_nil)))).tr ((show hKn [lx, ly, lw, la, lq, le, xo, ez, eo, bu, nw0, na0, nq0, nr0, nw1, na1, nq1, nr1, bs, bp, bh, bf, bl, bg] f18 f24 from (by rw [ef24]; exact hKn.up (List.mem_cons_of_mem _ (List.mem_cons_of_mem _ (List.mem_cons_of_mem _ (List.mem_cons_of_mem _ (List.mem_cons_of_mem _ List.mem_cons_self))))))).tr ((show hKn [lx, ly, lw, la, lq, le, xo, ez, eo, bu, nw0, na0, nq0, nr0, nw1, na1, nq1, nr1, bs, bp, bh, bf, bl, bg] f24 f40 from (hKn.mono (hKn.eq k46) (sub_cons List.mem_cons_self (sub_cons (List.mem_cons_of_mem _ (List.mem_cons_of_mem _ (List.mem_cons_of_mem _ (List.mem_cons_of_mem _ List.mem_cons_self)))) (sub_cons (List.mem_cons_of_mem _ (List.mem_cons_of_mem _ (List.mem_cons_of_mem _ (List.mem_cons_of_mem _ (List.mem_cons_of_mem _ List.mem_cons_self))))) sub_nil))))).tr (show hKn [lx, ly, lw, la, lq, le, xo, ez, eo, bu, nw0, na0, nq0, nr0, nw1, na1, nq1, nr1, bs, bp, bh, bf, bl, bg] f40 f62 from (hKn.mono k64 sbA))))))))⟩)
              · refine lv_aload_n hx hb dL_links_875 rfl (lv_at hl9 6 rfl) ?_
                refine lv_iload hx hb dL_links_876 (lv_at hl9 5 rfl) ?_
                have h71 : f2 ly = some (.inl (cJ G, 64, .inr (.inl xs1))) := k4 _ _ k_ly (Nat.ne_of_beq_eq_false rfl) (hdos _ (List.mem_cons_of_mem _ List.mem_cons_self))
                have h72 : f5 ly = some (.inl (cJ G, 64, .inr (.inl xs1))) := k7 _ _ h71 (Nat.ne_of_beq_eq_false rfl) (hdos _ (List.mem_cons_of_mem _ List.mem_cons_self))
                have h73 : f8 ly = some (.inl (cJ G, 64, .inr (.inl xs1))) := k10 _ _ h72 (Nat.ne_of_beq_eq_false rfl) (hdos _ (List.mem_cons_of_mem _ List.mem_cons_self))
                have h74 : f2 lw = some (.inl (cI G, 12, .inl (j6 gw0 gw1))) := k4 _ _ k_lw (Nat.ne_of_beq_eq_false rfl) (hdos _ (List.mem_cons_of_mem _ (List.mem_cons_of_mem _ List.mem_cons_self)))
                have h75 : f5 lw = some (.inl (cI G, 12, .inl (j6 gw0 gw1))) := k7 _ _ h74 (Nat.ne_of_beq_eq_false rfl) (hdos _ (List.mem_cons_of_mem _ (List.mem_cons_of_mem _ List.mem_cons_self)))
                have h76 : f8 lw = some (.inl (cI G, 12, .inl (j6 gw0 gw1))) := k10 _ _ h75 (Nat.ne_of_beq_eq_false rfl) (hdos _ (List.mem_cons_of_mem _ (List.mem_cons_of_mem _ List.mem_cons_self)))
                have h77 : f2 la = some (.inl (cI G, 12, .inl (j6 ga0 ga1))) := k4 _ _ k_la (Nat.ne_of_beq_eq_false rfl) (hdos _ (List.mem_cons_of_mem _ (List.mem_cons_of_mem _ (List.mem_cons_of_mem _ List.mem_cons_self))))
                have h78 : f5 la = some (.inl (cI G, 12, .inl (j6 ga0 ga1))) := k7 _ _ h77 (Nat.ne_of_beq_eq_false rfl) (hdos _ (List.mem_cons_of_mem _ (List.mem_cons_of_mem _ (List.mem_cons_of_mem _ List.mem_cons_self))))
                have h79 : f8 la = some (.inl (cI G, 12, .inl (j6 ga0 ga1))) := k10 _ _ h78 (Nat.ne_of_beq_eq_false rfl) (hdos _ (List.mem_cons_of_mem _ (List.mem_cons_of_mem _ (List.mem_cons_of_mem _ List.mem_cons_self))))
                have h80 : f2 lq = some (.inl (cI G, 12, .inl (j6 S0.2.2.2.2.2.2.2.1 S1.2.2.2.2.2.2.2.1))) := k4 _ _ k_lq (Nat.ne_of_beq_eq_false rfl) (hdos _ (List.mem_cons_of_mem _ (List.mem_cons_of_mem _ (List.mem_cons_of_mem _ (List.mem_cons_of_mem _ List.mem_cons_self)))))
                have h81 : f5 lq = some (.inl (cI G, 12, .inl (j6 S0.2.2.2.2.2.2.2.1 S1.2.2.2.2.2.2.2.1))) := k7 _ _ h80 (Nat.ne_of_beq_eq_false rfl) (hdos _ (List.mem_cons_of_mem _ (List.mem_cons_of_mem _ (List.mem_cons_of_mem _ (List.mem_cons_of_mem _ List.mem_cons_self)))))
                have h82 : f8 lq = some (.inl (cI G, 12, .inl (j6 S0.2.2.2.2.2.2.2.1 S1.2.2.2.2.2.2.2.1))) := k10 _ _ h81 (Nat.ne_of_beq_eq_false rfl) (hdos _ (List.mem_cons_of_mem _ (List.mem_cons_of_mem _ (List.mem_cons_of_mem _ (List.mem_cons_of_mem _ List.mem_cons_self)))))
                have h83 : f24 lx = some (.inl (cJ G, 64, .inr (.inl (pullN xs0 L1.length)))) := by rw [ef24, va_up_ne _ _ n_lx_le]; exact h19
                have h84 : f18 ly = some (.inl (cJ G, 64, .inr (.inl xs1))) := (hEq.k k21) _ _ h73 (ninc (Ne.symm n_lx_ly) (ninc n_ly_le nin0))
                have h85 : f24 ly = some (.inl (cJ G, 64, .inr (.inl xs1))) := by rw [ef24, va_up_ne _ _ n_ly_le]; exact h84
                have h86 : f18 lw = some (.inl (cI G, 12, .inl (j6 gw0 gw1))) := (hEq.k k21) _ _ h76 (ninc (Ne.symm n_lx_lw) (ninc n_lw_le nin0))
                have h87 : f24 lw = some (.inl (cI G, 12, .inl (j6 gw0 gw1))) := by rw [ef24, va_up_ne _ _ n_lw_le]; exact h86
                have h88 : f18 la = some (.inl (cI G, 12, .inl (j6 ga0 ga1))) := (hEq.k k21) _ _ h79 (ninc (Ne.symm n_lx_la) (ninc n_la_le nin0))
                have h89 : f24 la = some (.inl (cI G, 12, .inl (j6 ga0 ga1))) := by rw [ef24, va_up_ne _ _ n_la_le]; exact h88
                have h90 : f18 lq = some (.inl (cI G, 12, .inl (j6 S0.2.2.2.2.2.2.2.1 S1.2.2.2.2.2.2.2.1))) := (hEq.k k21) _ _ h82 (ninc (Ne.symm n_lx_lq) (ninc n_lq_le nin0))
                have h91 : f24 lq = some (.inl (cI G, 12, .inl (j6 S0.2.2.2.2.2.2.2.1 S1.2.2.2.2.2.2.2.1))) := by rw [ef24, va_up_ne _ _ n_lq_le]; exact h90
                have hC92 : CXW G f24 xo ez eo bu nw0 na0 nq0 nr0 nw1 na1 nq1 nr1 bs bp bh bf bl bg S0 S1 gw0 ga0 gw1 ga1 n a cg x sa pk fl gv gh gl := CXW.eq hC9 ((show hEq [lx, ly, lw, la, lq, le] f8 f18 from (hEq.mono k21 (sub_cons List.mem_cons_self (sub_cons (List.mem_cons_of_mem _ (List.mem_cons_of_mem _ (List.mem_cons_of_mem _ (List.mem_cons_of_mem _ (List.mem_cons_of_mem _ List.mem_cons_self))))) sub_nil)))).tr (show hEq [lx, ly, lw, la, lq, le] f18 f24 from (by rw [ef24]; exact hEq.up (List.mem_cons_of_mem _ (List.mem_cons_of_mem _ (List.mem_cons_of_mem _ (List.mem_cons_of_mem _ (List.mem_cons_of_mem _ List.mem_cons_self)))))))) hdis (fun b9 hb9 => by
                    simp only [List.mem_cons, List.not_mem_nil, or_false] at hb9
                    rcases hb9 with hb9 | hb9 | hb9 | hb9 | hb9 | hb9
                    · rw [hb9]; exact ⟨_, _, h17, h83, (Nat.ne_of_beq_eq_false rfl), (Nat.ne_of_beq_eq_false rfl)⟩
                    · rw [hb9]; exact ⟨_, _, h73, h85, (Nat.ne_of_beq_eq_false rfl), (Nat.ne_of_beq_eq_false rfl)⟩
                    · rw [hb9]; exact ⟨_, _, h76, h87, (Nat.ne_of_beq_eq_false rfl), (Nat.ne_of_beq_eq_false rfl)⟩
                    · rw [hb9]; exact ⟨_, _, h79, h89, (Nat.ne_of_beq_eq_false rfl), (Nat.ne_of_beq_eq_false rfl)⟩
                    · rw [hb9]; exact ⟨_, _, h82, h91, (Nat.ne_of_beq_eq_false rfl), (Nat.ne_of_beq_eq_false rfl)⟩
                    · rw [hb9]; exact ⟨_, _, h13, h26, (Nat.ne_of_beq_eq_false rfl), (Nat.ne_of_beq_eq_false rfl)⟩)
                refine hp_SH (As := [.ref xo, .int 0]) (rest := []) B0 hw hS (c_V_lose_0 hl G f24 xo ez eo bu nw0 na0 nq0 nr0 nw1 na1 nq1 nr1 bs bp bh bf bl bg S0 S1 gw0 ga0 gw1 ga1 n a cg x sa pk fl gv gh gl hC92 (Nat.lt_of_le_of_lt hl0 (by decide)) (Nat.lt_of_le_of_lt hl1 (by decide)) (by rw [hLk]; exact fun h9 => nomatch h9)) mH_L_lose qM_L_119 rfl rfl hl9.1 (Nat.le_of_ble_eq_true rfl) ⟨⟨Nat.le_of_ble_eq_true rfl, Nat.le_of_ble_eq_true rfl⟩, Nat.le_of_ble_eq_true rfl, Nat.le_of_ble_eq_true rfl⟩ dL_links_878 (fun E ce q9 f93 H locs hPX hw hS hce hcv hcl => ?_) (fun v f93 H locs hP hw hS => ?_)
                · exact hPX.elim
                · obtain ⟨r9, L9, eL9, ev9, hC94, k95⟩ := hP
                  obtain ⟨er9, -⟩ := List.cons.inj (eL9.symm.trans hLk)
                  rw [er9] at ev9 hC94
                  subst ev9
                  have hC94 : CXW G f93 xo ez eo bu nw0 na0 nq0 nr0 nw1 na1 nq1 nr1 bs bp bh bf bl bg (missS (takeS S0)) S1 gw0 ga0 gw1 ga1 n a cg x sa pk fl gv gh gl := hC94
                  refine W.eq (g2 := F0 m 881 ls [.int r.1]) rfl ?_
                  refine lv_iload hx hb dL_links_881 (lv_at hl9 0 rfl) ?_
                  refine lv_icmp_ne (tgt := 890) hx hb dL_links_883 (by decide) (fun c9 => absurd rfl c9) (fun _ => ?_)
                  refine lv_iconst (v := 1) hx hb dL_links_886 (by decide) ?_
                  refine lv_goto (tgt := 891) hx hb dL_links_887 (by decide) ?_
                  have h96 : f93 lx = some (.inl (cJ G, 64, .inr (.inl (pullN xs0 L1.length)))) := k95 _ _ h83 (Nat.ne_of_beq_eq_false rfl) (hdos _ List.mem_cons_self)
                  have h97 : f93 ly = some (.inl (cJ G, 64, .inr (.inl xs1))) := k95 _ _ h85 (Nat.ne_of_beq_eq_false rfl) (hdos _ (List.mem_cons_of_mem _ List.mem_cons_self))
                  have h98 : f93 lw = some (.inl (cI G, 12, .inl (j6 gw0 gw1))) := k95 _ _ h87 (Nat.ne_of_beq_eq_false rfl) (hdos _ (List.mem_cons_of_mem _ (List.mem_cons_of_mem _ List.mem_cons_self)))
                  have h99 : f93 la = some (.inl (cI G, 12, .inl (j6 ga0 ga1))) := k95 _ _ h89 (Nat.ne_of_beq_eq_false rfl) (hdos _ (List.mem_cons_of_mem _ (List.mem_cons_of_mem _ (List.mem_cons_of_mem _ List.mem_cons_self))))
                  have h100 : f93 lq = some (.inl (cI G, 12, .inl (j6 S0.2.2.2.2.2.2.2.1 S1.2.2.2.2.2.2.2.1))) := k95 _ _ h91 (Nat.ne_of_beq_eq_false rfl) (hdos _ (List.mem_cons_of_mem _ (List.mem_cons_of_mem _ (List.mem_cons_of_mem _ (List.mem_cons_of_mem _ List.mem_cons_self)))))
                  have h101 : f93 le = some (.inl (cI G, 16, .inl (jE (e8 ((missS (takeS S0)).1) ((missS (takeS S0)).2.1) ((missS (takeS S0)).2.2.1) ((missS (takeS S0)).2.2.2.1) ((missS (takeS S0)).2.2.2.2.1) ((missS (takeS S0)).2.2.2.2.2.1) ((missS (takeS S0)).2.2.2.2.2.2.1) (nI (missS (takeS S0)).2.2.2.2.2.2.2.2.length)) (eS S1)))) := k95 _ _ h26 (Nat.ne_of_beq_eq_false rfl) (hdos _ (List.mem_cons_of_mem _ (List.mem_cons_of_mem _ (List.mem_cons_of_mem _ (List.mem_cons_of_mem _ (List.mem_cons_of_mem _ List.mem_cons_self))))))
                  exact hp_zret (v := 1) B0 hw hS hr ⟨Nat.le_of_ble_eq_true rfl, Nat.le_of_ble_eq_true rfl⟩ (rfl) dL_links_891 (⟨rfl, (missS (takeS S0)), S1, gw0, ga0, gw1, ga1, hC94, ⟨⟨_, h96, (show XS (pullN xs0 L1.length) (takeS S0).2.2.2.2.2.2.2.2 from (show XS _ S0.2.2.2.2.2.2.2.2.tail from by rw [hLk]; exact hXk.tail))⟩, ⟨_, h97, hX1⟩, h98, h99, h100, h101⟩, ⟨SOK.mono (SOK.miss (SOK.take hSo0)) (by omega), SOK.mono hSo1 (by omega), hgw0, hga0, hgw1, hga1⟩, (Nat.le_trans (takeS_len S0) hl0), hl1, ((show hKn [lx, ly, lw, la, lq, le, xo, ez, eo, bu, nw0, na0, nq0, nr0, nw1, na1, nq1, nr1, bs, bp, bh, bf, bl, bg] f f2 from (hKn.mono k4 sbA)).tr ((show hKn [lx, ly, lw, la, lq, le, xo, ez, eo, bu, nw0, na0, nq0, nr0, nw1, na1, nq1, nr1, bs, bp, bh, bf, bl, bg] f2 f5 from (hKn.mono k7 sbA)).tr ((show hKn [lx, ly, lw, la, lq, le, xo, ez, eo, bu, nw0, na0, nq0, nr0, nw1, na1, nq1, nr1, bs, bp, bh, bf, bl, bg] f5 f8 from (hKn.mono k10 sbA)).tr ((show hKn [lx, ly, lw, la, lq, le, xo, ez, eo, bu, nw0, na0, nq0, nr0, nw1, na1, nq1, nr1, bs, bp, bh, bf, bl, bg] f8 f18 from (hKn.mono (hKn.eq k21) (sub_cons List.mem_cons_self (sub_cons (List.mem_cons_of_mem _ (List.mem_cons_of_mem _ (List.mem_cons_of_mem _ (List.mem_cons_of_mem _ (List.mem_cons_of_mem _ List.mem_cons_self))))) sub_nil)))).tr ((show hKn [lx, ly, lw, la, lq, le, xo, ez, eo, bu, nw0, na0, nq0, nr0, nw1, na1, nq1, nr1, bs, bp, bh, bf, bl, bg] f18 f24 from (by rw [ef24]; exact hKn.up (List.mem_cons_of_mem _ (List.mem_cons_of_mem _ (List.mem_cons_of_mem _ (List.mem_cons_of_mem _ (List.mem_cons_of_mem _ List.mem_cons_self))))))).tr (show hKn [lx, ly, lw, la, lq, le, xo, ez, eo, bu, nw0, na0, nq0, nr0, nw1, na1, nq1, nr1, bs, bp, bh, bf, bl, bg] f24 f93 from (hKn.mono k95 sbA)))))))⟩)
            · obtain ⟨h40a, h40b⟩ := hact (fun e9 => by subst e9; exact absurd (by decide) c23)
              refine lv_lload hx hb dL_links_814 (lv_at hl9 1 rfl) ?_
              refine lv_iload hx hb dL_links_816 (lv_at hl9 5 rfl) ?_
              refine lv_if_ne (tgt := 826) hx hb dL_links_818 (by decide) (fun c9 => absurd (by decide) c9) (fun _ => ?_)
              refine lv_aload hx hb dL_links_821 (lv_at hl9 11 rfl) ?_
              refine lv_goto (tgt := 828) hx hb dL_links_823 (by decide) ?_
              refine lv_aload hx hb dL_links_828 (lv_at hl9 13 rfl) ?_
              refine lv_aload hx hb dL_links_830 (lv_at hl9 14 rfl) ?_
              refine lv_aload hx hb dL_links_832 (lv_at hl9 15 rfl) ?_
              refine lv_iconst (v := 1) hx hb dL_links_834 (by decide) ?_
              refine lv_iload hx hb dL_links_835 (lv_at hl9 5 rfl) ?_
              refine lv_isub hx hb dL_links_837 ?_
              refine hp_c (v := 1) (by decide) ?_
              have h102 : f18 le = some (.inl (cI G, 16, .inl (jE (eS (takeS S0)) (e8 S1.1 S1.2.1 S1.2.2.1 S1.2.2.2.1 S1.2.2.2.2.1 S1.2.2.2.2.2.1 S1.2.2.2.2.2.2.1 (nI S1.2.2.2.2.2.2.2.2.length))))) := h22
              have h103 : f2 ly = some (.inl (cJ G, 64, .inr (.inl xs1))) := k4 _ _ k_ly (Nat.ne_of_beq_eq_false rfl) (hdos _ (List.mem_cons_of_mem _ List.mem_cons_self))
              have h104 : f5 ly = some (.inl (cJ G, 64, .inr (.inl xs1))) := k7 _ _ h103 (Nat.ne_of_beq_eq_false rfl) (hdos _ (List.mem_cons_of_mem _ List.mem_cons_self))
              have h105 : f8 ly = some (.inl (cJ G, 64, .inr (.inl xs1))) := k10 _ _ h104 (Nat.ne_of_beq_eq_false rfl) (hdos _ (List.mem_cons_of_mem _ List.mem_cons_self))
              have h106 : f18 ly = some (.inl (cJ G, 64, .inr (.inl xs1))) := (hEq.k k21) _ _ h105 (ninc (Ne.symm n_lx_ly) (ninc n_ly_le nin0))
              have h107 : f2 la = some (.inl (cI G, 12, .inl (j6 ga0 ga1))) := k4 _ _ k_la (Nat.ne_of_beq_eq_false rfl) (hdos _ (List.mem_cons_of_mem _ (List.mem_cons_of_mem _ (List.mem_cons_of_mem _ List.mem_cons_self))))
              have h108 : f5 la = some (.inl (cI G, 12, .inl (j6 ga0 ga1))) := k7 _ _ h107 (Nat.ne_of_beq_eq_false rfl) (hdos _ (List.mem_cons_of_mem _ (List.mem_cons_of_mem _ (List.mem_cons_of_mem _ List.mem_cons_self))))
              have h109 : f8 la = some (.inl (cI G, 12, .inl (j6 ga0 ga1))) := k10 _ _ h108 (Nat.ne_of_beq_eq_false rfl) (hdos _ (List.mem_cons_of_mem _ (List.mem_cons_of_mem _ (List.mem_cons_of_mem _ List.mem_cons_self))))
              have h110 : f18 la = some (.inl (cI G, 12, .inl (j6 ga0 ga1))) := (hEq.k k21) _ _ h109 (ninc (Ne.symm n_lx_la) (ninc n_la_le nin0))
              have h111 : f2 lq = some (.inl (cI G, 12, .inl (j6 S0.2.2.2.2.2.2.2.1 S1.2.2.2.2.2.2.2.1))) := k4 _ _ k_lq (Nat.ne_of_beq_eq_false rfl) (hdos _ (List.mem_cons_of_mem _ (List.mem_cons_of_mem _ (List.mem_cons_of_mem _ (List.mem_cons_of_mem _ List.mem_cons_self)))))
              have h112 : f5 lq = some (.inl (cI G, 12, .inl (j6 S0.2.2.2.2.2.2.2.1 S1.2.2.2.2.2.2.2.1))) := k7 _ _ h111 (Nat.ne_of_beq_eq_false rfl) (hdos _ (List.mem_cons_of_mem _ (List.mem_cons_of_mem _ (List.mem_cons_of_mem _ (List.mem_cons_of_mem _ List.mem_cons_self)))))
              have h113 : f8 lq = some (.inl (cI G, 12, .inl (j6 S0.2.2.2.2.2.2.2.1 S1.2.2.2.2.2.2.2.1))) := k10 _ _ h112 (Nat.ne_of_beq_eq_false rfl) (hdos _ (List.mem_cons_of_mem _ (List.mem_cons_of_mem _ (List.mem_cons_of_mem _ (List.mem_cons_of_mem _ List.mem_cons_self)))))
              have h114 : f18 lq = some (.inl (cI G, 12, .inl (j6 S0.2.2.2.2.2.2.2.1 S1.2.2.2.2.2.2.2.1))) := (hEq.k k21) _ _ h113 (ninc (Ne.symm n_lx_lq) (ninc n_lq_le nin0))
              refine hp_S (As := [.long (lN (pkN r)), .ref ly, .ref la, .ref lq, .ref le, .int 1]) (rest := []) B0 hw hS (c_L_take_1 hl G f18 ly la lq le S1.1 S1.2.1 S1.2.2.1 S1.2.2.2.1 S1.2.2.2.2.1 S1.2.2.2.2.2.1 S1.2.2.2.2.2.2.1 S1.2.2.2.2.2.2.2.1 S1.2.2.2.2.2.2.2.2 (eS (takeS S0)) ga1 ga0 (takeS S0).2.2.2.2.2.2.2.1 b hSo1 (by omega) r.1 r.2.1 r.2.2.1 r.2.2.2 hFo hga1 n_la_lq xs1 hX1 (Nat.lt_of_le_of_lt hl1 (by decide)) h106 h110 h114 h102) mS_L_take qM_L_127 rfl rfl hl9.1 (Nat.le_of_ble_eq_true rfl) ⟨⟨Nat.le_of_ble_eq_true rfl, Nat.le_of_ble_eq_true rfl⟩, Nat.le_of_ble_eq_true rfl, Nat.le_of_ble_eq_true rfl⟩ dL_links_838 (fun E ce q9 f115 H locs hPX hw hS hce hcv hcl => ?_) (fun v f115 H locs hP hw hS => ?_)
              · exact hPX.elim
              · obtain ⟨ev9, ⟨xs116, h117, hX118⟩, h119, h120, k121⟩ := hP
                subst ev9
                have h119 : f115 lq = some (.inl (cI G, 12, .inl (j6 (takeS S0).2.2.2.2.2.2.2.1 (hearF ga1 r S1).2.2.2.2.2.2.2.1))) := h119
                have h122 : f115 le = some (.inl (cI G, 16, .inl (jE (e8 ((takeS S0).1) ((takeS S0).2.1) ((takeS S0).2.2.1) ((takeS S0).2.2.2.1) ((takeS S0).2.2.2.2.1) ((takeS S0).2.2.2.2.2.1) ((takeS S0).2.2.2.2.2.2.1) (nI (takeS S0).2.2.2.2.2.2.2.2.length)) (eS (hearF ga1 r S1))))) := h120
                refine W.eq (g2 := F0 m 841 ls []) rfl ?_
                refine lv_aload_n hx hb dL_links_841 rfl (lv_at hl9 6 rfl) ?_
                refine lv_iload hx hb dL_links_842 (lv_at hl9 5 rfl) ?_
                have h123 : f2 lw = some (.inl (cI G, 12, .inl (j6 gw0 gw1))) := k4 _ _ k_lw (Nat.ne_of_beq_eq_false rfl) (hdos _ (List.mem_cons_of_mem _ (List.mem_cons_of_mem _ List.mem_cons_self)))
                have h124 : f5 lw = some (.inl (cI G, 12, .inl (j6 gw0 gw1))) := k7 _ _ h123 (Nat.ne_of_beq_eq_false rfl) (hdos _ (List.mem_cons_of_mem _ (List.mem_cons_of_mem _ List.mem_cons_self)))
                have h125 : f8 lw = some (.inl (cI G, 12, .inl (j6 gw0 gw1))) := k10 _ _ h124 (Nat.ne_of_beq_eq_false rfl) (hdos _ (List.mem_cons_of_mem _ (List.mem_cons_of_mem _ List.mem_cons_self)))
                have h126 : f115 lx = some (.inl (cJ G, 64, .inr (.inl (pullN xs0 L1.length)))) := (hEq.k k121) _ _ h19 (ninc n_lx_ly (ninc n_lx_lq (ninc n_lx_le nin0)))
                have h127 : f18 lw = some (.inl (cI G, 12, .inl (j6 gw0 gw1))) := (hEq.k k21) _ _ h125 (ninc (Ne.symm n_lx_lw) (ninc n_lw_le nin0))
                have h128 : f115 lw = some (.inl (cI G, 12, .inl (j6 gw0 gw1))) := (hEq.k k121) _ _ h127 (ninc (Ne.symm n_ly_lw) (ninc n_lw_lq (ninc n_lw_le nin0)))
                have h129 : f115 la = some (.inl (cI G, 12, .inl (j6 ga0 ga1))) := (hEq.k k121) _ _ h110 (ninc (Ne.symm n_ly_la) (ninc n_la_lq (ninc n_la_le nin0)))
                have hC130 : CXW G f115 xo ez eo bu nw0 na0 nq0 nr0 nw1 na1 nq1 nr1 bs bp bh bf bl bg S0 S1 gw0 ga0 gw1 ga1 n a cg x sa pk fl gv gh gl := CXW.eq hC9 ((show hEq [lx, ly, lw, la, lq, le] f8 f18 from (hEq.mono k21 (sub_cons List.mem_cons_self (sub_cons (List.mem_cons_of_mem _ (List.mem_cons_of_mem _ (List.mem_cons_of_mem _ (List.mem_cons_of_mem _ (List.mem_cons_of_mem _ List.mem_cons_self))))) sub_nil)))).tr (show hEq [lx, ly, lw, la, lq, le] f18 f115 from (hEq.mono k121 (sub_cons (List.mem_cons_of_mem _ List.mem_cons_self) (sub_cons (List.mem_cons_of_mem _ (List.mem_cons_of_mem _ (List.mem_cons_of_mem _ (List.mem_cons_of_mem _ List.mem_cons_self)))) (sub_cons (List.mem_cons_of_mem _ (List.mem_cons_of_mem _ (List.mem_cons_of_mem _ (List.mem_cons_of_mem _ (List.mem_cons_of_mem _ List.mem_cons_self))))) sub_nil)))))) hdis (fun b9 hb9 => by
                    simp only [List.mem_cons, List.not_mem_nil, or_false] at hb9
                    rcases hb9 with hb9 | hb9 | hb9 | hb9 | hb9 | hb9
                    · rw [hb9]; exact ⟨_, _, h17, h126, (Nat.ne_of_beq_eq_false rfl), (Nat.ne_of_beq_eq_false rfl)⟩
                    · rw [hb9]; exact ⟨_, _, h105, h117, (Nat.ne_of_beq_eq_false rfl), (Nat.ne_of_beq_eq_false rfl)⟩
                    · rw [hb9]; exact ⟨_, _, h125, h128, (Nat.ne_of_beq_eq_false rfl), (Nat.ne_of_beq_eq_false rfl)⟩
                    · rw [hb9]; exact ⟨_, _, h109, h129, (Nat.ne_of_beq_eq_false rfl), (Nat.ne_of_beq_eq_false rfl)⟩
                    · rw [hb9]; exact ⟨_, _, h113, h119, (Nat.ne_of_beq_eq_false rfl), (Nat.ne_of_beq_eq_false rfl)⟩
                    · rw [hb9]; exact ⟨_, _, h13, h122, (Nat.ne_of_beq_eq_false rfl), (Nat.ne_of_beq_eq_false rfl)⟩)
                refine hp_SH (As := [.ref xo, .int 0]) (rest := []) B0 hw hS (c_V_deliver_0 hl G f115 xo ez eo bu nw0 na0 nq0 nr0 nw1 na1 nq1 nr1 bs bp bh bf bl bg S0 S1 gw0 ga0 gw1 ga1 n a cg x sa pk fl gv gh gl hC130 (Nat.lt_of_le_of_lt hl0 (by decide)) (Nat.lt_of_le_of_lt hl1 (by decide)) (by rw [hLk]; exact fun h9 => nomatch h9)) mH_L_deliver qM_L_117 rfl rfl hl9.1 (Nat.le_of_ble_eq_true rfl) ⟨⟨Nat.le_of_ble_eq_true rfl, Nat.le_of_ble_eq_true rfl⟩, Nat.le_of_ble_eq_true rfl, Nat.le_of_ble_eq_true rfl⟩ dL_links_844 (fun E ce q9 f131 H locs hPX hw hS hce hcv hcl => ?_) (fun v f131 H locs hP hw hS => ?_)
                · exact hPX.elim
                · obtain ⟨r9, L9, eL9, ev9, hC132, k133⟩ := hP
                  obtain ⟨er9, -⟩ := List.cons.inj (eL9.symm.trans hLk)
                  rw [er9] at ev9 hC132
                  subst ev9
                  have hC132 : CXW G f131 xo ez eo bu nw0 na0 nq0 nr0 nw1 na1 nq1 nr1 bs bp bh bf bl bg (takeS S0) (hearF ga1 r S1) gw0 ga0 gw1 ga1 n a cg x sa pk fl gv gh gl := hC132
                  refine W.eq (g2 := F0 m 847 ls [.int r.1]) rfl ?_
                  refine lv_iload hx hb dL_links_847 (lv_at hl9 0 rfl) ?_
                  refine lv_icmp_ne (tgt := 856) hx hb dL_links_849 (by decide) (fun c9 => absurd rfl c9) (fun _ => ?_)
                  refine lv_iconst (v := 1) hx hb dL_links_852 (by decide) ?_
                  refine lv_goto (tgt := 857) hx hb dL_links_853 (by decide) ?_
                  have h134 : f131 lx = some (.inl (cJ G, 64, .inr (.inl (pullN xs0 L1.length)))) := k133 _ _ h126 (Nat.ne_of_beq_eq_false rfl) (hdos _ List.mem_cons_self)
                  have h135 : f131 ly = some (.inl (cJ G, 64, .inr (.inl xs116))) := k133 _ _ h117 (Nat.ne_of_beq_eq_false rfl) (hdos _ (List.mem_cons_of_mem _ List.mem_cons_self))
                  have h136 : f131 lw = some (.inl (cI G, 12, .inl (j6 gw0 gw1))) := k133 _ _ h128 (Nat.ne_of_beq_eq_false rfl) (hdos _ (List.mem_cons_of_mem _ (List.mem_cons_of_mem _ List.mem_cons_self)))
                  have h137 : f131 la = some (.inl (cI G, 12, .inl (j6 ga0 ga1))) := k133 _ _ h129 (Nat.ne_of_beq_eq_false rfl) (hdos _ (List.mem_cons_of_mem _ (List.mem_cons_of_mem _ (List.mem_cons_of_mem _ List.mem_cons_self))))
                  have h138 : f131 lq = some (.inl (cI G, 12, .inl (j6 (takeS S0).2.2.2.2.2.2.2.1 (hearF ga1 r S1).2.2.2.2.2.2.2.1))) := k133 _ _ h119 (Nat.ne_of_beq_eq_false rfl) (hdos _ (List.mem_cons_of_mem _ (List.mem_cons_of_mem _ (List.mem_cons_of_mem _ (List.mem_cons_of_mem _ List.mem_cons_self)))))
                  have h139 : f131 le = some (.inl (cI G, 16, .inl (jE (e8 ((takeS S0).1) ((takeS S0).2.1) ((takeS S0).2.2.1) ((takeS S0).2.2.2.1) ((takeS S0).2.2.2.2.1) ((takeS S0).2.2.2.2.2.1) ((takeS S0).2.2.2.2.2.2.1) (nI (takeS S0).2.2.2.2.2.2.2.2.length)) (eS (hearF ga1 r S1))))) := k133 _ _ h122 (Nat.ne_of_beq_eq_false rfl) (hdos _ (List.mem_cons_of_mem _ (List.mem_cons_of_mem _ (List.mem_cons_of_mem _ (List.mem_cons_of_mem _ (List.mem_cons_of_mem _ List.mem_cons_self))))))
                  exact hp_zret (v := 1) B0 hw hS hr ⟨Nat.le_of_ble_eq_true rfl, Nat.le_of_ble_eq_true rfl⟩ (rfl) dL_links_857 (⟨rfl, (takeS S0), (hearF ga1 r S1), gw0, ga0, gw1, ga1, hC132, ⟨⟨_, h134, (show XS (pullN xs0 L1.length) (takeS S0).2.2.2.2.2.2.2.2 from (show XS _ S0.2.2.2.2.2.2.2.2.tail from by rw [hLk]; exact hXk.tail))⟩, ⟨_, h135, (show XS xs116 (hearF ga1 r S1).2.2.2.2.2.2.2.2 from hX118)⟩, h136, h137, h138, h139⟩, ⟨SOK.mono (SOK.take hSo0) (by omega), SOK.mono (SOK.hear hSo1 (by omega) hFo) (by omega), hgw0, hga0, hgw1, hga1⟩, (Nat.le_trans (takeS_len S0) hl0), (Nat.le_trans (hearF_len ga1 r S1) (by have h9 := Nat.le_refl S1.2.2.2.2.2.2.2.2.length; omega)), ((show hKn [lx, ly, lw, la, lq, le, xo, ez, eo, bu, nw0, na0, nq0, nr0, nw1, na1, nq1, nr1, bs, bp, bh, bf, bl, bg] f f2 from (hKn.mono k4 sbA)).tr ((show hKn [lx, ly, lw, la, lq, le, xo, ez, eo, bu, nw0, na0, nq0, nr0, nw1, na1, nq1, nr1, bs, bp, bh, bf, bl, bg] f2 f5 from (hKn.mono k7 sbA)).tr ((show hKn [lx, ly, lw, la, lq, le, xo, ez, eo, bu, nw0, na0, nq0, nr0, nw1, na1, nq1, nr1, bs, bp, bh, bf, bl, bg] f5 f8 from (hKn.mono k10 sbA)).tr ((show hKn [lx, ly, lw, la, lq, le, xo, ez, eo, bu, nw0, na0, nq0, nr0, nw1, na1, nq1, nr1, bs, bp, bh, bf, bl, bg] f8 f18 from (hKn.mono (hKn.eq k21) (sub_cons List.mem_cons_self (sub_cons (List.mem_cons_of_mem _ (List.mem_cons_of_mem _ (List.mem_cons_of_mem _ (List.mem_cons_of_mem _ (List.mem_cons_of_mem _ List.mem_cons_self))))) sub_nil)))).tr ((show hKn [lx, ly, lw, la, lq, le, xo, ez, eo, bu, nw0, na0, nq0, nr0, nw1, na1, nq1, nr1, bs, bp, bh, bf, bl, bg] f18 f115 from (hKn.mono (hKn.eq k121) (sub_cons (List.mem_cons_of_mem _ List.mem_cons_self) (sub_cons (List.mem_cons_of_mem _ (List.mem_cons_of_mem _ (List.mem_cons_of_mem _ (List.mem_cons_of_mem _ List.mem_cons_self)))) (sub_cons (List.mem_cons_of_mem _ (List.mem_cons_of_mem _ (List.mem_cons_of_mem _ (List.mem_cons_of_mem _ (List.mem_cons_of_mem _ List.mem_cons_self))))) sub_nil))))).tr (show hKn [lx, ly, lw, la, lq, le, xo, ez, eo, bu, nw0, na0, nq0, nr0, nw1, na1, nq1, nr1, bs, bp, bh, bf, bl, bg] f115 f131 from (hKn.mono k133 sbA)))))))⟩)
        · refine lv_aload_n hx hb dL_links_749 rfl (lv_at hl9 4 rfl) ?_
          refine lv_iload hx hb dL_links_750 (lv_at hl9 3 rfl) ?_
          refine hp_SH (As := [.ref xo, .int 0]) (rest := []) B0 hw hS (c_V_deliver_S0 hl G f8 xo ez eo bu nw0 na0 nq0 nr0 nw1 na1 nq1 nr1 bs bp bh bf bl bg S0 S1 gw0 ga0 gw1 ga1 n a cg x sa pk fl gv gh gl hC9 (Nat.lt_of_le_of_lt hl0 (by decide)) (Nat.lt_of_le_of_lt hl1 (by decide)) (len_nil c14 (by omega))) mH_L_deliver qM_L_117 rfl rfl hl9.1 (Nat.le_of_ble_eq_true rfl) ⟨⟨Nat.le_of_ble_eq_true rfl, Nat.le_of_ble_eq_true rfl⟩, Nat.le_of_ble_eq_true rfl, Nat.le_of_ble_eq_true rfl⟩ dL_links_752 (fun E ce q9 f140 H locs hPX hw hS hce hcv hcl => ?_) (fun v f140 H locs hP hw hS => ?_)
          · exact hPX.elim
          · obtain ⟨ev9, hC141, k142⟩ := hP
            subst ev9
            have hC141 : CXW G f140 xo ez eo bu nw0 na0 nq0 nr0 nw1 na1 nq1 nr1 bs bp bh bf bl bg S0 S1 gw0 ga0 gw1 ga1 n a cg x sa pk fl gv gh gl := hC141
            refine W.eq (g2 := F0 m 755 ls [.int (-73)]) rfl ?_
            refine lv_bipush (v := (-73)) hx hb dL_links_755 (by decide) ?_
            refine lv_icmp_ne (tgt := 786) hx hb dL_links_757 (by decide) (fun c9 => absurd (by decide) c9) (fun _ => ?_)
            refine lv_aload_n hx hb dL_links_760 rfl (lv_at hl9 4 rfl) ?_
            refine lv_iload hx hb dL_links_761 (lv_at hl9 3 rfl) ?_
            refine hp_SH (As := [.ref xo, .int 0]) (rest := []) B0 hw hS (c_V_lose_S0 hl G f140 xo ez eo bu nw0 na0 nq0 nr0 nw1 na1 nq1 nr1 bs bp bh bf bl bg S0 S1 gw0 ga0 gw1 ga1 n a cg x sa pk fl gv gh gl hC141 (Nat.lt_of_le_of_lt hl0 (by decide)) (Nat.lt_of_le_of_lt hl1 (by decide)) (len_nil c14 (by omega))) mH_L_lose qM_L_119 rfl rfl hl9.1 (Nat.le_of_ble_eq_true rfl) ⟨⟨Nat.le_of_ble_eq_true rfl, Nat.le_of_ble_eq_true rfl⟩, Nat.le_of_ble_eq_true rfl, Nat.le_of_ble_eq_true rfl⟩ dL_links_763 (fun E ce q9 f143 H locs hPX hw hS hce hcv hcl => ?_) (fun v f143 H locs hP hw hS => ?_)
            · exact hPX.elim
            · obtain ⟨ev9, hC144, k145⟩ := hP
              subst ev9
              have hC144 : CXW G f143 xo ez eo bu nw0 na0 nq0 nr0 nw1 na1 nq1 nr1 bs bp bh bf bl bg S0 S1 gw0 ga0 gw1 ga1 n a cg x sa pk fl gv gh gl := hC144
              refine W.eq (g2 := F0 m 766 ls [.int (-73)]) rfl ?_
              refine lv_bipush (v := (-73)) hx hb dL_links_766 (by decide) ?_
              refine lv_icmp_ne (tgt := 786) hx hb dL_links_768 (by decide) (fun c9 => absurd (by decide) c9) (fun _ => ?_)
              refine lv_aload_n hx hb dL_links_771 rfl (lv_at hl9 4 rfl) ?_
              refine lv_iload hx hb dL_links_772 (lv_at hl9 3 rfl) ?_
              refine hp_SH (As := [.ref xo, .int 0]) (rest := []) B0 hw hS (c_V_loop_S0 hl G f143 xo ez eo bu nw0 na0 nq0 nr0 nw1 na1 nq1 nr1 bs bp bh bf bl bg S0 S1 gw0 ga0 gw1 ga1 n a cg x sa pk fl gv gh gl hC144 (Nat.lt_of_le_of_lt hl0 (by decide)) (Nat.lt_of_le_of_lt hl1 (by decide)) (len_nil c14 (by omega))) mH_L_loop qM_L_121 rfl rfl hl9.1 (Nat.le_of_ble_eq_true rfl) ⟨⟨Nat.le_of_ble_eq_true rfl, Nat.le_of_ble_eq_true rfl⟩, Nat.le_of_ble_eq_true rfl, Nat.le_of_ble_eq_true rfl⟩ dL_links_774 (fun E ce q9 f146 H locs hPX hw hS hce hcv hcl => ?_) (fun v f146 H locs hP hw hS => ?_)
              · exact hPX.elim
              · obtain ⟨ev9, hC147, k148⟩ := hP
                subst ev9
                have hC147 : CXW G f146 xo ez eo bu nw0 na0 nq0 nr0 nw1 na1 nq1 nr1 bs bp bh bf bl bg S0 S1 gw0 ga0 gw1 ga1 n a cg x sa pk fl gv gh gl := hC147
                refine W.eq (g2 := F0 m 777 ls [.int (-73)]) rfl ?_
                refine lv_bipush (v := (-73)) hx hb dL_links_777 (by decide) ?_
                refine lv_icmp_ne (tgt := 786) hx hb dL_links_779 (by decide) (fun c9 => absurd (by decide) c9) (fun _ => ?_)
                refine lv_iconst (v := 1) hx hb dL_links_782 (by decide) ?_
                refine lv_goto (tgt := 787) hx hb dL_links_783 (by decide) ?_
                have h149 : f2 lx = some (.inl (cJ G, 64, .inr (.inl xs0))) := k4 _ _ k_lx (Nat.ne_of_beq_eq_false rfl) (hdos _ List.mem_cons_self)
                have h150 : f5 lx = some (.inl (cJ G, 64, .inr (.inl xs0))) := k7 _ _ h149 (Nat.ne_of_beq_eq_false rfl) (hdos _ List.mem_cons_self)
                have h151 : f8 lx = some (.inl (cJ G, 64, .inr (.inl xs0))) := k10 _ _ h150 (Nat.ne_of_beq_eq_false rfl) (hdos _ List.mem_cons_self)
                have h152 : f140 lx = some (.inl (cJ G, 64, .inr (.inl xs0))) := k142 _ _ h151 (Nat.ne_of_beq_eq_false rfl) (hdos _ List.mem_cons_self)
                have h153 : f143 lx = some (.inl (cJ G, 64, .inr (.inl xs0))) := k145 _ _ h152 (Nat.ne_of_beq_eq_false rfl) (hdos _ List.mem_cons_self)
                have h154 : f146 lx = some (.inl (cJ G, 64, .inr (.inl xs0))) := k148 _ _ h153 (Nat.ne_of_beq_eq_false rfl) (hdos _ List.mem_cons_self)
                have h155 : f2 ly = some (.inl (cJ G, 64, .inr (.inl xs1))) := k4 _ _ k_ly (Nat.ne_of_beq_eq_false rfl) (hdos _ (List.mem_cons_of_mem _ List.mem_cons_self))
                have h156 : f5 ly = some (.inl (cJ G, 64, .inr (.inl xs1))) := k7 _ _ h155 (Nat.ne_of_beq_eq_false rfl) (hdos _ (List.mem_cons_of_mem _ List.mem_cons_self))
                have h157 : f8 ly = some (.inl (cJ G, 64, .inr (.inl xs1))) := k10 _ _ h156 (Nat.ne_of_beq_eq_false rfl) (hdos _ (List.mem_cons_of_mem _ List.mem_cons_self))
                have h158 : f140 ly = some (.inl (cJ G, 64, .inr (.inl xs1))) := k142 _ _ h157 (Nat.ne_of_beq_eq_false rfl) (hdos _ (List.mem_cons_of_mem _ List.mem_cons_self))
                have h159 : f143 ly = some (.inl (cJ G, 64, .inr (.inl xs1))) := k145 _ _ h158 (Nat.ne_of_beq_eq_false rfl) (hdos _ (List.mem_cons_of_mem _ List.mem_cons_self))
                have h160 : f146 ly = some (.inl (cJ G, 64, .inr (.inl xs1))) := k148 _ _ h159 (Nat.ne_of_beq_eq_false rfl) (hdos _ (List.mem_cons_of_mem _ List.mem_cons_self))
                have h161 : f2 lw = some (.inl (cI G, 12, .inl (j6 gw0 gw1))) := k4 _ _ k_lw (Nat.ne_of_beq_eq_false rfl) (hdos _ (List.mem_cons_of_mem _ (List.mem_cons_of_mem _ List.mem_cons_self)))
                have h162 : f5 lw = some (.inl (cI G, 12, .inl (j6 gw0 gw1))) := k7 _ _ h161 (Nat.ne_of_beq_eq_false rfl) (hdos _ (List.mem_cons_of_mem _ (List.mem_cons_of_mem _ List.mem_cons_self)))
                have h163 : f8 lw = some (.inl (cI G, 12, .inl (j6 gw0 gw1))) := k10 _ _ h162 (Nat.ne_of_beq_eq_false rfl) (hdos _ (List.mem_cons_of_mem _ (List.mem_cons_of_mem _ List.mem_cons_self)))
                have h164 : f140 lw = some (.inl (cI G, 12, .inl (j6 gw0 gw1))) := k142 _ _ h163 (Nat.ne_of_beq_eq_false rfl) (hdos _ (List.mem_cons_of_mem _ (List.mem_cons_of_mem _ List.mem_cons_self)))
                have h165 : f143 lw = some (.inl (cI G, 12, .inl (j6 gw0 gw1))) := k145 _ _ h164 (Nat.ne_of_beq_eq_false rfl) (hdos _ (List.mem_cons_of_mem _ (List.mem_cons_of_mem _ List.mem_cons_self)))
                have h166 : f146 lw = some (.inl (cI G, 12, .inl (j6 gw0 gw1))) := k148 _ _ h165 (Nat.ne_of_beq_eq_false rfl) (hdos _ (List.mem_cons_of_mem _ (List.mem_cons_of_mem _ List.mem_cons_self)))
                have h167 : f2 la = some (.inl (cI G, 12, .inl (j6 ga0 ga1))) := k4 _ _ k_la (Nat.ne_of_beq_eq_false rfl) (hdos _ (List.mem_cons_of_mem _ (List.mem_cons_of_mem _ (List.mem_cons_of_mem _ List.mem_cons_self))))
                have h168 : f5 la = some (.inl (cI G, 12, .inl (j6 ga0 ga1))) := k7 _ _ h167 (Nat.ne_of_beq_eq_false rfl) (hdos _ (List.mem_cons_of_mem _ (List.mem_cons_of_mem _ (List.mem_cons_of_mem _ List.mem_cons_self))))
                have h169 : f8 la = some (.inl (cI G, 12, .inl (j6 ga0 ga1))) := k10 _ _ h168 (Nat.ne_of_beq_eq_false rfl) (hdos _ (List.mem_cons_of_mem _ (List.mem_cons_of_mem _ (List.mem_cons_of_mem _ List.mem_cons_self))))
                have h170 : f140 la = some (.inl (cI G, 12, .inl (j6 ga0 ga1))) := k142 _ _ h169 (Nat.ne_of_beq_eq_false rfl) (hdos _ (List.mem_cons_of_mem _ (List.mem_cons_of_mem _ (List.mem_cons_of_mem _ List.mem_cons_self))))
                have h171 : f143 la = some (.inl (cI G, 12, .inl (j6 ga0 ga1))) := k145 _ _ h170 (Nat.ne_of_beq_eq_false rfl) (hdos _ (List.mem_cons_of_mem _ (List.mem_cons_of_mem _ (List.mem_cons_of_mem _ List.mem_cons_self))))
                have h172 : f146 la = some (.inl (cI G, 12, .inl (j6 ga0 ga1))) := k148 _ _ h171 (Nat.ne_of_beq_eq_false rfl) (hdos _ (List.mem_cons_of_mem _ (List.mem_cons_of_mem _ (List.mem_cons_of_mem _ List.mem_cons_self))))
                have h173 : f2 lq = some (.inl (cI G, 12, .inl (j6 S0.2.2.2.2.2.2.2.1 S1.2.2.2.2.2.2.2.1))) := k4 _ _ k_lq (Nat.ne_of_beq_eq_false rfl) (hdos _ (List.mem_cons_of_mem _ (List.mem_cons_of_mem _ (List.mem_cons_of_mem _ (List.mem_cons_of_mem _ List.mem_cons_self)))))
                have h174 : f5 lq = some (.inl (cI G, 12, .inl (j6 S0.2.2.2.2.2.2.2.1 S1.2.2.2.2.2.2.2.1))) := k7 _ _ h173 (Nat.ne_of_beq_eq_false rfl) (hdos _ (List.mem_cons_of_mem _ (List.mem_cons_of_mem _ (List.mem_cons_of_mem _ (List.mem_cons_of_mem _ List.mem_cons_self)))))
                have h175 : f8 lq = some (.inl (cI G, 12, .inl (j6 S0.2.2.2.2.2.2.2.1 S1.2.2.2.2.2.2.2.1))) := k10 _ _ h174 (Nat.ne_of_beq_eq_false rfl) (hdos _ (List.mem_cons_of_mem _ (List.mem_cons_of_mem _ (List.mem_cons_of_mem _ (List.mem_cons_of_mem _ List.mem_cons_self)))))
                have h176 : f140 lq = some (.inl (cI G, 12, .inl (j6 S0.2.2.2.2.2.2.2.1 S1.2.2.2.2.2.2.2.1))) := k142 _ _ h175 (Nat.ne_of_beq_eq_false rfl) (hdos _ (List.mem_cons_of_mem _ (List.mem_cons_of_mem _ (List.mem_cons_of_mem _ (List.mem_cons_of_mem _ List.mem_cons_self)))))
                have h177 : f143 lq = some (.inl (cI G, 12, .inl (j6 S0.2.2.2.2.2.2.2.1 S1.2.2.2.2.2.2.2.1))) := k145 _ _ h176 (Nat.ne_of_beq_eq_false rfl) (hdos _ (List.mem_cons_of_mem _ (List.mem_cons_of_mem _ (List.mem_cons_of_mem _ (List.mem_cons_of_mem _ List.mem_cons_self)))))
                have h178 : f146 lq = some (.inl (cI G, 12, .inl (j6 S0.2.2.2.2.2.2.2.1 S1.2.2.2.2.2.2.2.1))) := k148 _ _ h177 (Nat.ne_of_beq_eq_false rfl) (hdos _ (List.mem_cons_of_mem _ (List.mem_cons_of_mem _ (List.mem_cons_of_mem _ (List.mem_cons_of_mem _ List.mem_cons_self)))))
                have h179 : f140 le = some (.inl (cI G, 16, .inl (jE (e8 S0.1 S0.2.1 S0.2.2.1 S0.2.2.2.1 S0.2.2.2.2.1 S0.2.2.2.2.2.1 S0.2.2.2.2.2.2.1 (nI S0.2.2.2.2.2.2.2.2.length)) (eS S1)))) := k142 _ _ h13 (Nat.ne_of_beq_eq_false rfl) (hdos _ (List.mem_cons_of_mem _ (List.mem_cons_of_mem _ (List.mem_cons_of_mem _ (List.mem_cons_of_mem _ (List.mem_cons_of_mem _ List.mem_cons_self))))))
                have h180 : f143 le = some (.inl (cI G, 16, .inl (jE (e8 S0.1 S0.2.1 S0.2.2.1 S0.2.2.2.1 S0.2.2.2.2.1 S0.2.2.2.2.2.1 S0.2.2.2.2.2.2.1 (nI S0.2.2.2.2.2.2.2.2.length)) (eS S1)))) := k145 _ _ h179 (Nat.ne_of_beq_eq_false rfl) (hdos _ (List.mem_cons_of_mem _ (List.mem_cons_of_mem _ (List.mem_cons_of_mem _ (List.mem_cons_of_mem _ (List.mem_cons_of_mem _ List.mem_cons_self))))))
                have h181 : f146 le = some (.inl (cI G, 16, .inl (jE (e8 S0.1 S0.2.1 S0.2.2.1 S0.2.2.2.1 S0.2.2.2.2.1 S0.2.2.2.2.2.1 S0.2.2.2.2.2.2.1 (nI S0.2.2.2.2.2.2.2.2.length)) (eS S1)))) := k148 _ _ h180 (Nat.ne_of_beq_eq_false rfl) (hdos _ (List.mem_cons_of_mem _ (List.mem_cons_of_mem _ (List.mem_cons_of_mem _ (List.mem_cons_of_mem _ (List.mem_cons_of_mem _ List.mem_cons_self))))))
                exact hp_zret (v := 1) B0 hw hS hr ⟨Nat.le_of_ble_eq_true rfl, Nat.le_of_ble_eq_true rfl⟩ (rfl) dL_links_787 (⟨rfl, S0, S1, gw0, ga0, gw1, ga1, hC147, ⟨⟨_, h154, hX0⟩, ⟨_, h160, hX1⟩, h166, h172, h178, h181⟩, ⟨SOK.mono hSo0 (by omega), SOK.mono hSo1 (by omega), hgw0, hga0, hgw1, hga1⟩, hl0, hl1, ((show hKn [lx, ly, lw, la, lq, le, xo, ez, eo, bu, nw0, na0, nq0, nr0, nw1, na1, nq1, nr1, bs, bp, bh, bf, bl, bg] f f2 from (hKn.mono k4 sbA)).tr ((show hKn [lx, ly, lw, la, lq, le, xo, ez, eo, bu, nw0, na0, nq0, nr0, nw1, na1, nq1, nr1, bs, bp, bh, bf, bl, bg] f2 f5 from (hKn.mono k7 sbA)).tr ((show hKn [lx, ly, lw, la, lq, le, xo, ez, eo, bu, nw0, na0, nq0, nr0, nw1, na1, nq1, nr1, bs, bp, bh, bf, bl, bg] f5 f8 from (hKn.mono k10 sbA)).tr ((show hKn [lx, ly, lw, la, lq, le, xo, ez, eo, bu, nw0, na0, nq0, nr0, nw1, na1, nq1, nr1, bs, bp, bh, bf, bl, bg] f8 f140 from (hKn.mono k142 sbA)).tr ((show hKn [lx, ly, lw, la, lq, le, xo, ez, eo, bu, nw0, na0, nq0, nr0, nw1, na1, nq1, nr1, bs, bp, bh, bf, bl, bg] f140 f143 from (hKn.mono k145 sbA)).tr (show hKn [lx, ly, lw, la, lq, le, xo, ez, eo, bu, nw0, na0, nq0, nr0, nw1, na1, nq1, nr1, bs, bp, bh, bf, bl, bg] f143 f146 from (hKn.mono k148 sbA)))))))⟩)

set_option maxHeartbeats 4000000 in
set_option maxRecDepth 100000 in
theorem lk_d_1 {l : Launch} (hl : l.stackTraces = false) (G : hG) (f : hM) (xo ez eo bu nw0 na0 nq0 nr0 nw1 na1 nq1 nr1 bs bp bh bf bl bg : Nat) (S0 : ES) (S1 : ES) (gw0 : Nat → Int32) (ga0 : Nat → Int32) (gw1 : Nat → Int32) (ga1 : Nat → Int32) (n : Nat) (a : Nat) (cg : Nat) (x : Nat) (sa : Nat → Nat) (pk : Nat → Nat) (fl : Nat → Nat) (gv : Nat → Nat) (gh : Nat → Int32) (gl : Nat → Int32) (hC : CXW G f xo ez eo bu nw0 na0 nq0 nr0 nw1 na1 nq1 nr1 bs bp bh bf bl bg S0 S1 gw0 ga0 gw1 ga1 n a cg x sa pk fl gv gh gl) (lx ly lw la lq le : Nat) (hdis : ∀ p, p ∈ [xo, ez, eo, bu, nw0, na0, nq0, nr0, nw1, na1, nq1, nr1, bs, bp, bh, bf, bl, bg] → p ∉ [lx, ly, lw, la, lq, le]) (hdos : ∀ p, p ∈ [lx, ly, lw, la, lq, le] → p ∉ [xo, ez, eo, bu, nw0, na0, nq0, nr0, nw1, na1, nq1, nr1, bs, bp, bh, bf, bl, bg]) (n_lx_ly : lx ≠ ly) (n_lw_la : lw ≠ la) (n_lw_lq : lw ≠ lq) (n_la_lq : la ≠ lq) (hLX : LX G f lx ly lw la lq le S0 S1 gw0 ga0 gw1 ga1) (b : Nat) (hInv : INV b S0 S1 gw0 ga0 gw1 ga1) (hbb : b + 200 ≤ 1000000) (hl0 : S0.2.2.2.2.2.2.2.2.length ≤ 52) (hl1 : S1.2.2.2.2.2.2.2.2.length ≤ 52) (ac : Nat) (hac : ac < 24) (hact : ac ≠ 22 → S0.2.2.2.2.2.2.2.2.length ≤ 40 ∧ S1.2.2.2.2.2.2.2.2.length ≤ 40) (u z : Int32) {p : Program} {e : Env} {s : State} {m : MethodId} {args : Array Value} {below : List Frame} {meth : Method} {c : Code} (B0 : hB p l s m args meth c cL_links 17 RL G) (hr : meth.sig.returnType = some .boolean) {H : Heap} {locs : List Loc} {ls : Array Slot} (hw : hW G f H) (hS : va_S (hFr G) s.heap H locs) (j13 : Nat) (hj13 : j13 < 6) (hl9 : lv_has ls 17 [(13, .int (nI j13)), (12, .ref ly), (11, .int 8), (10, .int 1), (0, .ref xo), (1, .int (nI ac)), (2, .int u), (3, .int z), (4, .ref lx), (5, .ref ly), (6, .ref lw), (7, .ref la), (8, .ref lq), (9, .ref le)]) : W p l e { frames := 9, cells := 203, slots := 1118, locals := 178 } s m args below meth c H locs 0 0 (vx_MQ below (hQ G (fun v f1 => v = some (.int 1) ∧ ∃ (S2 S3 : ES) (w0 a0 w1 a1 : Nat → Int32), CXW G f1 xo ez eo bu nw0 na0 nq0 nr0 nw1 na1 nq1 nr1 bs bp bh bf bl bg S2 S3 w0 a0 w1 a1 n a cg x sa pk fl gv gh gl ∧ LX G f1 lx ly lw la lq le S2 S3 w0 a0 w1 a1 ∧ INV (b + 100) S2 S3 w0 a0 w1 a1 ∧ S2.2.2.2.2.2.2.2.2.length ≤ 52 ∧ S3.2.2.2.2.2.2.2.2.length ≤ 52 ∧ hKn [lx, ly, lw, la, lq, le, xo, ez, eo, bu, nw0, na0, nq0, nr0, nw1, na1, nq1, nr1, bs, bp, bh, bf, bl, bg] f f1)) (hX G (fun E f1 => False)) args s 203 1118 (hFr G)) (F0 m 706 ls []) := by
  have hx := B0.1
  have hb := B0.2.1
  obtain ⟨⟨xs0, k_lx, hX0⟩, ⟨xs1, k_ly, hX1⟩, k_lw, k_la, k_lq, k_le⟩ := hLX
  obtain ⟨hSo0, hSo1, hgw0, hga0, hgw1, hga1⟩ := id hInv
  have n_lx_lw : lx ≠ lw := hneL k_lx k_lw (Nat.ne_of_beq_eq_false rfl)
  have n_lx_la : lx ≠ la := hneL k_lx k_la (Nat.ne_of_beq_eq_false rfl)
  have n_lx_lq : lx ≠ lq := hneL k_lx k_lq (Nat.ne_of_beq_eq_false rfl)
  have n_lx_le : lx ≠ le := hneL k_lx k_le (Nat.ne_of_beq_eq_false rfl)
  have n_ly_lw : ly ≠ lw := hneL k_ly k_lw (Nat.ne_of_beq_eq_false rfl)
  have n_ly_la : ly ≠ la := hneL k_ly k_la (Nat.ne_of_beq_eq_false rfl)
  have n_ly_lq : ly ≠ lq := hneL k_ly k_lq (Nat.ne_of_beq_eq_false rfl)
  have n_ly_le : ly ≠ le := hneL k_ly k_le (Nat.ne_of_beq_eq_false rfl)
  have n_lw_le : lw ≠ le := hneL k_lw k_le (Nat.ne_of_beq_eq_false rfl)
  have n_la_le : la ≠ le := hneL k_la k_le (Nat.ne_of_beq_eq_false rfl)
  have n_lq_le : lq ≠ le := hneL k_lq k_le (Nat.ne_of_beq_eq_false rfl)
  have sbA : ∀ x9, x9 ∈ [xo, ez, eo, bu, nw0, na0, nq0, nr0, nw1, na1, nq1, nr1, bs, bp, bh, bf, bl, bg] → x9 ∈ [lx, ly, lw, la, lq, le, xo, ez, eo, bu, nw0, na0, nq0, nr0, nw1, na1, nq1, nr1, bs, bp, bh, bf, bl, bg] := sbA
  obtain ⟨xx, hxx, hx4⟩ := hSo1.2.2.2.2.1
  have h1 : f le = some (.inl (cI G, 16, .inl (jE (eS S0) (e8 S1.1 S1.2.1 S1.2.2.1 S1.2.2.2.1 S1.2.2.2.2.1 S1.2.2.2.2.2.1 S1.2.2.2.2.2.2.1 (nI S1.2.2.2.2.2.2.2.2.length))))) := k_le
  refine lv_aload_n hx hb dL_links_706 rfl (lv_at hl9 4 rfl) ?_
  refine lv_iconst (v := 2) hx hb dL_links_707 (by decide) ?_
  refine hp_SH (As := [.ref xo, .int 2]) (rest := []) B0 hw hS (c_V_deliver_E hl G f xo ez eo bu nw0 na0 nq0 nr0 nw1 na1 nq1 nr1 bs bp bh bf bl bg S0 S1 gw0 ga0 gw1 ga1 n a cg x sa pk fl gv gh gl hC (Nat.lt_of_le_of_lt hl0 (by decide)) (Nat.lt_of_le_of_lt hl1 (by decide)) 2 (by decide)) mH_L_deliver qM_L_117 rfl rfl hl9.1 (Nat.le_of_ble_eq_true rfl) ⟨⟨Nat.le_of_ble_eq_true rfl, Nat.le_of_ble_eq_true rfl⟩, Nat.le_of_ble_eq_true rfl, Nat.le_of_ble_eq_true rfl⟩ dL_links_708 (fun E ce q9 f2 H locs hPX hw hS hce hcv hcl => ?_) (fun v f2 H locs hP hw hS => ?_)
  · exact hPX.elim
  · obtain ⟨ev9, hC3, k4⟩ := hP
    subst ev9
    have hC3 : CXW G f2 xo ez eo bu nw0 na0 nq0 nr0 nw1 na1 nq1 nr1 bs bp bh bf bl bg S0 S1 gw0 ga0 gw1 ga1 n a cg x sa pk fl gv gh gl := hC3
    refine W.eq (g2 := F0 m 711 ls [.int (-71)]) rfl ?_
    refine lv_bipush (v := (-71)) hx hb dL_links_711 (by decide) ?_
    refine lv_icmp_ne (tgt := 736) hx hb dL_links_713 (by decide) (fun c9 => absurd (by decide) c9) (fun _ => ?_)
    refine lv_aload_n hx hb dL_links_716 rfl (lv_at hl9 4 rfl) ?_
    refine lv_iconst (v := (-1)) hx hb dL_links_717 (by decide) ?_
    refine hp_SH (As := [.ref xo, .int (-1)]) (rest := []) B0 hw hS (c_V_lose_E hl G f2 xo ez eo bu nw0 na0 nq0 nr0 nw1 na1 nq1 nr1 bs bp bh bf bl bg S0 S1 gw0 ga0 gw1 ga1 n a cg x sa pk fl gv gh gl hC3 (Nat.lt_of_le_of_lt hl0 (by decide)) (Nat.lt_of_le_of_lt hl1 (by decide)) (-1) (by decide)) mH_L_lose qM_L_119 rfl rfl hl9.1 (Nat.le_of_ble_eq_true rfl) ⟨⟨Nat.le_of_ble_eq_true rfl, Nat.le_of_ble_eq_true rfl⟩, Nat.le_of_ble_eq_true rfl, Nat.le_of_ble_eq_true rfl⟩ dL_links_718 (fun E ce q9 f5 H locs hPX hw hS hce hcv hcl => ?_) (fun v f5 H locs hP hw hS => ?_)
    · exact hPX.elim
    · obtain ⟨ev9, hC6, k7⟩ := hP
      subst ev9
      have hC6 : CXW G f5 xo ez eo bu nw0 na0 nq0 nr0 nw1 na1 nq1 nr1 bs bp bh bf bl bg S0 S1 gw0 ga0 gw1 ga1 n a cg x sa pk fl gv gh gl := hC6
      refine W.eq (g2 := F0 m 721 ls [.int (-71)]) rfl ?_
      refine lv_bipush (v := (-71)) hx hb dL_links_721 (by decide) ?_
      refine lv_icmp_ne (tgt := 736) hx hb dL_links_723 (by decide) (fun c9 => absurd (by decide) c9) (fun _ => ?_)
      refine lv_aload_n hx hb dL_links_726 rfl (lv_at hl9 4 rfl) ?_
      refine lv_iconst (v := 2) hx hb dL_links_727 (by decide) ?_
      refine hp_SH (As := [.ref xo, .int 2]) (rest := []) B0 hw hS (c_V_loop_E hl G f5 xo ez eo bu nw0 na0 nq0 nr0 nw1 na1 nq1 nr1 bs bp bh bf bl bg S0 S1 gw0 ga0 gw1 ga1 n a cg x sa pk fl gv gh gl hC6 (Nat.lt_of_le_of_lt hl0 (by decide)) (Nat.lt_of_le_of_lt hl1 (by decide)) 2 (by decide)) mH_L_loop qM_L_121 rfl rfl hl9.1 (Nat.le_of_ble_eq_true rfl) ⟨⟨Nat.le_of_ble_eq_true rfl, Nat.le_of_ble_eq_true rfl⟩, Nat.le_of_ble_eq_true rfl, Nat.le_of_ble_eq_true rfl⟩ dL_links_728 (fun E ce q9 f8 H locs hPX hw hS hce hcv hcl => ?_) (fun v f8 H locs hP hw hS => ?_)
      · exact hPX.elim
      · obtain ⟨ev9, hC9, k10⟩ := hP
        subst ev9
        have hC9 : CXW G f8 xo ez eo bu nw0 na0 nq0 nr0 nw1 na1 nq1 nr1 bs bp bh bf bl bg S0 S1 gw0 ga0 gw1 ga1 n a cg x sa pk fl gv gh gl := hC9
        refine W.eq (g2 := F0 m 731 ls [.int (-71)]) rfl ?_
        refine lv_bipush (v := (-71)) hx hb dL_links_731 (by decide) ?_
        refine lv_icmp_eq (tgt := 738) hx hb dL_links_733 (by decide) (fun _ => ?_) (fun c9 => absurd (by decide) c9)
        refine lv_aload hx hb dL_links_738 (lv_at hl9 13 rfl) ?_
        refine lv_iload hx hb dL_links_740 (lv_at hl9 2 rfl) ?_
        refine lv_bipush (v := 7) hx hb dL_links_742 (by decide) ?_
        refine lv_iadd hx hb dL_links_744 ?_
        refine hp_c (v := 15) (by decide) ?_
        have h11 : f2 le = some (.inl (cI G, 16, .inl (jE (eS S0) (e8 S1.1 S1.2.1 S1.2.2.1 S1.2.2.2.1 S1.2.2.2.2.1 S1.2.2.2.2.2.1 S1.2.2.2.2.2.2.1 (nI S1.2.2.2.2.2.2.2.2.length))))) := k4 _ _ h1 (Nat.ne_of_beq_eq_false rfl) (hdos _ (List.mem_cons_of_mem _ (List.mem_cons_of_mem _ (List.mem_cons_of_mem _ (List.mem_cons_of_mem _ (List.mem_cons_of_mem _ List.mem_cons_self))))))
        have h12 : f5 le = some (.inl (cI G, 16, .inl (jE (eS S0) (e8 S1.1 S1.2.1 S1.2.2.1 S1.2.2.2.1 S1.2.2.2.2.1 S1.2.2.2.2.2.1 S1.2.2.2.2.2.2.1 (nI S1.2.2.2.2.2.2.2.2.length))))) := k7 _ _ h11 (Nat.ne_of_beq_eq_false rfl) (hdos _ (List.mem_cons_of_mem _ (List.mem_cons_of_mem _ (List.mem_cons_of_mem _ (List.mem_cons_of_mem _ (List.mem_cons_of_mem _ List.mem_cons_self))))))
        have h13 : f8 le = some (.inl (cI G, 16, .inl (jE (eS S0) (e8 S1.1 S1.2.1 S1.2.2.1 S1.2.2.2.1 S1.2.2.2.2.1 S1.2.2.2.2.2.1 S1.2.2.2.2.2.2.1 (nI S1.2.2.2.2.2.2.2.2.length))))) := k10 _ _ h12 (Nat.ne_of_beq_eq_false rfl) (hdos _ (List.mem_cons_of_mem _ (List.mem_cons_of_mem _ (List.mem_cons_of_mem _ (List.mem_cons_of_mem _ (List.mem_cons_of_mem _ List.mem_cons_self))))))
        refine hp_iald B0 hw h13 (by unfold vp_in; decide) dL_links_745 ?_
        refine hp_c (v := (nI S1.2.2.2.2.2.2.2.2.length)) (rfl) ?_
        refine lv_if_ne (tgt := 788) hx hb dL_links_746 (by decide) (fun c14 => ?_) (fun c14 => ?_)
        · obtain ⟨r, L1, hLk⟩ := len_cons c14
          have hFo : FOK b r := hSo1.2.2.2.2.2.2 r (by rw [hLk]; exact List.mem_cons_self)
          have hXk : XS xs1 (r :: L1) := by rw [← hLk]; exact hX1
          have hlk : S1.2.2.2.2.2.2.2.2.length = L1.length + 1 := by rw [hLk]; rfl
          have hbo : b ≤ 1000000 := by omega
          refine lv_aload hx hb dL_links_788 (lv_at hl9 1 rfl) ?_
          refine lv_aload hx hb dL_links_790 (lv_at hl9 13 rfl) ?_
          refine lv_iload hx hb dL_links_792 (lv_at hl9 3 rfl) ?_
          have h15 : f2 ly = some (.inl (cJ G, 64, .inr (.inl xs1))) := k4 _ _ k_ly (Nat.ne_of_beq_eq_false rfl) (hdos _ (List.mem_cons_of_mem _ List.mem_cons_self))
          have h16 : f5 ly = some (.inl (cJ G, 64, .inr (.inl xs1))) := k7 _ _ h15 (Nat.ne_of_beq_eq_false rfl) (hdos _ (List.mem_cons_of_mem _ List.mem_cons_self))
          have h17 : f8 ly = some (.inl (cJ G, 64, .inr (.inl xs1))) := k10 _ _ h16 (Nat.ne_of_beq_eq_false rfl) (hdos _ (List.mem_cons_of_mem _ List.mem_cons_self))
          refine hp_S (As := [.ref ly, .ref le, .int 1]) (rest := []) B0 hw hS (c_L_pull_1 hl G f8 ly le xs1 (jE (eS S0) (e8 S1.1 S1.2.1 S1.2.2.1 S1.2.2.2.1 S1.2.2.2.2.1 S1.2.2.2.2.2.1 S1.2.2.2.2.2.2.1 (nI S1.2.2.2.2.2.2.2.2.length))) h17 h13 L1.length (show nI S1.2.2.2.2.2.2.2.2.length = nI (L1.length + 1) from by rw [hlk]) (by omega)) mS_L_pull qM_L_123 rfl rfl hl9.1 (Nat.le_of_ble_eq_true rfl) ⟨⟨Nat.le_of_ble_eq_true rfl, Nat.le_of_ble_eq_true rfl⟩, Nat.le_of_ble_eq_true rfl, Nat.le_of_ble_eq_true rfl⟩ dL_links_794 (fun E ce q9 f18 H locs hPX hw hS hce hcv hcl => ?_) (fun v f18 H locs hP hw hS => ?_)
          · exact hPX.elim
          · obtain ⟨ev9, h19, h20, k21⟩ := hP
            subst ev9
            rw [show (upd (jE (eS S0) (e8 S1.1 S1.2.1 S1.2.2.1 S1.2.2.2.1 S1.2.2.2.2.1 S1.2.2.2.2.2.1 S1.2.2.2.2.2.2.1 (nI S1.2.2.2.2.2.2.2.2.length))) 15 (nI L1.length) : Nat → Int32) = (jE (eS S0) (e8 S1.1 S1.2.1 S1.2.2.1 S1.2.2.2.1 S1.2.2.2.2.1 S1.2.2.2.2.2.1 S1.2.2.2.2.2.2.1 (nI L1.length))) from (by rw [show 15 = 8 + 7 from rfl, jE_u1, e8_u7])] at h20
            rw [show nI L1.length = nI (takeS S1).2.2.2.2.2.2.2.2.length from (show _ = nI S1.2.2.2.2.2.2.2.2.tail.length from by rw [hLk]; rfl)] at h20
            have h22 : f18 le = some (.inl (cI G, 16, .inl (jE (eS S0) (e8 ((takeS S1).1) ((takeS S1).2.1) ((takeS S1).2.2.1) ((takeS S1).2.2.2.1) ((takeS S1).2.2.2.2.1) ((takeS S1).2.2.2.2.2.1) ((takeS S1).2.2.2.2.2.2.1) (nI (takeS S1).2.2.2.2.2.2.2.2.length))))) := h20
            refine W.eq (g2 := F0 m 797 ls [.long (xs1 0)]) rfl ?_
            refine hp_cl (v := lN (pkN r)) hXk.hd ?_
            refine lv_lstore (lv' := [(14, .long (lN (pkN r))), (13, .int (nI j13)), (12, .ref ly), (11, .int 8), (10, .int 1), (0, .ref xo), (1, .int (nI ac)), (2, .int u), (3, .int z), (4, .ref lx), (5, .ref ly), (6, .ref lw), (7, .ref la), (8, .ref lq), (9, .ref le)]) hx hb dL_links_797 hl9 (by decide) rfl (fun ls hl9 => ?_)
            refine lv_lload hx hb dL_links_799 (lv_at hl9 0 rfl) ?_
            refine lv_ldc2 (v := 7) hx hb B0.2.2.2.1 (B0.2.2.2.2.1 _ qK_L_81) dL_links_801 ?_
            refine hp_cl (v := lN 7) rfl ?_
            refine lv_land hx hb dL_links_804 ?_
            refine hp_cl (v := (lN ((pkN r) % 8))) (g_mask (s := 3) (p := 8) rfl (by omega) (by first | exact pkN_lt hFo hbo | exact Nat.lt_trans (pkN_lt hFo hbo) (by decide))) ?_
            refine lv_l2i (v := (nI ((pkN r) % 8))) hx hb dL_links_805 (lN_i _) ?_
            refine hp_c (v := r.1) (by rw [pkN_k hFo hbo]; exact hFo.r1) ?_
            refine lv_istore (lv' := [(16, .int r.1), (14, .long (lN (pkN r))), (13, .int (nI j13)), (12, .ref ly), (11, .int 8), (10, .int 1), (0, .ref xo), (1, .int (nI ac)), (2, .int u), (3, .int z), (4, .ref lx), (5, .ref ly), (6, .ref lw), (7, .ref la), (8, .ref lq), (9, .ref le)]) hx hb dL_links_806 hl9 (by decide) rfl (fun ls hl9 => ?_)
            refine lv_iload_n hx hb dL_links_808 rfl (lv_at hl9 7 rfl) ?_
            refine lv_bipush (v := 22) hx hb dL_links_809 (by decide) ?_
            refine lv_icmp_ge (tgt := 858) hx hb dL_links_811 (by decide) (fun c23 => ?_) (fun c23 => ?_)
            · refine lv_aload hx hb dL_links_858 (lv_at hl9 15 rfl) ?_
              refine lv_iload hx hb dL_links_860 (lv_at hl9 4 rfl) ?_
              refine lv_iconst (v := 5) hx hb dL_links_862 (by decide) ?_
              refine lv_iadd hx hb dL_links_863 ?_
              refine hp_c (v := 13) (by decide) ?_
              refine lv_dup2_11 hx hb dL_links_864 rfl rfl ?_
              refine hp_iald B0 hw h22 (by unfold vp_in; decide) dL_links_865 ?_
              refine hp_c (v := (takeS S1).2.2.2.2.2.1) (rfl) ?_
              refine lv_iconst (v := 1) hx hb dL_links_866 (by decide) ?_
              refine lv_iadd hx hb dL_links_867 ?_
              refine hp_iast B0 hw hS h22 (by unfold vp_in; decide) dL_links_868 (fun H locs f24 ef24 hw hS => ?_)
              rw [show (upd (jE (eS S0) (e8 ((takeS S1).1) ((takeS S1).2.1) ((takeS S1).2.2.1) ((takeS S1).2.2.2.1) ((takeS S1).2.2.2.2.1) ((takeS S1).2.2.2.2.2.1) ((takeS S1).2.2.2.2.2.2.1) (nI (takeS S1).2.2.2.2.2.2.2.2.length))) (13 : Int32).toNatClampNeg (((takeS S1).2.2.2.2.2.1) + 1) : Nat → Int32) = (jE (eS S0) (e8 ((takeS S1).1) ((takeS S1).2.1) ((takeS S1).2.2.1) ((takeS S1).2.2.2.1) ((takeS S1).2.2.2.2.1) (((takeS S1).2.2.2.2.2.1) + 1) ((takeS S1).2.2.2.2.2.2.1) (nI (takeS S1).2.2.2.2.2.2.2.2.length))) from (by rw [show (13 : Int32).toNatClampNeg = 8 + 5 from rfl, jE_u1, e8_u5])] at ef24
              have h25 : f24 le = some (.inl (cI G, 16, .inl (jE (eS S0) (e8 ((takeS S1).1) ((takeS S1).2.1) ((takeS S1).2.2.1) ((takeS S1).2.2.2.1) ((takeS S1).2.2.2.2.1) (((takeS S1).2.2.2.2.2.1) + 1) ((takeS S1).2.2.2.2.2.2.1) (nI (takeS S1).2.2.2.2.2.2.2.2.length))))) := by rw [ef24, va_up_self]
              have h26 : f24 le = some (.inl (cI G, 16, .inl (jE (eS S0) (e8 ((missS (takeS S1)).1) ((missS (takeS S1)).2.1) ((missS (takeS S1)).2.2.1) ((missS (takeS S1)).2.2.2.1) ((missS (takeS S1)).2.2.2.2.1) ((missS (takeS S1)).2.2.2.2.2.1) ((missS (takeS S1)).2.2.2.2.2.2.1) (nI (missS (takeS S1)).2.2.2.2.2.2.2.2.length))))) := h25
              refine lv_iload_n hx hb dL_links_869 rfl (lv_at hl9 7 rfl) ?_
              refine lv_bipush (v := 22) hx hb dL_links_870 (by decide) ?_
              refine lv_icmp_ne (tgt := 892) hx hb dL_links_872 (by decide) (fun c27 => ?_) (fun c27 => ?_)
              · obtain ⟨h40a, h40b⟩ := hact (fun e9 => by subst e9; exact absurd (by decide) c27)
                refine lv_lload hx hb dL_links_892 (lv_at hl9 1 rfl) ?_
                refine lv_aload hx hb dL_links_894 (lv_at hl9 3 rfl) ?_
                refine lv_aload hx hb dL_links_896 (lv_at hl9 13 rfl) ?_
                refine lv_aload hx hb dL_links_898 (lv_at hl9 14 rfl) ?_
                refine lv_aload hx hb dL_links_900 (lv_at hl9 15 rfl) ?_
                refine lv_iload hx hb dL_links_902 (lv_at hl9 5 rfl) ?_
                have h28 : f24 le = some (.inl (cI G, 16, .inl (jE (eS S0) (e8 ((missS (takeS S1)).1) ((missS (takeS S1)).2.1) ((missS (takeS S1)).2.2.1) ((missS (takeS S1)).2.2.2.1) ((missS (takeS S1)).2.2.2.2.1) ((missS (takeS S1)).2.2.2.2.2.1) ((missS (takeS S1)).2.2.2.2.2.2.1) (nI (missS (takeS S1)).2.2.2.2.2.2.2.2.length))))) := h26
                have h29 : f24 ly = some (.inl (cJ G, 64, .inr (.inl (pullN xs1 L1.length)))) := by rw [ef24, va_up_ne _ _ n_ly_le]; exact h19
                have h30 : f2 la = some (.inl (cI G, 12, .inl (j6 ga0 ga1))) := k4 _ _ k_la (Nat.ne_of_beq_eq_false rfl) (hdos _ (List.mem_cons_of_mem _ (List.mem_cons_of_mem _ (List.mem_cons_of_mem _ List.mem_cons_self))))
                have h31 : f5 la = some (.inl (cI G, 12, .inl (j6 ga0 ga1))) := k7 _ _ h30 (Nat.ne_of_beq_eq_false rfl) (hdos _ (List.mem_cons_of_mem _ (List.mem_cons_of_mem _ (List.mem_cons_of_mem _ List.mem_cons_self))))
                have h32 : f8 la = some (.inl (cI G, 12, .inl (j6 ga0 ga1))) := k10 _ _ h31 (Nat.ne_of_beq_eq_false rfl) (hdos _ (List.mem_cons_of_mem _ (List.mem_cons_of_mem _ (List.mem_cons_of_mem _ List.mem_cons_self))))
                have h33 : f18 la = some (.inl (cI G, 12, .inl (j6 ga0 ga1))) := (hEq.k k21) _ _ h32 (ninc (Ne.symm n_ly_la) (ninc n_la_le nin0))
                have h34 : f24 la = some (.inl (cI G, 12, .inl (j6 ga0 ga1))) := by rw [ef24, va_up_ne _ _ n_la_le]; exact h33
                have h35 : f2 lq = some (.inl (cI G, 12, .inl (j6 S0.2.2.2.2.2.2.2.1 S1.2.2.2.2.2.2.2.1))) := k4 _ _ k_lq (Nat.ne_of_beq_eq_false rfl) (hdos _ (List.mem_cons_of_mem _ (List.mem_cons_of_mem _ (List.mem_cons_of_mem _ (List.mem_cons_of_mem _ List.mem_cons_self)))))
                have h36 : f5 lq = some (.inl (cI G, 12, .inl (j6 S0.2.2.2.2.2.2.2.1 S1.2.2.2.2.2.2.2.1))) := k7 _ _ h35 (Nat.ne_of_beq_eq_false rfl) (hdos _ (List.mem_cons_of_mem _ (List.mem_cons_of_mem _ (List.mem_cons_of_mem _ (List.mem_cons_of_mem _ List.mem_cons_self)))))
                have h37 : f8 lq = some (.inl (cI G, 12, .inl (j6 S0.2.2.2.2.2.2.2.1 S1.2.2.2.2.2.2.2.1))) := k10 _ _ h36 (Nat.ne_of_beq_eq_false rfl) (hdos _ (List.mem_cons_of_mem _ (List.mem_cons_of_mem _ (List.mem_cons_of_mem _ (List.mem_cons_of_mem _ List.mem_cons_self)))))
                have h38 : f18 lq = some (.inl (cI G, 12, .inl (j6 S0.2.2.2.2.2.2.2.1 S1.2.2.2.2.2.2.2.1))) := (hEq.k k21) _ _ h37 (ninc (Ne.symm n_ly_lq) (ninc n_lq_le nin0))
                have h39 : f24 lq = some (.inl (cI G, 12, .inl (j6 S0.2.2.2.2.2.2.2.1 S1.2.2.2.2.2.2.2.1))) := by rw [ef24, va_up_ne _ _ n_lq_le]; exact h38
                refine hp_S (As := [.long (lN (pkN r)), .ref ly, .ref la, .ref lq, .ref le, .int 1]) (rest := []) B0 hw hS (c_L_take_1 hl G f24 ly la lq le (missS (takeS S1)).1 (missS (takeS S1)).2.1 (missS (takeS S1)).2.2.1 (missS (takeS S1)).2.2.2.1 (missS (takeS S1)).2.2.2.2.1 (missS (takeS S1)).2.2.2.2.2.1 (missS (takeS S1)).2.2.2.2.2.2.1 (missS (takeS S1)).2.2.2.2.2.2.2.1 (missS (takeS S1)).2.2.2.2.2.2.2.2 (eS S0) ga1 ga0 S0.2.2.2.2.2.2.2.1 b (SOK.miss (SOK.take hSo1)) (by omega) r.1 r.2.1 r.2.2.1 r.2.2.2 hFo hga1 n_la_lq (pullN xs1 L1.length) (show XS (pullN xs1 L1.length) (takeS S1).2.2.2.2.2.2.2.2 from (show XS _ S1.2.2.2.2.2.2.2.2.tail from by rw [hLk]; exact hXk.tail)) (Nat.lt_of_le_of_lt (Nat.le_trans (takeS_len S1) hl1) (by decide)) h29 h34 h39 h28) mS_L_take qM_L_127 rfl rfl hl9.1 (Nat.le_of_ble_eq_true rfl) ⟨⟨Nat.le_of_ble_eq_true rfl, Nat.le_of_ble_eq_true rfl⟩, Nat.le_of_ble_eq_true rfl, Nat.le_of_ble_eq_true rfl⟩ dL_links_904 (fun E ce q9 f40 H locs hPX hw hS hce hcv hcl => ?_) (fun v f40 H locs hP hw hS => ?_)
                · exact hPX.elim
                · obtain ⟨ev9, ⟨xs41, h42, hX43⟩, h44, h45, k46⟩ := hP
                  subst ev9
                  have h44 : f40 lq = some (.inl (cI G, 12, .inl (j6 S0.2.2.2.2.2.2.2.1 (hearF ga1 r (missS (takeS S1))).2.2.2.2.2.2.2.1))) := h44
                  have h47 : f40 le = some (.inl (cI G, 16, .inl (jE (eS S0) (e8 ((hearF ga1 r (missS (takeS S1))).1) ((hearF ga1 r (missS (takeS S1))).2.1) ((hearF ga1 r (missS (takeS S1))).2.2.1) ((hearF ga1 r (missS (takeS S1))).2.2.2.1) ((hearF ga1 r (missS (takeS S1))).2.2.2.2.1) ((hearF ga1 r (missS (takeS S1))).2.2.2.2.2.1) ((hearF ga1 r (missS (takeS S1))).2.2.2.2.2.2.1) (nI (hearF ga1 r (missS (takeS S1))).2.2.2.2.2.2.2.2.length))))) := h45
                  refine W.eq (g2 := F0 m 907 ls []) rfl ?_
                  refine lv_aload_n hx hb dL_links_907 rfl (lv_at hl9 6 rfl) ?_
                  refine lv_iload hx hb dL_links_908 (lv_at hl9 5 rfl) ?_
                  have h48 : f2 lx = some (.inl (cJ G, 64, .inr (.inl xs0))) := k4 _ _ k_lx (Nat.ne_of_beq_eq_false rfl) (hdos _ List.mem_cons_self)
                  have h49 : f5 lx = some (.inl (cJ G, 64, .inr (.inl xs0))) := k7 _ _ h48 (Nat.ne_of_beq_eq_false rfl) (hdos _ List.mem_cons_self)
                  have h50 : f8 lx = some (.inl (cJ G, 64, .inr (.inl xs0))) := k10 _ _ h49 (Nat.ne_of_beq_eq_false rfl) (hdos _ List.mem_cons_self)
                  have h51 : f2 lw = some (.inl (cI G, 12, .inl (j6 gw0 gw1))) := k4 _ _ k_lw (Nat.ne_of_beq_eq_false rfl) (hdos _ (List.mem_cons_of_mem _ (List.mem_cons_of_mem _ List.mem_cons_self)))
                  have h52 : f5 lw = some (.inl (cI G, 12, .inl (j6 gw0 gw1))) := k7 _ _ h51 (Nat.ne_of_beq_eq_false rfl) (hdos _ (List.mem_cons_of_mem _ (List.mem_cons_of_mem _ List.mem_cons_self)))
                  have h53 : f8 lw = some (.inl (cI G, 12, .inl (j6 gw0 gw1))) := k10 _ _ h52 (Nat.ne_of_beq_eq_false rfl) (hdos _ (List.mem_cons_of_mem _ (List.mem_cons_of_mem _ List.mem_cons_self)))
                  have h54 : f18 lx = some (.inl (cJ G, 64, .inr (.inl xs0))) := (hEq.k k21) _ _ h50 (ninc n_lx_ly (ninc n_lx_le nin0))
                  have h55 : f24 lx = some (.inl (cJ G, 64, .inr (.inl xs0))) := by rw [ef24, va_up_ne _ _ n_lx_le]; exact h54
                  have h56 : f40 lx = some (.inl (cJ G, 64, .inr (.inl xs0))) := (hEq.k k46) _ _ h55 (ninc n_lx_ly (ninc n_lx_lq (ninc n_lx_le nin0)))
                  have h57 : f18 lw = some (.inl (cI G, 12, .inl (j6 gw0 gw1))) := (hEq.k k21) _ _ h53 (ninc (Ne.symm n_ly_lw) (ninc n_lw_le nin0))
                  have h58 : f24 lw = some (.inl (cI G, 12, .inl (j6 gw0 gw1))) := by rw [ef24, va_up_ne _ _ n_lw_le]; exact h57
                  have h59 : f40 lw = some (.inl (cI G, 12, .inl (j6 gw0 gw1))) := (hEq.k k46) _ _ h58 (ninc (Ne.symm n_ly_lw) (ninc n_lw_lq (ninc n_lw_le nin0)))
                  have h60 : f40 la = some (.inl (cI G, 12, .inl (j6 ga0 ga1))) := (hEq.k k46) _ _ h34 (ninc (Ne.symm n_ly_la) (ninc n_la_lq (ninc n_la_le nin0)))
                  have hC61 : CXW G f40 xo ez eo bu nw0 na0 nq0 nr0 nw1 na1 nq1 nr1 bs bp bh bf bl bg S0 S1 gw0 ga0 gw1 ga1 n a cg x sa pk fl gv gh gl := CXW.eq hC9 ((show hEq [lx, ly, lw, la, lq, le] f8 f18 from (hEq.mono k21 (sub_cons (List.mem_cons_of_mem _ List.mem_cons_self) (sub_cons (List.mem_cons_of_mem _ (List.mem_cons_of_mem _ (List.mem_cons_of_mem _ (List.mem_cons_of_mem _ (List.mem_cons_of_mem _ List.mem_cons_self))))) sub_nil)))).tr ((show hEq [lx, ly, lw, la, lq, le] f18 f24 from (by rw [ef24]; exact hEq.up (List.mem_cons_of_mem _ (List.mem_cons_of_mem _ (List.mem_cons_of_mem _ (List.mem_cons_of_mem _ (List.mem_cons_of_mem _ List.mem_cons_self))))))).tr (show hEq [lx, ly, lw, la, lq, le] f24 f40 from (hEq.mono k46 (sub_cons (List.mem_cons_of_mem _ List.mem_cons_self) (sub_cons (List.mem_cons_of_mem _ (List.mem_cons_of_mem _ (List.mem_cons_of_mem _ (List.mem_cons_of_mem _ List.mem_cons_self)))) (sub_cons (List.mem_cons_of_mem _ (List.mem_cons_of_mem _ (List.mem_cons_of_mem _ (List.mem_cons_of_mem _ (List.mem_cons_of_mem _ List.mem_cons_self))))) sub_nil))))))) hdis (fun b9 hb9 => by
                      simp only [List.mem_cons, List.not_mem_nil, or_false] at hb9
                      rcases hb9 with hb9 | hb9 | hb9 | hb9 | hb9 | hb9
                      · rw [hb9]; exact ⟨_, _, h50, h56, (Nat.ne_of_beq_eq_false rfl), (Nat.ne_of_beq_eq_false rfl)⟩
                      · rw [hb9]; exact ⟨_, _, h17, h42, (Nat.ne_of_beq_eq_false rfl), (Nat.ne_of_beq_eq_false rfl)⟩
                      · rw [hb9]; exact ⟨_, _, h53, h59, (Nat.ne_of_beq_eq_false rfl), (Nat.ne_of_beq_eq_false rfl)⟩
                      · rw [hb9]; exact ⟨_, _, h32, h60, (Nat.ne_of_beq_eq_false rfl), (Nat.ne_of_beq_eq_false rfl)⟩
                      · rw [hb9]; exact ⟨_, _, h37, h44, (Nat.ne_of_beq_eq_false rfl), (Nat.ne_of_beq_eq_false rfl)⟩
                      · rw [hb9]; exact ⟨_, _, h13, h47, (Nat.ne_of_beq_eq_false rfl), (Nat.ne_of_beq_eq_false rfl)⟩)
                  refine hp_SH (As := [.ref xo, .int 1]) (rest := []) B0 hw hS (c_V_loop_1 hl G f40 xo ez eo bu nw0 na0 nq0 nr0 nw1 na1 nq1 nr1 bs bp bh bf bl bg S0 S1 gw0 ga0 gw1 ga1 n a cg x sa pk fl gv gh gl hC61 (Nat.lt_of_le_of_lt hl0 (by decide)) (Nat.lt_of_le_of_lt hl1 (by decide)) (by rw [hLk]; exact fun h9 => nomatch h9)) mH_L_loop qM_L_121 rfl rfl hl9.1 (Nat.le_of_ble_eq_true rfl) ⟨⟨Nat.le_of_ble_eq_true rfl, Nat.le_of_ble_eq_true rfl⟩, Nat.le_of_ble_eq_true rfl, Nat.le_of_ble_eq_true rfl⟩ dL_links_910 (fun E ce q9 f62 H locs hPX hw hS hce hcv hcl => ?_) (fun v f62 H locs hP hw hS => ?_)
                  · exact hPX.elim
                  · obtain ⟨r9, L9, eL9, ev9, hC63, k64⟩ := hP
                    obtain ⟨er9, -⟩ := List.cons.inj (eL9.symm.trans hLk)
                    rw [er9] at ev9 hC63
                    subst ev9
                    have hC63 : CXW G f62 xo ez eo bu nw0 na0 nq0 nr0 nw1 na1 nq1 nr1 bs bp bh bf bl bg S0 (hearF ga1 r (missS (takeS S1))) gw0 ga0 gw1 ga1 n a cg x sa pk fl gv gh gl := hC63
                    refine W.eq (g2 := F0 m 913 ls [.int r.1]) rfl ?_
                    refine lv_iload hx hb dL_links_913 (lv_at hl9 0 rfl) ?_
                    refine lv_icmp_ne (tgt := 922) hx hb dL_links_915 (by decide) (fun c9 => absurd rfl c9) (fun _ => ?_)
                    refine lv_iconst (v := 1) hx hb dL_links_918 (by decide) ?_
                    refine lv_goto (tgt := 923) hx hb dL_links_919 (by decide) ?_
                    have h65 : f62 lx = some (.inl (cJ G, 64, .inr (.inl xs0))) := k64 _ _ h56 (Nat.ne_of_beq_eq_false rfl) (hdos _ List.mem_cons_self)
                    have h66 : f62 ly = some (.inl (cJ G, 64, .inr (.inl xs41))) := k64 _ _ h42 (Nat.ne_of_beq_eq_false rfl) (hdos _ (List.mem_cons_of_mem _ List.mem_cons_self))
                    have h67 : f62 lw = some (.inl (cI G, 12, .inl (j6 gw0 gw1))) := k64 _ _ h59 (Nat.ne_of_beq_eq_false rfl) (hdos _ (List.mem_cons_of_mem _ (List.mem_cons_of_mem _ List.mem_cons_self)))
                    have h68 : f62 la = some (.inl (cI G, 12, .inl (j6 ga0 ga1))) := k64 _ _ h60 (Nat.ne_of_beq_eq_false rfl) (hdos _ (List.mem_cons_of_mem _ (List.mem_cons_of_mem _ (List.mem_cons_of_mem _ List.mem_cons_self))))
                    have h69 : f62 lq = some (.inl (cI G, 12, .inl (j6 S0.2.2.2.2.2.2.2.1 (hearF ga1 r (missS (takeS S1))).2.2.2.2.2.2.2.1))) := k64 _ _ h44 (Nat.ne_of_beq_eq_false rfl) (hdos _ (List.mem_cons_of_mem _ (List.mem_cons_of_mem _ (List.mem_cons_of_mem _ (List.mem_cons_of_mem _ List.mem_cons_self)))))
                    have h70 : f62 le = some (.inl (cI G, 16, .inl (jE (eS S0) (e8 ((hearF ga1 r (missS (takeS S1))).1) ((hearF ga1 r (missS (takeS S1))).2.1) ((hearF ga1 r (missS (takeS S1))).2.2.1) ((hearF ga1 r (missS (takeS S1))).2.2.2.1) ((hearF ga1 r (missS (takeS S1))).2.2.2.2.1) ((hearF ga1 r (missS (takeS S1))).2.2.2.2.2.1) ((hearF ga1 r (missS (takeS S1))).2.2.2.2.2.2.1) (nI (hearF ga1 r (missS (takeS S1))).2.2.2.2.2.2.2.2.length))))) := k64 _ _ h47 (Nat.ne_of_beq_eq_false rfl) (hdos _ (List.mem_cons_of_mem _ (List.mem_cons_of_mem _ (List.mem_cons_of_mem _ (List.mem_cons_of_mem _ (List.mem_cons_of_mem _ List.mem_cons_self))))))
                    exact hp_zret (v := 1) B0 hw hS hr ⟨Nat.le_of_ble_eq_true rfl, Nat.le_of_ble_eq_true rfl⟩ (rfl) dL_links_923 (⟨rfl, S0, (hearF ga1 r (missS (takeS S1))), gw0, ga0, gw1, ga1, hC63, ⟨⟨_, h65, hX0⟩, ⟨_, h66, (show XS xs41 (hearF ga1 r (missS (takeS S1))).2.2.2.2.2.2.2.2 from hX43)⟩, h67, h68, h69, h70⟩, ⟨SOK.mono hSo0 (by omega), SOK.mono (SOK.hear (SOK.miss (SOK.take hSo1)) (by omega) hFo) (by omega), hgw0, hga0, hgw1, hga1⟩, hl0, (Nat.le_trans (hearF_len ga1 r (missS (takeS S1))) (Nat.le_trans (Nat.add_le_add_right (takeS_len S1) 2) (by omega))), ((show hKn [lx, ly, lw, la, lq, le, xo, ez, eo, bu, nw0, na0, nq0, nr0, nw1, na1, nq1, nr1, bs, bp, bh, bf, bl, bg] f f2 from (hKn.mono k4 sbA)).tr ((show hKn [lx, ly, lw, la, lq, le, xo, ez, eo, bu, nw0, na0, nq0, nr0, nw1, na1, nq1, nr1, bs, bp, bh, bf, bl, bg] f2 f5 from (hKn.mono k7 sbA)).tr ((show hKn [lx, ly, lw, la, lq, le, xo, ez, eo, bu, nw0, na0, nq0, nr0, nw1, na1, nq1, nr1, bs, bp, bh, bf, bl, bg] f5 f8 from (hKn.mono k10 sbA)).tr ((show hKn [lx, ly, lw, la, lq, le, xo, ez, eo, bu, nw0, na0, nq0, nr0, nw1, na1, nq1, nr1, bs, bp, bh, bf, bl, bg] f8 f18 from (hKn.mono (hKn.eq k21) (sub_cons (List.mem_cons_of_mem _ List.mem_cons_self) (sub_cons (List.mem_cons_of_mem _ (List.mem_cons_of_mem _ (List.mem_cons_of_mem _ (List.mem_cons_of_mem _ (List.mem_cons_of_mem _ List.mem_cons_self))))) sub_nil)))).tr ((show hKn [lx, ly, lw, la, lq, le, xo, ez, eo, bu, nw0, na0, nq0, nr0, nw1, na1, nq1, nr1, bs, bp, bh, bf, bl, bg] f18 f24 from (by rw [ef24]; exact hKn.up (List.mem_cons_of_mem _ (List.mem_cons_of_mem _ (List.mem_cons_of_mem _ (List.mem_cons_of_mem _ (List.mem_cons_of_mem _ List.mem_cons_self))))))).tr ((show hKn [lx, ly, lw, la, lq, le, xo, ez, eo, bu, nw0, na0, nq0, nr0, nw1, na1, nq1, nr1, bs, bp, bh, bf, bl, bg] f24 f40 from (hKn.mono (hKn.eq k46) (sub_cons (List.mem_cons_of_mem _ List.mem_cons_self) (sub_cons (List.mem_cons_of_mem _ (List.mem_cons_of_mem _ (List.mem_cons_of_mem _ (List.mem_cons_of_mem _ List.mem_cons_self)))) (sub_cons (List.mem_cons_of_mem _ (List.mem_cons_of_mem _ (List.mem_cons_of_mem _ (List.mem_cons_of_mem _ (List.mem_cons_of_mem _ List.mem_cons_self))))) sub_nil))))).tr (show hKn [lx, ly, lw, la, lq, le, xo, ez, eo, bu, nw0, na0, nq0, nr0, nw1, na1, nq1, nr1, bs, bp, bh, bf, bl, bg] f40 f62 from (hKn.mono k64 sbA))))))))⟩)
              · refine lv_aload_n hx hb dL_links_875 rfl (lv_at hl9 6 rfl) ?_
                refine lv_iload hx hb dL_links_876 (lv_at hl9 5 rfl) ?_
                have h71 : f2 lx = some (.inl (cJ G, 64, .inr (.inl xs0))) := k4 _ _ k_lx (Nat.ne_of_beq_eq_false rfl) (hdos _ List.mem_cons_self)
                have h72 : f5 lx = some (.inl (cJ G, 64, .inr (.inl xs0))) := k7 _ _ h71 (Nat.ne_of_beq_eq_false rfl) (hdos _ List.mem_cons_self)
                have h73 : f8 lx = some (.inl (cJ G, 64, .inr (.inl xs0))) := k10 _ _ h72 (Nat.ne_of_beq_eq_false rfl) (hdos _ List.mem_cons_self)
                have h74 : f2 lw = some (.inl (cI G, 12, .inl (j6 gw0 gw1))) := k4 _ _ k_lw (Nat.ne_of_beq_eq_false rfl) (hdos _ (List.mem_cons_of_mem _ (List.mem_cons_of_mem _ List.mem_cons_self)))
                have h75 : f5 lw = some (.inl (cI G, 12, .inl (j6 gw0 gw1))) := k7 _ _ h74 (Nat.ne_of_beq_eq_false rfl) (hdos _ (List.mem_cons_of_mem _ (List.mem_cons_of_mem _ List.mem_cons_self)))
                have h76 : f8 lw = some (.inl (cI G, 12, .inl (j6 gw0 gw1))) := k10 _ _ h75 (Nat.ne_of_beq_eq_false rfl) (hdos _ (List.mem_cons_of_mem _ (List.mem_cons_of_mem _ List.mem_cons_self)))
                have h77 : f2 la = some (.inl (cI G, 12, .inl (j6 ga0 ga1))) := k4 _ _ k_la (Nat.ne_of_beq_eq_false rfl) (hdos _ (List.mem_cons_of_mem _ (List.mem_cons_of_mem _ (List.mem_cons_of_mem _ List.mem_cons_self))))
                have h78 : f5 la = some (.inl (cI G, 12, .inl (j6 ga0 ga1))) := k7 _ _ h77 (Nat.ne_of_beq_eq_false rfl) (hdos _ (List.mem_cons_of_mem _ (List.mem_cons_of_mem _ (List.mem_cons_of_mem _ List.mem_cons_self))))
                have h79 : f8 la = some (.inl (cI G, 12, .inl (j6 ga0 ga1))) := k10 _ _ h78 (Nat.ne_of_beq_eq_false rfl) (hdos _ (List.mem_cons_of_mem _ (List.mem_cons_of_mem _ (List.mem_cons_of_mem _ List.mem_cons_self))))
                have h80 : f2 lq = some (.inl (cI G, 12, .inl (j6 S0.2.2.2.2.2.2.2.1 S1.2.2.2.2.2.2.2.1))) := k4 _ _ k_lq (Nat.ne_of_beq_eq_false rfl) (hdos _ (List.mem_cons_of_mem _ (List.mem_cons_of_mem _ (List.mem_cons_of_mem _ (List.mem_cons_of_mem _ List.mem_cons_self)))))
                have h81 : f5 lq = some (.inl (cI G, 12, .inl (j6 S0.2.2.2.2.2.2.2.1 S1.2.2.2.2.2.2.2.1))) := k7 _ _ h80 (Nat.ne_of_beq_eq_false rfl) (hdos _ (List.mem_cons_of_mem _ (List.mem_cons_of_mem _ (List.mem_cons_of_mem _ (List.mem_cons_of_mem _ List.mem_cons_self)))))
                have h82 : f8 lq = some (.inl (cI G, 12, .inl (j6 S0.2.2.2.2.2.2.2.1 S1.2.2.2.2.2.2.2.1))) := k10 _ _ h81 (Nat.ne_of_beq_eq_false rfl) (hdos _ (List.mem_cons_of_mem _ (List.mem_cons_of_mem _ (List.mem_cons_of_mem _ (List.mem_cons_of_mem _ List.mem_cons_self)))))
                have h83 : f18 lx = some (.inl (cJ G, 64, .inr (.inl xs0))) := (hEq.k k21) _ _ h73 (ninc n_lx_ly (ninc n_lx_le nin0))
                have h84 : f24 lx = some (.inl (cJ G, 64, .inr (.inl xs0))) := by rw [ef24, va_up_ne _ _ n_lx_le]; exact h83
                have h85 : f24 ly = some (.inl (cJ G, 64, .inr (.inl (pullN xs1 L1.length)))) := by rw [ef24, va_up_ne _ _ n_ly_le]; exact h19
                have h86 : f18 lw = some (.inl (cI G, 12, .inl (j6 gw0 gw1))) := (hEq.k k21) _ _ h76 (ninc (Ne.symm n_ly_lw) (ninc n_lw_le nin0))
                have h87 : f24 lw = some (.inl (cI G, 12, .inl (j6 gw0 gw1))) := by rw [ef24, va_up_ne _ _ n_lw_le]; exact h86
                have h88 : f18 la = some (.inl (cI G, 12, .inl (j6 ga0 ga1))) := (hEq.k k21) _ _ h79 (ninc (Ne.symm n_ly_la) (ninc n_la_le nin0))
                have h89 : f24 la = some (.inl (cI G, 12, .inl (j6 ga0 ga1))) := by rw [ef24, va_up_ne _ _ n_la_le]; exact h88
                have h90 : f18 lq = some (.inl (cI G, 12, .inl (j6 S0.2.2.2.2.2.2.2.1 S1.2.2.2.2.2.2.2.1))) := (hEq.k k21) _ _ h82 (ninc (Ne.symm n_ly_lq) (ninc n_lq_le nin0))
                have h91 : f24 lq = some (.inl (cI G, 12, .inl (j6 S0.2.2.2.2.2.2.2.1 S1.2.2.2.2.2.2.2.1))) := by rw [ef24, va_up_ne _ _ n_lq_le]; exact h90
                have hC92 : CXW G f24 xo ez eo bu nw0 na0 nq0 nr0 nw1 na1 nq1 nr1 bs bp bh bf bl bg S0 S1 gw0 ga0 gw1 ga1 n a cg x sa pk fl gv gh gl := CXW.eq hC9 ((show hEq [lx, ly, lw, la, lq, le] f8 f18 from (hEq.mono k21 (sub_cons (List.mem_cons_of_mem _ List.mem_cons_self) (sub_cons (List.mem_cons_of_mem _ (List.mem_cons_of_mem _ (List.mem_cons_of_mem _ (List.mem_cons_of_mem _ (List.mem_cons_of_mem _ List.mem_cons_self))))) sub_nil)))).tr (show hEq [lx, ly, lw, la, lq, le] f18 f24 from (by rw [ef24]; exact hEq.up (List.mem_cons_of_mem _ (List.mem_cons_of_mem _ (List.mem_cons_of_mem _ (List.mem_cons_of_mem _ (List.mem_cons_of_mem _ List.mem_cons_self)))))))) hdis (fun b9 hb9 => by
                    simp only [List.mem_cons, List.not_mem_nil, or_false] at hb9
                    rcases hb9 with hb9 | hb9 | hb9 | hb9 | hb9 | hb9
                    · rw [hb9]; exact ⟨_, _, h73, h84, (Nat.ne_of_beq_eq_false rfl), (Nat.ne_of_beq_eq_false rfl)⟩
                    · rw [hb9]; exact ⟨_, _, h17, h85, (Nat.ne_of_beq_eq_false rfl), (Nat.ne_of_beq_eq_false rfl)⟩
                    · rw [hb9]; exact ⟨_, _, h76, h87, (Nat.ne_of_beq_eq_false rfl), (Nat.ne_of_beq_eq_false rfl)⟩
                    · rw [hb9]; exact ⟨_, _, h79, h89, (Nat.ne_of_beq_eq_false rfl), (Nat.ne_of_beq_eq_false rfl)⟩
                    · rw [hb9]; exact ⟨_, _, h82, h91, (Nat.ne_of_beq_eq_false rfl), (Nat.ne_of_beq_eq_false rfl)⟩
                    · rw [hb9]; exact ⟨_, _, h13, h26, (Nat.ne_of_beq_eq_false rfl), (Nat.ne_of_beq_eq_false rfl)⟩)
                refine hp_SH (As := [.ref xo, .int 1]) (rest := []) B0 hw hS (c_V_lose_1 hl G f24 xo ez eo bu nw0 na0 nq0 nr0 nw1 na1 nq1 nr1 bs bp bh bf bl bg S0 S1 gw0 ga0 gw1 ga1 n a cg x sa pk fl gv gh gl hC92 (Nat.lt_of_le_of_lt hl0 (by decide)) (Nat.lt_of_le_of_lt hl1 (by decide)) (by rw [hLk]; exact fun h9 => nomatch h9)) mH_L_lose qM_L_119 rfl rfl hl9.1 (Nat.le_of_ble_eq_true rfl) ⟨⟨Nat.le_of_ble_eq_true rfl, Nat.le_of_ble_eq_true rfl⟩, Nat.le_of_ble_eq_true rfl, Nat.le_of_ble_eq_true rfl⟩ dL_links_878 (fun E ce q9 f93 H locs hPX hw hS hce hcv hcl => ?_) (fun v f93 H locs hP hw hS => ?_)
                · exact hPX.elim
                · obtain ⟨r9, L9, eL9, ev9, hC94, k95⟩ := hP
                  obtain ⟨er9, -⟩ := List.cons.inj (eL9.symm.trans hLk)
                  rw [er9] at ev9 hC94
                  subst ev9
                  have hC94 : CXW G f93 xo ez eo bu nw0 na0 nq0 nr0 nw1 na1 nq1 nr1 bs bp bh bf bl bg S0 (missS (takeS S1)) gw0 ga0 gw1 ga1 n a cg x sa pk fl gv gh gl := hC94
                  refine W.eq (g2 := F0 m 881 ls [.int r.1]) rfl ?_
                  refine lv_iload hx hb dL_links_881 (lv_at hl9 0 rfl) ?_
                  refine lv_icmp_ne (tgt := 890) hx hb dL_links_883 (by decide) (fun c9 => absurd rfl c9) (fun _ => ?_)
                  refine lv_iconst (v := 1) hx hb dL_links_886 (by decide) ?_
                  refine lv_goto (tgt := 891) hx hb dL_links_887 (by decide) ?_
                  have h96 : f93 lx = some (.inl (cJ G, 64, .inr (.inl xs0))) := k95 _ _ h84 (Nat.ne_of_beq_eq_false rfl) (hdos _ List.mem_cons_self)
                  have h97 : f93 ly = some (.inl (cJ G, 64, .inr (.inl (pullN xs1 L1.length)))) := k95 _ _ h85 (Nat.ne_of_beq_eq_false rfl) (hdos _ (List.mem_cons_of_mem _ List.mem_cons_self))
                  have h98 : f93 lw = some (.inl (cI G, 12, .inl (j6 gw0 gw1))) := k95 _ _ h87 (Nat.ne_of_beq_eq_false rfl) (hdos _ (List.mem_cons_of_mem _ (List.mem_cons_of_mem _ List.mem_cons_self)))
                  have h99 : f93 la = some (.inl (cI G, 12, .inl (j6 ga0 ga1))) := k95 _ _ h89 (Nat.ne_of_beq_eq_false rfl) (hdos _ (List.mem_cons_of_mem _ (List.mem_cons_of_mem _ (List.mem_cons_of_mem _ List.mem_cons_self))))
                  have h100 : f93 lq = some (.inl (cI G, 12, .inl (j6 S0.2.2.2.2.2.2.2.1 S1.2.2.2.2.2.2.2.1))) := k95 _ _ h91 (Nat.ne_of_beq_eq_false rfl) (hdos _ (List.mem_cons_of_mem _ (List.mem_cons_of_mem _ (List.mem_cons_of_mem _ (List.mem_cons_of_mem _ List.mem_cons_self)))))
                  have h101 : f93 le = some (.inl (cI G, 16, .inl (jE (eS S0) (e8 ((missS (takeS S1)).1) ((missS (takeS S1)).2.1) ((missS (takeS S1)).2.2.1) ((missS (takeS S1)).2.2.2.1) ((missS (takeS S1)).2.2.2.2.1) ((missS (takeS S1)).2.2.2.2.2.1) ((missS (takeS S1)).2.2.2.2.2.2.1) (nI (missS (takeS S1)).2.2.2.2.2.2.2.2.length))))) := k95 _ _ h26 (Nat.ne_of_beq_eq_false rfl) (hdos _ (List.mem_cons_of_mem _ (List.mem_cons_of_mem _ (List.mem_cons_of_mem _ (List.mem_cons_of_mem _ (List.mem_cons_of_mem _ List.mem_cons_self))))))
                  exact hp_zret (v := 1) B0 hw hS hr ⟨Nat.le_of_ble_eq_true rfl, Nat.le_of_ble_eq_true rfl⟩ (rfl) dL_links_891 (⟨rfl, S0, (missS (takeS S1)), gw0, ga0, gw1, ga1, hC94, ⟨⟨_, h96, hX0⟩, ⟨_, h97, (show XS (pullN xs1 L1.length) (takeS S1).2.2.2.2.2.2.2.2 from (show XS _ S1.2.2.2.2.2.2.2.2.tail from by rw [hLk]; exact hXk.tail))⟩, h98, h99, h100, h101⟩, ⟨SOK.mono hSo0 (by omega), SOK.mono (SOK.miss (SOK.take hSo1)) (by omega), hgw0, hga0, hgw1, hga1⟩, hl0, (Nat.le_trans (takeS_len S1) hl1), ((show hKn [lx, ly, lw, la, lq, le, xo, ez, eo, bu, nw0, na0, nq0, nr0, nw1, na1, nq1, nr1, bs, bp, bh, bf, bl, bg] f f2 from (hKn.mono k4 sbA)).tr ((show hKn [lx, ly, lw, la, lq, le, xo, ez, eo, bu, nw0, na0, nq0, nr0, nw1, na1, nq1, nr1, bs, bp, bh, bf, bl, bg] f2 f5 from (hKn.mono k7 sbA)).tr ((show hKn [lx, ly, lw, la, lq, le, xo, ez, eo, bu, nw0, na0, nq0, nr0, nw1, na1, nq1, nr1, bs, bp, bh, bf, bl, bg] f5 f8 from (hKn.mono k10 sbA)).tr ((show hKn [lx, ly, lw, la, lq, le, xo, ez, eo, bu, nw0, na0, nq0, nr0, nw1, na1, nq1, nr1, bs, bp, bh, bf, bl, bg] f8 f18 from (hKn.mono (hKn.eq k21) (sub_cons (List.mem_cons_of_mem _ List.mem_cons_self) (sub_cons (List.mem_cons_of_mem _ (List.mem_cons_of_mem _ (List.mem_cons_of_mem _ (List.mem_cons_of_mem _ (List.mem_cons_of_mem _ List.mem_cons_self))))) sub_nil)))).tr ((show hKn [lx, ly, lw, la, lq, le, xo, ez, eo, bu, nw0, na0, nq0, nr0, nw1, na1, nq1, nr1, bs, bp, bh, bf, bl, bg] f18 f24 from (by rw [ef24]; exact hKn.up (List.mem_cons_of_mem _ (List.mem_cons_of_mem _ (List.mem_cons_of_mem _ (List.mem_cons_of_mem _ (List.mem_cons_of_mem _ List.mem_cons_self))))))).tr (show hKn [lx, ly, lw, la, lq, le, xo, ez, eo, bu, nw0, na0, nq0, nr0, nw1, na1, nq1, nr1, bs, bp, bh, bf, bl, bg] f24 f93 from (hKn.mono k95 sbA)))))))⟩)
            · obtain ⟨h40a, h40b⟩ := hact (fun e9 => by subst e9; exact absurd (by decide) c23)
              refine lv_lload hx hb dL_links_814 (lv_at hl9 1 rfl) ?_
              refine lv_iload hx hb dL_links_816 (lv_at hl9 5 rfl) ?_
              refine lv_if_ne (tgt := 826) hx hb dL_links_818 (by decide) (fun _ => ?_) (fun c9 => absurd c9 (by decide))
              refine lv_aload hx hb dL_links_826 (lv_at hl9 10 rfl) ?_
              refine lv_aload hx hb dL_links_828 (lv_at hl9 13 rfl) ?_
              refine lv_aload hx hb dL_links_830 (lv_at hl9 14 rfl) ?_
              refine lv_aload hx hb dL_links_832 (lv_at hl9 15 rfl) ?_
              refine lv_iconst (v := 1) hx hb dL_links_834 (by decide) ?_
              refine lv_iload hx hb dL_links_835 (lv_at hl9 5 rfl) ?_
              refine lv_isub hx hb dL_links_837 ?_
              refine hp_c (v := 0) (by decide) ?_
              have h102 : f18 le = some (.inl (cI G, 16, .inl (jE (e8 S0.1 S0.2.1 S0.2.2.1 S0.2.2.2.1 S0.2.2.2.2.1 S0.2.2.2.2.2.1 S0.2.2.2.2.2.2.1 (nI S0.2.2.2.2.2.2.2.2.length)) (eS (takeS S1))))) := h22
              have h103 : f2 lx = some (.inl (cJ G, 64, .inr (.inl xs0))) := k4 _ _ k_lx (Nat.ne_of_beq_eq_false rfl) (hdos _ List.mem_cons_self)
              have h104 : f5 lx = some (.inl (cJ G, 64, .inr (.inl xs0))) := k7 _ _ h103 (Nat.ne_of_beq_eq_false rfl) (hdos _ List.mem_cons_self)
              have h105 : f8 lx = some (.inl (cJ G, 64, .inr (.inl xs0))) := k10 _ _ h104 (Nat.ne_of_beq_eq_false rfl) (hdos _ List.mem_cons_self)
              have h106 : f18 lx = some (.inl (cJ G, 64, .inr (.inl xs0))) := (hEq.k k21) _ _ h105 (ninc n_lx_ly (ninc n_lx_le nin0))
              have h107 : f2 la = some (.inl (cI G, 12, .inl (j6 ga0 ga1))) := k4 _ _ k_la (Nat.ne_of_beq_eq_false rfl) (hdos _ (List.mem_cons_of_mem _ (List.mem_cons_of_mem _ (List.mem_cons_of_mem _ List.mem_cons_self))))
              have h108 : f5 la = some (.inl (cI G, 12, .inl (j6 ga0 ga1))) := k7 _ _ h107 (Nat.ne_of_beq_eq_false rfl) (hdos _ (List.mem_cons_of_mem _ (List.mem_cons_of_mem _ (List.mem_cons_of_mem _ List.mem_cons_self))))
              have h109 : f8 la = some (.inl (cI G, 12, .inl (j6 ga0 ga1))) := k10 _ _ h108 (Nat.ne_of_beq_eq_false rfl) (hdos _ (List.mem_cons_of_mem _ (List.mem_cons_of_mem _ (List.mem_cons_of_mem _ List.mem_cons_self))))
              have h110 : f18 la = some (.inl (cI G, 12, .inl (j6 ga0 ga1))) := (hEq.k k21) _ _ h109 (ninc (Ne.symm n_ly_la) (ninc n_la_le nin0))
              have h111 : f2 lq = some (.inl (cI G, 12, .inl (j6 S0.2.2.2.2.2.2.2.1 S1.2.2.2.2.2.2.2.1))) := k4 _ _ k_lq (Nat.ne_of_beq_eq_false rfl) (hdos _ (List.mem_cons_of_mem _ (List.mem_cons_of_mem _ (List.mem_cons_of_mem _ (List.mem_cons_of_mem _ List.mem_cons_self)))))
              have h112 : f5 lq = some (.inl (cI G, 12, .inl (j6 S0.2.2.2.2.2.2.2.1 S1.2.2.2.2.2.2.2.1))) := k7 _ _ h111 (Nat.ne_of_beq_eq_false rfl) (hdos _ (List.mem_cons_of_mem _ (List.mem_cons_of_mem _ (List.mem_cons_of_mem _ (List.mem_cons_of_mem _ List.mem_cons_self)))))
              have h113 : f8 lq = some (.inl (cI G, 12, .inl (j6 S0.2.2.2.2.2.2.2.1 S1.2.2.2.2.2.2.2.1))) := k10 _ _ h112 (Nat.ne_of_beq_eq_false rfl) (hdos _ (List.mem_cons_of_mem _ (List.mem_cons_of_mem _ (List.mem_cons_of_mem _ (List.mem_cons_of_mem _ List.mem_cons_self)))))
              have h114 : f18 lq = some (.inl (cI G, 12, .inl (j6 S0.2.2.2.2.2.2.2.1 S1.2.2.2.2.2.2.2.1))) := (hEq.k k21) _ _ h113 (ninc (Ne.symm n_ly_lq) (ninc n_lq_le nin0))
              refine hp_S (As := [.long (lN (pkN r)), .ref lx, .ref la, .ref lq, .ref le, .int 0]) (rest := []) B0 hw hS (c_L_take_0 hl G f18 lx la lq le S0.1 S0.2.1 S0.2.2.1 S0.2.2.2.1 S0.2.2.2.2.1 S0.2.2.2.2.2.1 S0.2.2.2.2.2.2.1 S0.2.2.2.2.2.2.2.1 S0.2.2.2.2.2.2.2.2 (eS (takeS S1)) ga0 ga1 (takeS S1).2.2.2.2.2.2.2.1 b hSo0 (by omega) r.1 r.2.1 r.2.2.1 r.2.2.2 hFo hga0 n_la_lq xs0 hX0 (Nat.lt_of_le_of_lt hl0 (by decide)) h106 h110 h114 h102) mS_L_take qM_L_127 rfl rfl hl9.1 (Nat.le_of_ble_eq_true rfl) ⟨⟨Nat.le_of_ble_eq_true rfl, Nat.le_of_ble_eq_true rfl⟩, Nat.le_of_ble_eq_true rfl, Nat.le_of_ble_eq_true rfl⟩ dL_links_838 (fun E ce q9 f115 H locs hPX hw hS hce hcv hcl => ?_) (fun v f115 H locs hP hw hS => ?_)
              · exact hPX.elim
              · obtain ⟨ev9, ⟨xs116, h117, hX118⟩, h119, h120, k121⟩ := hP
                subst ev9
                have h119 : f115 lq = some (.inl (cI G, 12, .inl (j6 (hearF ga0 r S0).2.2.2.2.2.2.2.1 (takeS S1).2.2.2.2.2.2.2.1))) := h119
                have h122 : f115 le = some (.inl (cI G, 16, .inl (jE (eS (hearF ga0 r S0)) (e8 ((takeS S1).1) ((takeS S1).2.1) ((takeS S1).2.2.1) ((takeS S1).2.2.2.1) ((takeS S1).2.2.2.2.1) ((takeS S1).2.2.2.2.2.1) ((takeS S1).2.2.2.2.2.2.1) (nI (takeS S1).2.2.2.2.2.2.2.2.length))))) := h120
                refine W.eq (g2 := F0 m 841 ls []) rfl ?_
                refine lv_aload_n hx hb dL_links_841 rfl (lv_at hl9 6 rfl) ?_
                refine lv_iload hx hb dL_links_842 (lv_at hl9 5 rfl) ?_
                have h123 : f2 lw = some (.inl (cI G, 12, .inl (j6 gw0 gw1))) := k4 _ _ k_lw (Nat.ne_of_beq_eq_false rfl) (hdos _ (List.mem_cons_of_mem _ (List.mem_cons_of_mem _ List.mem_cons_self)))
                have h124 : f5 lw = some (.inl (cI G, 12, .inl (j6 gw0 gw1))) := k7 _ _ h123 (Nat.ne_of_beq_eq_false rfl) (hdos _ (List.mem_cons_of_mem _ (List.mem_cons_of_mem _ List.mem_cons_self)))
                have h125 : f8 lw = some (.inl (cI G, 12, .inl (j6 gw0 gw1))) := k10 _ _ h124 (Nat.ne_of_beq_eq_false rfl) (hdos _ (List.mem_cons_of_mem _ (List.mem_cons_of_mem _ List.mem_cons_self)))
                have h126 : f115 ly = some (.inl (cJ G, 64, .inr (.inl (pullN xs1 L1.length)))) := (hEq.k k121) _ _ h19 (ninc (Ne.symm n_lx_ly) (ninc n_ly_lq (ninc n_ly_le nin0)))
                have h127 : f18 lw = some (.inl (cI G, 12, .inl (j6 gw0 gw1))) := (hEq.k k21) _ _ h125 (ninc (Ne.symm n_ly_lw) (ninc n_lw_le nin0))
                have h128 : f115 lw = some (.inl (cI G, 12, .inl (j6 gw0 gw1))) := (hEq.k k121) _ _ h127 (ninc (Ne.symm n_lx_lw) (ninc n_lw_lq (ninc n_lw_le nin0)))
                have h129 : f115 la = some (.inl (cI G, 12, .inl (j6 ga0 ga1))) := (hEq.k k121) _ _ h110 (ninc (Ne.symm n_lx_la) (ninc n_la_lq (ninc n_la_le nin0)))
                have hC130 : CXW G f115 xo ez eo bu nw0 na0 nq0 nr0 nw1 na1 nq1 nr1 bs bp bh bf bl bg S0 S1 gw0 ga0 gw1 ga1 n a cg x sa pk fl gv gh gl := CXW.eq hC9 ((show hEq [lx, ly, lw, la, lq, le] f8 f18 from (hEq.mono k21 (sub_cons (List.mem_cons_of_mem _ List.mem_cons_self) (sub_cons (List.mem_cons_of_mem _ (List.mem_cons_of_mem _ (List.mem_cons_of_mem _ (List.mem_cons_of_mem _ (List.mem_cons_of_mem _ List.mem_cons_self))))) sub_nil)))).tr (show hEq [lx, ly, lw, la, lq, le] f18 f115 from (hEq.mono k121 (sub_cons List.mem_cons_self (sub_cons (List.mem_cons_of_mem _ (List.mem_cons_of_mem _ (List.mem_cons_of_mem _ (List.mem_cons_of_mem _ List.mem_cons_self)))) (sub_cons (List.mem_cons_of_mem _ (List.mem_cons_of_mem _ (List.mem_cons_of_mem _ (List.mem_cons_of_mem _ (List.mem_cons_of_mem _ List.mem_cons_self))))) sub_nil)))))) hdis (fun b9 hb9 => by
                    simp only [List.mem_cons, List.not_mem_nil, or_false] at hb9
                    rcases hb9 with hb9 | hb9 | hb9 | hb9 | hb9 | hb9
                    · rw [hb9]; exact ⟨_, _, h105, h117, (Nat.ne_of_beq_eq_false rfl), (Nat.ne_of_beq_eq_false rfl)⟩
                    · rw [hb9]; exact ⟨_, _, h17, h126, (Nat.ne_of_beq_eq_false rfl), (Nat.ne_of_beq_eq_false rfl)⟩
                    · rw [hb9]; exact ⟨_, _, h125, h128, (Nat.ne_of_beq_eq_false rfl), (Nat.ne_of_beq_eq_false rfl)⟩
                    · rw [hb9]; exact ⟨_, _, h109, h129, (Nat.ne_of_beq_eq_false rfl), (Nat.ne_of_beq_eq_false rfl)⟩
                    · rw [hb9]; exact ⟨_, _, h113, h119, (Nat.ne_of_beq_eq_false rfl), (Nat.ne_of_beq_eq_false rfl)⟩
                    · rw [hb9]; exact ⟨_, _, h13, h122, (Nat.ne_of_beq_eq_false rfl), (Nat.ne_of_beq_eq_false rfl)⟩)
                refine hp_SH (As := [.ref xo, .int 1]) (rest := []) B0 hw hS (c_V_deliver_1 hl G f115 xo ez eo bu nw0 na0 nq0 nr0 nw1 na1 nq1 nr1 bs bp bh bf bl bg S0 S1 gw0 ga0 gw1 ga1 n a cg x sa pk fl gv gh gl hC130 (Nat.lt_of_le_of_lt hl0 (by decide)) (Nat.lt_of_le_of_lt hl1 (by decide)) (by rw [hLk]; exact fun h9 => nomatch h9)) mH_L_deliver qM_L_117 rfl rfl hl9.1 (Nat.le_of_ble_eq_true rfl) ⟨⟨Nat.le_of_ble_eq_true rfl, Nat.le_of_ble_eq_true rfl⟩, Nat.le_of_ble_eq_true rfl, Nat.le_of_ble_eq_true rfl⟩ dL_links_844 (fun E ce q9 f131 H locs hPX hw hS hce hcv hcl => ?_) (fun v f131 H locs hP hw hS => ?_)
                · exact hPX.elim
                · obtain ⟨r9, L9, eL9, ev9, hC132, k133⟩ := hP
                  obtain ⟨er9, -⟩ := List.cons.inj (eL9.symm.trans hLk)
                  rw [er9] at ev9 hC132
                  subst ev9
                  have hC132 : CXW G f131 xo ez eo bu nw0 na0 nq0 nr0 nw1 na1 nq1 nr1 bs bp bh bf bl bg (hearF ga0 r S0) (takeS S1) gw0 ga0 gw1 ga1 n a cg x sa pk fl gv gh gl := hC132
                  refine W.eq (g2 := F0 m 847 ls [.int r.1]) rfl ?_
                  refine lv_iload hx hb dL_links_847 (lv_at hl9 0 rfl) ?_
                  refine lv_icmp_ne (tgt := 856) hx hb dL_links_849 (by decide) (fun c9 => absurd rfl c9) (fun _ => ?_)
                  refine lv_iconst (v := 1) hx hb dL_links_852 (by decide) ?_
                  refine lv_goto (tgt := 857) hx hb dL_links_853 (by decide) ?_
                  have h134 : f131 lx = some (.inl (cJ G, 64, .inr (.inl xs116))) := k133 _ _ h117 (Nat.ne_of_beq_eq_false rfl) (hdos _ List.mem_cons_self)
                  have h135 : f131 ly = some (.inl (cJ G, 64, .inr (.inl (pullN xs1 L1.length)))) := k133 _ _ h126 (Nat.ne_of_beq_eq_false rfl) (hdos _ (List.mem_cons_of_mem _ List.mem_cons_self))
                  have h136 : f131 lw = some (.inl (cI G, 12, .inl (j6 gw0 gw1))) := k133 _ _ h128 (Nat.ne_of_beq_eq_false rfl) (hdos _ (List.mem_cons_of_mem _ (List.mem_cons_of_mem _ List.mem_cons_self)))
                  have h137 : f131 la = some (.inl (cI G, 12, .inl (j6 ga0 ga1))) := k133 _ _ h129 (Nat.ne_of_beq_eq_false rfl) (hdos _ (List.mem_cons_of_mem _ (List.mem_cons_of_mem _ (List.mem_cons_of_mem _ List.mem_cons_self))))
                  have h138 : f131 lq = some (.inl (cI G, 12, .inl (j6 (hearF ga0 r S0).2.2.2.2.2.2.2.1 (takeS S1).2.2.2.2.2.2.2.1))) := k133 _ _ h119 (Nat.ne_of_beq_eq_false rfl) (hdos _ (List.mem_cons_of_mem _ (List.mem_cons_of_mem _ (List.mem_cons_of_mem _ (List.mem_cons_of_mem _ List.mem_cons_self)))))
                  have h139 : f131 le = some (.inl (cI G, 16, .inl (jE (eS (hearF ga0 r S0)) (e8 ((takeS S1).1) ((takeS S1).2.1) ((takeS S1).2.2.1) ((takeS S1).2.2.2.1) ((takeS S1).2.2.2.2.1) ((takeS S1).2.2.2.2.2.1) ((takeS S1).2.2.2.2.2.2.1) (nI (takeS S1).2.2.2.2.2.2.2.2.length))))) := k133 _ _ h122 (Nat.ne_of_beq_eq_false rfl) (hdos _ (List.mem_cons_of_mem _ (List.mem_cons_of_mem _ (List.mem_cons_of_mem _ (List.mem_cons_of_mem _ (List.mem_cons_of_mem _ List.mem_cons_self))))))
                  exact hp_zret (v := 1) B0 hw hS hr ⟨Nat.le_of_ble_eq_true rfl, Nat.le_of_ble_eq_true rfl⟩ (rfl) dL_links_857 (⟨rfl, (hearF ga0 r S0), (takeS S1), gw0, ga0, gw1, ga1, hC132, ⟨⟨_, h134, (show XS xs116 (hearF ga0 r S0).2.2.2.2.2.2.2.2 from hX118)⟩, ⟨_, h135, (show XS (pullN xs1 L1.length) (takeS S1).2.2.2.2.2.2.2.2 from (show XS _ S1.2.2.2.2.2.2.2.2.tail from by rw [hLk]; exact hXk.tail))⟩, h136, h137, h138, h139⟩, ⟨SOK.mono (SOK.hear hSo0 (by omega) hFo) (by omega), SOK.mono (SOK.take hSo1) (by omega), hgw0, hga0, hgw1, hga1⟩, (Nat.le_trans (hearF_len ga0 r S0) (by have h9 := Nat.le_refl S0.2.2.2.2.2.2.2.2.length; omega)), (Nat.le_trans (takeS_len S1) hl1), ((show hKn [lx, ly, lw, la, lq, le, xo, ez, eo, bu, nw0, na0, nq0, nr0, nw1, na1, nq1, nr1, bs, bp, bh, bf, bl, bg] f f2 from (hKn.mono k4 sbA)).tr ((show hKn [lx, ly, lw, la, lq, le, xo, ez, eo, bu, nw0, na0, nq0, nr0, nw1, na1, nq1, nr1, bs, bp, bh, bf, bl, bg] f2 f5 from (hKn.mono k7 sbA)).tr ((show hKn [lx, ly, lw, la, lq, le, xo, ez, eo, bu, nw0, na0, nq0, nr0, nw1, na1, nq1, nr1, bs, bp, bh, bf, bl, bg] f5 f8 from (hKn.mono k10 sbA)).tr ((show hKn [lx, ly, lw, la, lq, le, xo, ez, eo, bu, nw0, na0, nq0, nr0, nw1, na1, nq1, nr1, bs, bp, bh, bf, bl, bg] f8 f18 from (hKn.mono (hKn.eq k21) (sub_cons (List.mem_cons_of_mem _ List.mem_cons_self) (sub_cons (List.mem_cons_of_mem _ (List.mem_cons_of_mem _ (List.mem_cons_of_mem _ (List.mem_cons_of_mem _ (List.mem_cons_of_mem _ List.mem_cons_self))))) sub_nil)))).tr ((show hKn [lx, ly, lw, la, lq, le, xo, ez, eo, bu, nw0, na0, nq0, nr0, nw1, na1, nq1, nr1, bs, bp, bh, bf, bl, bg] f18 f115 from (hKn.mono (hKn.eq k121) (sub_cons List.mem_cons_self (sub_cons (List.mem_cons_of_mem _ (List.mem_cons_of_mem _ (List.mem_cons_of_mem _ (List.mem_cons_of_mem _ List.mem_cons_self)))) (sub_cons (List.mem_cons_of_mem _ (List.mem_cons_of_mem _ (List.mem_cons_of_mem _ (List.mem_cons_of_mem _ (List.mem_cons_of_mem _ List.mem_cons_self))))) sub_nil))))).tr (show hKn [lx, ly, lw, la, lq, le, xo, ez, eo, bu, nw0, na0, nq0, nr0, nw1, na1, nq1, nr1, bs, bp, bh, bf, bl, bg] f115 f131 from (hKn.mono k133 sbA)))))))⟩)
        · refine lv_aload_n hx hb dL_links_749 rfl (lv_at hl9 4 rfl) ?_
          refine lv_iload hx hb dL_links_750 (lv_at hl9 3 rfl) ?_
          refine hp_SH (As := [.ref xo, .int 1]) (rest := []) B0 hw hS (c_V_deliver_S1 hl G f8 xo ez eo bu nw0 na0 nq0 nr0 nw1 na1 nq1 nr1 bs bp bh bf bl bg S0 S1 gw0 ga0 gw1 ga1 n a cg x sa pk fl gv gh gl hC9 (Nat.lt_of_le_of_lt hl0 (by decide)) (Nat.lt_of_le_of_lt hl1 (by decide)) (len_nil c14 (by omega))) mH_L_deliver qM_L_117 rfl rfl hl9.1 (Nat.le_of_ble_eq_true rfl) ⟨⟨Nat.le_of_ble_eq_true rfl, Nat.le_of_ble_eq_true rfl⟩, Nat.le_of_ble_eq_true rfl, Nat.le_of_ble_eq_true rfl⟩ dL_links_752 (fun E ce q9 f140 H locs hPX hw hS hce hcv hcl => ?_) (fun v f140 H locs hP hw hS => ?_)
          · exact hPX.elim
          · obtain ⟨ev9, hC141, k142⟩ := hP
            subst ev9
            have hC141 : CXW G f140 xo ez eo bu nw0 na0 nq0 nr0 nw1 na1 nq1 nr1 bs bp bh bf bl bg S0 S1 gw0 ga0 gw1 ga1 n a cg x sa pk fl gv gh gl := hC141
            refine W.eq (g2 := F0 m 755 ls [.int (-73)]) rfl ?_
            refine lv_bipush (v := (-73)) hx hb dL_links_755 (by decide) ?_
            refine lv_icmp_ne (tgt := 786) hx hb dL_links_757 (by decide) (fun c9 => absurd (by decide) c9) (fun _ => ?_)
            refine lv_aload_n hx hb dL_links_760 rfl (lv_at hl9 4 rfl) ?_
            refine lv_iload hx hb dL_links_761 (lv_at hl9 3 rfl) ?_
            refine hp_SH (As := [.ref xo, .int 1]) (rest := []) B0 hw hS (c_V_lose_S1 hl G f140 xo ez eo bu nw0 na0 nq0 nr0 nw1 na1 nq1 nr1 bs bp bh bf bl bg S0 S1 gw0 ga0 gw1 ga1 n a cg x sa pk fl gv gh gl hC141 (Nat.lt_of_le_of_lt hl0 (by decide)) (Nat.lt_of_le_of_lt hl1 (by decide)) (len_nil c14 (by omega))) mH_L_lose qM_L_119 rfl rfl hl9.1 (Nat.le_of_ble_eq_true rfl) ⟨⟨Nat.le_of_ble_eq_true rfl, Nat.le_of_ble_eq_true rfl⟩, Nat.le_of_ble_eq_true rfl, Nat.le_of_ble_eq_true rfl⟩ dL_links_763 (fun E ce q9 f143 H locs hPX hw hS hce hcv hcl => ?_) (fun v f143 H locs hP hw hS => ?_)
            · exact hPX.elim
            · obtain ⟨ev9, hC144, k145⟩ := hP
              subst ev9
              have hC144 : CXW G f143 xo ez eo bu nw0 na0 nq0 nr0 nw1 na1 nq1 nr1 bs bp bh bf bl bg S0 S1 gw0 ga0 gw1 ga1 n a cg x sa pk fl gv gh gl := hC144
              refine W.eq (g2 := F0 m 766 ls [.int (-73)]) rfl ?_
              refine lv_bipush (v := (-73)) hx hb dL_links_766 (by decide) ?_
              refine lv_icmp_ne (tgt := 786) hx hb dL_links_768 (by decide) (fun c9 => absurd (by decide) c9) (fun _ => ?_)
              refine lv_aload_n hx hb dL_links_771 rfl (lv_at hl9 4 rfl) ?_
              refine lv_iload hx hb dL_links_772 (lv_at hl9 3 rfl) ?_
              refine hp_SH (As := [.ref xo, .int 1]) (rest := []) B0 hw hS (c_V_loop_S1 hl G f143 xo ez eo bu nw0 na0 nq0 nr0 nw1 na1 nq1 nr1 bs bp bh bf bl bg S0 S1 gw0 ga0 gw1 ga1 n a cg x sa pk fl gv gh gl hC144 (Nat.lt_of_le_of_lt hl0 (by decide)) (Nat.lt_of_le_of_lt hl1 (by decide)) (len_nil c14 (by omega))) mH_L_loop qM_L_121 rfl rfl hl9.1 (Nat.le_of_ble_eq_true rfl) ⟨⟨Nat.le_of_ble_eq_true rfl, Nat.le_of_ble_eq_true rfl⟩, Nat.le_of_ble_eq_true rfl, Nat.le_of_ble_eq_true rfl⟩ dL_links_774 (fun E ce q9 f146 H locs hPX hw hS hce hcv hcl => ?_) (fun v f146 H locs hP hw hS => ?_)
              · exact hPX.elim
              · obtain ⟨ev9, hC147, k148⟩ := hP
                subst ev9
                have hC147 : CXW G f146 xo ez eo bu nw0 na0 nq0 nr0 nw1 na1 nq1 nr1 bs bp bh bf bl bg S0 S1 gw0 ga0 gw1 ga1 n a cg x sa pk fl gv gh gl := hC147
                refine W.eq (g2 := F0 m 777 ls [.int (-73)]) rfl ?_
                refine lv_bipush (v := (-73)) hx hb dL_links_777 (by decide) ?_
                refine lv_icmp_ne (tgt := 786) hx hb dL_links_779 (by decide) (fun c9 => absurd (by decide) c9) (fun _ => ?_)
                refine lv_iconst (v := 1) hx hb dL_links_782 (by decide) ?_
                refine lv_goto (tgt := 787) hx hb dL_links_783 (by decide) ?_
                have h149 : f2 lx = some (.inl (cJ G, 64, .inr (.inl xs0))) := k4 _ _ k_lx (Nat.ne_of_beq_eq_false rfl) (hdos _ List.mem_cons_self)
                have h150 : f5 lx = some (.inl (cJ G, 64, .inr (.inl xs0))) := k7 _ _ h149 (Nat.ne_of_beq_eq_false rfl) (hdos _ List.mem_cons_self)
                have h151 : f8 lx = some (.inl (cJ G, 64, .inr (.inl xs0))) := k10 _ _ h150 (Nat.ne_of_beq_eq_false rfl) (hdos _ List.mem_cons_self)
                have h152 : f140 lx = some (.inl (cJ G, 64, .inr (.inl xs0))) := k142 _ _ h151 (Nat.ne_of_beq_eq_false rfl) (hdos _ List.mem_cons_self)
                have h153 : f143 lx = some (.inl (cJ G, 64, .inr (.inl xs0))) := k145 _ _ h152 (Nat.ne_of_beq_eq_false rfl) (hdos _ List.mem_cons_self)
                have h154 : f146 lx = some (.inl (cJ G, 64, .inr (.inl xs0))) := k148 _ _ h153 (Nat.ne_of_beq_eq_false rfl) (hdos _ List.mem_cons_self)
                have h155 : f2 ly = some (.inl (cJ G, 64, .inr (.inl xs1))) := k4 _ _ k_ly (Nat.ne_of_beq_eq_false rfl) (hdos _ (List.mem_cons_of_mem _ List.mem_cons_self))
                have h156 : f5 ly = some (.inl (cJ G, 64, .inr (.inl xs1))) := k7 _ _ h155 (Nat.ne_of_beq_eq_false rfl) (hdos _ (List.mem_cons_of_mem _ List.mem_cons_self))
                have h157 : f8 ly = some (.inl (cJ G, 64, .inr (.inl xs1))) := k10 _ _ h156 (Nat.ne_of_beq_eq_false rfl) (hdos _ (List.mem_cons_of_mem _ List.mem_cons_self))
                have h158 : f140 ly = some (.inl (cJ G, 64, .inr (.inl xs1))) := k142 _ _ h157 (Nat.ne_of_beq_eq_false rfl) (hdos _ (List.mem_cons_of_mem _ List.mem_cons_self))
                have h159 : f143 ly = some (.inl (cJ G, 64, .inr (.inl xs1))) := k145 _ _ h158 (Nat.ne_of_beq_eq_false rfl) (hdos _ (List.mem_cons_of_mem _ List.mem_cons_self))
                have h160 : f146 ly = some (.inl (cJ G, 64, .inr (.inl xs1))) := k148 _ _ h159 (Nat.ne_of_beq_eq_false rfl) (hdos _ (List.mem_cons_of_mem _ List.mem_cons_self))
                have h161 : f2 lw = some (.inl (cI G, 12, .inl (j6 gw0 gw1))) := k4 _ _ k_lw (Nat.ne_of_beq_eq_false rfl) (hdos _ (List.mem_cons_of_mem _ (List.mem_cons_of_mem _ List.mem_cons_self)))
                have h162 : f5 lw = some (.inl (cI G, 12, .inl (j6 gw0 gw1))) := k7 _ _ h161 (Nat.ne_of_beq_eq_false rfl) (hdos _ (List.mem_cons_of_mem _ (List.mem_cons_of_mem _ List.mem_cons_self)))
                have h163 : f8 lw = some (.inl (cI G, 12, .inl (j6 gw0 gw1))) := k10 _ _ h162 (Nat.ne_of_beq_eq_false rfl) (hdos _ (List.mem_cons_of_mem _ (List.mem_cons_of_mem _ List.mem_cons_self)))
                have h164 : f140 lw = some (.inl (cI G, 12, .inl (j6 gw0 gw1))) := k142 _ _ h163 (Nat.ne_of_beq_eq_false rfl) (hdos _ (List.mem_cons_of_mem _ (List.mem_cons_of_mem _ List.mem_cons_self)))
                have h165 : f143 lw = some (.inl (cI G, 12, .inl (j6 gw0 gw1))) := k145 _ _ h164 (Nat.ne_of_beq_eq_false rfl) (hdos _ (List.mem_cons_of_mem _ (List.mem_cons_of_mem _ List.mem_cons_self)))
                have h166 : f146 lw = some (.inl (cI G, 12, .inl (j6 gw0 gw1))) := k148 _ _ h165 (Nat.ne_of_beq_eq_false rfl) (hdos _ (List.mem_cons_of_mem _ (List.mem_cons_of_mem _ List.mem_cons_self)))
                have h167 : f2 la = some (.inl (cI G, 12, .inl (j6 ga0 ga1))) := k4 _ _ k_la (Nat.ne_of_beq_eq_false rfl) (hdos _ (List.mem_cons_of_mem _ (List.mem_cons_of_mem _ (List.mem_cons_of_mem _ List.mem_cons_self))))
                have h168 : f5 la = some (.inl (cI G, 12, .inl (j6 ga0 ga1))) := k7 _ _ h167 (Nat.ne_of_beq_eq_false rfl) (hdos _ (List.mem_cons_of_mem _ (List.mem_cons_of_mem _ (List.mem_cons_of_mem _ List.mem_cons_self))))
                have h169 : f8 la = some (.inl (cI G, 12, .inl (j6 ga0 ga1))) := k10 _ _ h168 (Nat.ne_of_beq_eq_false rfl) (hdos _ (List.mem_cons_of_mem _ (List.mem_cons_of_mem _ (List.mem_cons_of_mem _ List.mem_cons_self))))
                have h170 : f140 la = some (.inl (cI G, 12, .inl (j6 ga0 ga1))) := k142 _ _ h169 (Nat.ne_of_beq_eq_false rfl) (hdos _ (List.mem_cons_of_mem _ (List.mem_cons_of_mem _ (List.mem_cons_of_mem _ List.mem_cons_self))))
                have h171 : f143 la = some (.inl (cI G, 12, .inl (j6 ga0 ga1))) := k145 _ _ h170 (Nat.ne_of_beq_eq_false rfl) (hdos _ (List.mem_cons_of_mem _ (List.mem_cons_of_mem _ (List.mem_cons_of_mem _ List.mem_cons_self))))
                have h172 : f146 la = some (.inl (cI G, 12, .inl (j6 ga0 ga1))) := k148 _ _ h171 (Nat.ne_of_beq_eq_false rfl) (hdos _ (List.mem_cons_of_mem _ (List.mem_cons_of_mem _ (List.mem_cons_of_mem _ List.mem_cons_self))))
                have h173 : f2 lq = some (.inl (cI G, 12, .inl (j6 S0.2.2.2.2.2.2.2.1 S1.2.2.2.2.2.2.2.1))) := k4 _ _ k_lq (Nat.ne_of_beq_eq_false rfl) (hdos _ (List.mem_cons_of_mem _ (List.mem_cons_of_mem _ (List.mem_cons_of_mem _ (List.mem_cons_of_mem _ List.mem_cons_self)))))
                have h174 : f5 lq = some (.inl (cI G, 12, .inl (j6 S0.2.2.2.2.2.2.2.1 S1.2.2.2.2.2.2.2.1))) := k7 _ _ h173 (Nat.ne_of_beq_eq_false rfl) (hdos _ (List.mem_cons_of_mem _ (List.mem_cons_of_mem _ (List.mem_cons_of_mem _ (List.mem_cons_of_mem _ List.mem_cons_self)))))
                have h175 : f8 lq = some (.inl (cI G, 12, .inl (j6 S0.2.2.2.2.2.2.2.1 S1.2.2.2.2.2.2.2.1))) := k10 _ _ h174 (Nat.ne_of_beq_eq_false rfl) (hdos _ (List.mem_cons_of_mem _ (List.mem_cons_of_mem _ (List.mem_cons_of_mem _ (List.mem_cons_of_mem _ List.mem_cons_self)))))
                have h176 : f140 lq = some (.inl (cI G, 12, .inl (j6 S0.2.2.2.2.2.2.2.1 S1.2.2.2.2.2.2.2.1))) := k142 _ _ h175 (Nat.ne_of_beq_eq_false rfl) (hdos _ (List.mem_cons_of_mem _ (List.mem_cons_of_mem _ (List.mem_cons_of_mem _ (List.mem_cons_of_mem _ List.mem_cons_self)))))
                have h177 : f143 lq = some (.inl (cI G, 12, .inl (j6 S0.2.2.2.2.2.2.2.1 S1.2.2.2.2.2.2.2.1))) := k145 _ _ h176 (Nat.ne_of_beq_eq_false rfl) (hdos _ (List.mem_cons_of_mem _ (List.mem_cons_of_mem _ (List.mem_cons_of_mem _ (List.mem_cons_of_mem _ List.mem_cons_self)))))
                have h178 : f146 lq = some (.inl (cI G, 12, .inl (j6 S0.2.2.2.2.2.2.2.1 S1.2.2.2.2.2.2.2.1))) := k148 _ _ h177 (Nat.ne_of_beq_eq_false rfl) (hdos _ (List.mem_cons_of_mem _ (List.mem_cons_of_mem _ (List.mem_cons_of_mem _ (List.mem_cons_of_mem _ List.mem_cons_self)))))
                have h179 : f140 le = some (.inl (cI G, 16, .inl (jE (eS S0) (e8 S1.1 S1.2.1 S1.2.2.1 S1.2.2.2.1 S1.2.2.2.2.1 S1.2.2.2.2.2.1 S1.2.2.2.2.2.2.1 (nI S1.2.2.2.2.2.2.2.2.length))))) := k142 _ _ h13 (Nat.ne_of_beq_eq_false rfl) (hdos _ (List.mem_cons_of_mem _ (List.mem_cons_of_mem _ (List.mem_cons_of_mem _ (List.mem_cons_of_mem _ (List.mem_cons_of_mem _ List.mem_cons_self))))))
                have h180 : f143 le = some (.inl (cI G, 16, .inl (jE (eS S0) (e8 S1.1 S1.2.1 S1.2.2.1 S1.2.2.2.1 S1.2.2.2.2.1 S1.2.2.2.2.2.1 S1.2.2.2.2.2.2.1 (nI S1.2.2.2.2.2.2.2.2.length))))) := k145 _ _ h179 (Nat.ne_of_beq_eq_false rfl) (hdos _ (List.mem_cons_of_mem _ (List.mem_cons_of_mem _ (List.mem_cons_of_mem _ (List.mem_cons_of_mem _ (List.mem_cons_of_mem _ List.mem_cons_self))))))
                have h181 : f146 le = some (.inl (cI G, 16, .inl (jE (eS S0) (e8 S1.1 S1.2.1 S1.2.2.1 S1.2.2.2.1 S1.2.2.2.2.1 S1.2.2.2.2.2.1 S1.2.2.2.2.2.2.1 (nI S1.2.2.2.2.2.2.2.2.length))))) := k148 _ _ h180 (Nat.ne_of_beq_eq_false rfl) (hdos _ (List.mem_cons_of_mem _ (List.mem_cons_of_mem _ (List.mem_cons_of_mem _ (List.mem_cons_of_mem _ (List.mem_cons_of_mem _ List.mem_cons_self))))))
                exact hp_zret (v := 1) B0 hw hS hr ⟨Nat.le_of_ble_eq_true rfl, Nat.le_of_ble_eq_true rfl⟩ (rfl) dL_links_787 (⟨rfl, S0, S1, gw0, ga0, gw1, ga1, hC147, ⟨⟨_, h154, hX0⟩, ⟨_, h160, hX1⟩, h166, h172, h178, h181⟩, ⟨SOK.mono hSo0 (by omega), SOK.mono hSo1 (by omega), hgw0, hga0, hgw1, hga1⟩, hl0, hl1, ((show hKn [lx, ly, lw, la, lq, le, xo, ez, eo, bu, nw0, na0, nq0, nr0, nw1, na1, nq1, nr1, bs, bp, bh, bf, bl, bg] f f2 from (hKn.mono k4 sbA)).tr ((show hKn [lx, ly, lw, la, lq, le, xo, ez, eo, bu, nw0, na0, nq0, nr0, nw1, na1, nq1, nr1, bs, bp, bh, bf, bl, bg] f2 f5 from (hKn.mono k7 sbA)).tr ((show hKn [lx, ly, lw, la, lq, le, xo, ez, eo, bu, nw0, na0, nq0, nr0, nw1, na1, nq1, nr1, bs, bp, bh, bf, bl, bg] f5 f8 from (hKn.mono k10 sbA)).tr ((show hKn [lx, ly, lw, la, lq, le, xo, ez, eo, bu, nw0, na0, nq0, nr0, nw1, na1, nq1, nr1, bs, bp, bh, bf, bl, bg] f8 f140 from (hKn.mono k142 sbA)).tr ((show hKn [lx, ly, lw, la, lq, le, xo, ez, eo, bu, nw0, na0, nq0, nr0, nw1, na1, nq1, nr1, bs, bp, bh, bf, bl, bg] f140 f143 from (hKn.mono k145 sbA)).tr (show hKn [lx, ly, lw, la, lq, le, xo, ez, eo, bu, nw0, na0, nq0, nr0, nw1, na1, nq1, nr1, bs, bp, bh, bf, bl, bg] f143 f146 from (hKn.mono k148 sbA)))))))⟩)

set_option maxHeartbeats 4000000 in
set_option maxRecDepth 100000 in
theorem c_L_links {l : Launch} (hl : l.stackTraces = false) (G : hG) (f : hM) (xo ez eo bu nw0 na0 nq0 nr0 nw1 na1 nq1 nr1 bs bp bh bf bl bg : Nat) (S0 : ES) (S1 : ES) (gw0 : Nat → Int32) (ga0 : Nat → Int32) (gw1 : Nat → Int32) (ga1 : Nat → Int32) (n : Nat) (a : Nat) (cg : Nat) (x : Nat) (sa : Nat → Nat) (pk : Nat → Nat) (fl : Nat → Nat) (gv : Nat → Nat) (gh : Nat → Int32) (gl : Nat → Int32) (hC : CXW G f xo ez eo bu nw0 na0 nq0 nr0 nw1 na1 nq1 nr1 bs bp bh bf bl bg S0 S1 gw0 ga0 gw1 ga1 n a cg x sa pk fl gv gh gl) (lx ly lw la lq le : Nat) (hdis : ∀ p, p ∈ [xo, ez, eo, bu, nw0, na0, nq0, nr0, nw1, na1, nq1, nr1, bs, bp, bh, bf, bl, bg] → p ∉ [lx, ly, lw, la, lq, le]) (hdos : ∀ p, p ∈ [lx, ly, lw, la, lq, le] → p ∉ [xo, ez, eo, bu, nw0, na0, nq0, nr0, nw1, na1, nq1, nr1, bs, bp, bh, bf, bl, bg]) (n_lx_ly : lx ≠ ly) (n_lw_la : lw ≠ la) (n_lw_lq : lw ≠ lq) (n_la_lq : la ≠ lq) (hLX : LX G f lx ly lw la lq le S0 S1 gw0 ga0 gw1 ga1) (b : Nat) (hInv : INV b S0 S1 gw0 ga0 gw1 ga1) (hbb : b + 200 ≤ 1000000) (hl0 : S0.2.2.2.2.2.2.2.2.length ≤ 52) (hl1 : S1.2.2.2.2.2.2.2.2.length ≤ 52) (ac : Nat) (hac : ac < 24) (hact : ac ≠ 22 → S0.2.2.2.2.2.2.2.2.length ≤ 40 ∧ S1.2.2.2.2.2.2.2.2.length ≤ 40) (u z : Int32) : CT l yL_links (.code yL_links cL_links 17 (some .boolean)) 9 178 203 1118 G [.ref xo, .int (nI ac), .int u, .int z, .ref lx, .ref ly, .ref lw, .ref la, .ref lq, .ref le] f (fun v f1 => v = some (.int 1) ∧ ∃ (S2 S3 : ES) (w0 a0 w1 a1 : Nat → Int32), CXW G f1 xo ez eo bu nw0 na0 nq0 nr0 nw1 na1 nq1 nr1 bs bp bh bf bl bg S2 S3 w0 a0 w1 a1 n a cg x sa pk fl gv gh gl ∧ LX G f1 lx ly lw la lq le S2 S3 w0 a0 w1 a1 ∧ INV (b + 100) S2 S3 w0 a0 w1 a1 ∧ S2.2.2.2.2.2.2.2.2.length ≤ 52 ∧ S3.2.2.2.2.2.2.2.2.length ≤ 52 ∧ hKn [lx, ly, lw, la, lq, le, xo, ez, eo, bu, nw0, na0, nq0, nr0, nw1, na1, nq1, nr1, bs, bp, bh, bf, bl, bg] f f1) (fun E f1 => False) := by
  refine hp_start hl (own := RL) (by decide) rfl (Nat.le_of_ble_eq_true rfl) ?_
  intro p e s m args below meth c B0 hr hnm hout hw hS ls hl9
  have hx := B0.1
  have hb := B0.2.1
  have hl9 : lv_has ls 17 [(0, .ref xo), (1, .int (nI ac)), (2, .int u), (3, .int z), (4, .ref lx), (5, .ref ly), (6, .ref lw), (7, .ref la), (8, .ref lq), (9, .ref le)] := hl9
  refine lv_iload_n hx hb dL_links_0 rfl (lv_at hl9 2 rfl) ?_
  refine lv_iconst (v := 1) hx hb dL_links_1 (by decide) ?_
  refine lv_iand hx hb dL_links_2 ?_
  obtain ⟨e9, he9, ee9⟩ := pk_andE u (m := 1) 1 (by decide)
  refine hp_c (v := nI e9) ee9 ?_
  rcases (show e9 = 0 ∨ e9 = 1 by omega) with e9z | e9z
  · subst e9z
    refine hp_c (v := 0) rfl ?_
    refine lv_istore (lv' := [(10, .int 0), (0, .ref xo), (1, .int (nI ac)), (2, .int u), (3, .int z), (4, .ref lx), (5, .ref ly), (6, .ref lw), (7, .ref la), (8, .ref lq), (9, .ref le)]) hx hb dL_links_3 hl9 (by decide) rfl (fun ls hl9 => ?_)
    refine lv_bipush (v := 8) hx hb dL_links_5 (by decide) ?_
    refine lv_iload hx hb dL_links_7 (lv_at hl9 0 rfl) ?_
    refine lv_imul hx hb dL_links_9 ?_
    refine hp_c (v := 0) (by decide) ?_
    refine lv_istore (lv' := [(11, .int 0), (10, .int 0), (0, .ref xo), (1, .int (nI ac)), (2, .int u), (3, .int z), (4, .ref lx), (5, .ref ly), (6, .ref lw), (7, .ref la), (8, .ref lq), (9, .ref le)]) hx hb dL_links_10 hl9 (by decide) rfl (fun ls hl9 => ?_)
    refine lv_iload hx hb dL_links_12 (lv_at hl9 1 rfl) ?_
    refine lv_if_ne (tgt := 22) hx hb dL_links_14 (by decide) (fun c9 => absurd (by decide) c9) (fun _ => ?_)
    refine lv_aload hx hb dL_links_17 (lv_at hl9 6 rfl) ?_
    refine lv_goto (tgt := 24) hx hb dL_links_19 (by decide) ?_
    refine lv_astore (lv' := [(12, .ref lx), (11, .int 0), (10, .int 0), (0, .ref xo), (1, .int (nI ac)), (2, .int u), (3, .int z), (4, .ref lx), (5, .ref ly), (6, .ref lw), (7, .ref la), (8, .ref lq), (9, .ref le)]) hx hb dL_links_24 hl9 (by decide) rfl (fun ls hl9 => ?_)
    refine lv_iload_n hx hb dL_links_26 rfl (lv_at hl9 6 rfl) ?_
    refine lv_bipush (v := 6) hx hb dL_links_27 (by decide) ?_
    refine hp_S (As := [.int z, .int 6]) (rest := []) B0 hw hS (c_L_low hl G f z 6 (by omega) (by omega)) mS_L_low qM_L_94 rfl rfl hl9.1 (Nat.le_of_ble_eq_true rfl) ⟨⟨Nat.le_of_ble_eq_true rfl, Nat.le_of_ble_eq_true rfl⟩, Nat.le_of_ble_eq_true rfl, Nat.le_of_ble_eq_true rfl⟩ dL_links_29 (fun E ce q9 f1 H locs hPX hw hS hce hcv hcl => ?_) (fun v f1 H locs hP hw hS => ?_)
    · exact hPX.elim
    · obtain ⟨ef9, j2, hj3, ev9⟩ := hP
      rw [ef9] at hw
      subst ev9
      refine W.eq (g2 := F0 m 32 ls [.int (nI j2)]) rfl ?_
      refine lv_istore (lv' := [(13, .int (nI j2)), (12, .ref lx), (11, .int 0), (10, .int 0), (0, .ref xo), (1, .int (nI ac)), (2, .int u), (3, .int z), (4, .ref lx), (5, .ref ly), (6, .ref lw), (7, .ref la), (8, .ref lq), (9, .ref le)]) hx hb dL_links_32 hl9 (by decide) rfl (fun ls hl9 => ?_)
      refine lv_iload_n hx hb dL_links_34 rfl (lv_at hl9 5 rfl) ?_
      refine lv_iconst (v := 3) hx hb dL_links_35 (by decide) ?_
      refine lv_icmp_ge (tgt := 157) hx hb dL_links_36 (by decide) (fun c4 => ?_) (fun c4 => ?_)
      · refine lv_iload_n hx hb dL_links_157 rfl (lv_at hl9 5 rfl) ?_
        refine lv_bipush (v := 6) hx hb dL_links_158 (by decide) ?_
        refine lv_icmp_ge (tgt := 304) hx hb dL_links_160 (by decide) (fun c5 => ?_) (fun c5 => ?_)
        · refine lv_iload_n hx hb dL_links_304 rfl (lv_at hl9 5 rfl) ?_
          refine lv_bipush (v := 6) hx hb dL_links_305 (by decide) ?_
          refine lv_icmp_ne (tgt := 384) hx hb dL_links_307 (by decide) (fun c6 => ?_) (fun c6 => ?_)
          · refine lv_iload_n hx hb dL_links_384 rfl (lv_at hl9 5 rfl) ?_
            refine lv_bipush (v := 10) hx hb dL_links_385 (by decide) ?_
            refine lv_icmp_ge (tgt := 519) hx hb dL_links_387 (by decide) (fun c7 => ?_) (fun c7 => ?_)
            · refine lv_iload_n hx hb dL_links_519 rfl (lv_at hl9 5 rfl) ?_
              refine lv_bipush (v := 10) hx hb dL_links_520 (by decide) ?_
              refine lv_icmp_ne (tgt := 615) hx hb dL_links_522 (by decide) (fun c8 => ?_) (fun c8 => ?_)
              · refine lv_iload_n hx hb dL_links_615 rfl (lv_at hl9 5 rfl) ?_
                refine lv_bipush (v := 14) hx hb dL_links_616 (by decide) ?_
                refine lv_icmp_ge (tgt := 706) hx hb dL_links_618 (by decide) (fun c9 => ?_) (fun c9 => ?_)
                · exact lk_d_0 hl G f xo ez eo bu nw0 na0 nq0 nr0 nw1 na1 nq1 nr1 bs bp bh bf bl bg S0 S1 gw0 ga0 gw1 ga1 n a cg x sa pk fl gv gh gl hC lx ly lw la lq le hdis hdos n_lx_ly n_lw_la n_lw_lq n_la_lq hLX b hInv hbb hl0 hl1 ac hac hact u z B0 hr hw hS j2 hj3 (lv_sub hl9 [0, 1, 2, 3, 4, 5, 6, 7, 8, 9, 10, 11, 12, 13] rfl)
                · exact lk_p_0 hl G f xo ez eo bu nw0 na0 nq0 nr0 nw1 na1 nq1 nr1 bs bp bh bf bl bg S0 S1 gw0 ga0 gw1 ga1 n a cg x sa pk fl gv gh gl hC lx ly lw la lq le hdis hdos n_lx_ly n_lw_la n_lw_lq n_la_lq hLX b hInv hbb hl0 hl1 ac hac hact u z B0 hr hw hS j2 hj3 c9 (lv_sub hl9 [0, 1, 2, 3, 4, 5, 6, 7, 8, 9, 10, 11, 12, 13] rfl)
              · exact lk_c_0 hl G f xo ez eo bu nw0 na0 nq0 nr0 nw1 na1 nq1 nr1 bs bp bh bf bl bg S0 S1 gw0 ga0 gw1 ga1 n a cg x sa pk fl gv gh gl hC lx ly lw la lq le hdis hdos n_lx_ly n_lw_la n_lw_lq n_la_lq hLX b hInv hbb hl0 hl1 ac hac hact u z B0 hr hw hS j2 hj3 c8 (lv_sub hl9 [0, 1, 2, 3, 4, 5, 6, 7, 8, 9, 10, 11, 12, 13] rfl)
            · exact lk_o_0 hl G f xo ez eo bu nw0 na0 nq0 nr0 nw1 na1 nq1 nr1 bs bp bh bf bl bg S0 S1 gw0 ga0 gw1 ga1 n a cg x sa pk fl gv gh gl hC lx ly lw la lq le hdis hdos n_lx_ly n_lw_la n_lw_lq n_la_lq hLX b hInv hbb hl0 hl1 ac hac hact u z B0 hr hw hS j2 hj3 c7 (lv_sub hl9 [0, 1, 2, 3, 4, 5, 6, 7, 8, 9, 10, 11, 12, 13] rfl)
          · exact lk_m_0 hl G f xo ez eo bu nw0 na0 nq0 nr0 nw1 na1 nq1 nr1 bs bp bh bf bl bg S0 S1 gw0 ga0 gw1 ga1 n a cg x sa pk fl gv gh gl hC lx ly lw la lq le hdis hdos n_lx_ly n_lw_la n_lw_lq n_la_lq hLX b hInv hbb hl0 hl1 ac hac hact u z B0 hr hw hS j2 hj3 (lv_sub hl9 [0, 1, 2, 3, 4, 5, 6, 7, 8, 9, 10, 11, 12, 13] rfl)
        · exact lk_a_0 hl G f xo ez eo bu nw0 na0 nq0 nr0 nw1 na1 nq1 nr1 bs bp bh bf bl bg S0 S1 gw0 ga0 gw1 ga1 n a cg x sa pk fl gv gh gl hC lx ly lw la lq le hdis hdos n_lx_ly n_lw_la n_lw_lq n_la_lq hLX b hInv hbb hl0 hl1 ac hac hact u z B0 hr hw hS j2 hj3 (lv_sub hl9 [0, 1, 2, 3, 4, 5, 6, 7, 8, 9, 10, 11, 12, 13] rfl)
      · exact lk_w_0 hl G f xo ez eo bu nw0 na0 nq0 nr0 nw1 na1 nq1 nr1 bs bp bh bf bl bg S0 S1 gw0 ga0 gw1 ga1 n a cg x sa pk fl gv gh gl hC lx ly lw la lq le hdis hdos n_lx_ly n_lw_la n_lw_lq n_la_lq hLX b hInv hbb hl0 hl1 ac hac hact u z B0 hr hw hS j2 hj3 (lv_sub hl9 [0, 1, 2, 3, 4, 5, 6, 7, 8, 9, 10, 11, 12, 13] rfl)
  · subst e9z
    refine hp_c (v := 1) rfl ?_
    refine lv_istore (lv' := [(10, .int 1), (0, .ref xo), (1, .int (nI ac)), (2, .int u), (3, .int z), (4, .ref lx), (5, .ref ly), (6, .ref lw), (7, .ref la), (8, .ref lq), (9, .ref le)]) hx hb dL_links_3 hl9 (by decide) rfl (fun ls hl9 => ?_)
    refine lv_bipush (v := 8) hx hb dL_links_5 (by decide) ?_
    refine lv_iload hx hb dL_links_7 (lv_at hl9 0 rfl) ?_
    refine lv_imul hx hb dL_links_9 ?_
    refine hp_c (v := 8) (by decide) ?_
    refine lv_istore (lv' := [(11, .int 8), (10, .int 1), (0, .ref xo), (1, .int (nI ac)), (2, .int u), (3, .int z), (4, .ref lx), (5, .ref ly), (6, .ref lw), (7, .ref la), (8, .ref lq), (9, .ref le)]) hx hb dL_links_10 hl9 (by decide) rfl (fun ls hl9 => ?_)
    refine lv_iload hx hb dL_links_12 (lv_at hl9 1 rfl) ?_
    refine lv_if_ne (tgt := 22) hx hb dL_links_14 (by decide) (fun _ => ?_) (fun c9 => absurd c9 (by decide))
    refine lv_aload hx hb dL_links_22 (lv_at hl9 7 rfl) ?_
    refine lv_astore (lv' := [(12, .ref ly), (11, .int 8), (10, .int 1), (0, .ref xo), (1, .int (nI ac)), (2, .int u), (3, .int z), (4, .ref lx), (5, .ref ly), (6, .ref lw), (7, .ref la), (8, .ref lq), (9, .ref le)]) hx hb dL_links_24 hl9 (by decide) rfl (fun ls hl9 => ?_)
    refine lv_iload_n hx hb dL_links_26 rfl (lv_at hl9 6 rfl) ?_
    refine lv_bipush (v := 6) hx hb dL_links_27 (by decide) ?_
    refine hp_S (As := [.int z, .int 6]) (rest := []) B0 hw hS (c_L_low hl G f z 6 (by omega) (by omega)) mS_L_low qM_L_94 rfl rfl hl9.1 (Nat.le_of_ble_eq_true rfl) ⟨⟨Nat.le_of_ble_eq_true rfl, Nat.le_of_ble_eq_true rfl⟩, Nat.le_of_ble_eq_true rfl, Nat.le_of_ble_eq_true rfl⟩ dL_links_29 (fun E ce q9 f10 H locs hPX hw hS hce hcv hcl => ?_) (fun v f10 H locs hP hw hS => ?_)
    · exact hPX.elim
    · obtain ⟨ef9, j11, hj12, ev9⟩ := hP
      rw [ef9] at hw
      subst ev9
      refine W.eq (g2 := F0 m 32 ls [.int (nI j11)]) rfl ?_
      refine lv_istore (lv' := [(13, .int (nI j11)), (12, .ref ly), (11, .int 8), (10, .int 1), (0, .ref xo), (1, .int (nI ac)), (2, .int u), (3, .int z), (4, .ref lx), (5, .ref ly), (6, .ref lw), (7, .ref la), (8, .ref lq), (9, .ref le)]) hx hb dL_links_32 hl9 (by decide) rfl (fun ls hl9 => ?_)
      refine lv_iload_n hx hb dL_links_34 rfl (lv_at hl9 5 rfl) ?_
      refine lv_iconst (v := 3) hx hb dL_links_35 (by decide) ?_
      refine lv_icmp_ge (tgt := 157) hx hb dL_links_36 (by decide) (fun c13 => ?_) (fun c13 => ?_)
      · refine lv_iload_n hx hb dL_links_157 rfl (lv_at hl9 5 rfl) ?_
        refine lv_bipush (v := 6) hx hb dL_links_158 (by decide) ?_
        refine lv_icmp_ge (tgt := 304) hx hb dL_links_160 (by decide) (fun c14 => ?_) (fun c14 => ?_)
        · refine lv_iload_n hx hb dL_links_304 rfl (lv_at hl9 5 rfl) ?_
          refine lv_bipush (v := 6) hx hb dL_links_305 (by decide) ?_
          refine lv_icmp_ne (tgt := 384) hx hb dL_links_307 (by decide) (fun c15 => ?_) (fun c15 => ?_)
          · refine lv_iload_n hx hb dL_links_384 rfl (lv_at hl9 5 rfl) ?_
            refine lv_bipush (v := 10) hx hb dL_links_385 (by decide) ?_
            refine lv_icmp_ge (tgt := 519) hx hb dL_links_387 (by decide) (fun c16 => ?_) (fun c16 => ?_)
            · refine lv_iload_n hx hb dL_links_519 rfl (lv_at hl9 5 rfl) ?_
              refine lv_bipush (v := 10) hx hb dL_links_520 (by decide) ?_
              refine lv_icmp_ne (tgt := 615) hx hb dL_links_522 (by decide) (fun c17 => ?_) (fun c17 => ?_)
              · refine lv_iload_n hx hb dL_links_615 rfl (lv_at hl9 5 rfl) ?_
                refine lv_bipush (v := 14) hx hb dL_links_616 (by decide) ?_
                refine lv_icmp_ge (tgt := 706) hx hb dL_links_618 (by decide) (fun c18 => ?_) (fun c18 => ?_)
                · exact lk_d_1 hl G f xo ez eo bu nw0 na0 nq0 nr0 nw1 na1 nq1 nr1 bs bp bh bf bl bg S0 S1 gw0 ga0 gw1 ga1 n a cg x sa pk fl gv gh gl hC lx ly lw la lq le hdis hdos n_lx_ly n_lw_la n_lw_lq n_la_lq hLX b hInv hbb hl0 hl1 ac hac hact u z B0 hr hw hS j11 hj12 (lv_sub hl9 [0, 1, 2, 3, 4, 5, 6, 7, 8, 9, 10, 11, 12, 13] rfl)
                · exact lk_p_1 hl G f xo ez eo bu nw0 na0 nq0 nr0 nw1 na1 nq1 nr1 bs bp bh bf bl bg S0 S1 gw0 ga0 gw1 ga1 n a cg x sa pk fl gv gh gl hC lx ly lw la lq le hdis hdos n_lx_ly n_lw_la n_lw_lq n_la_lq hLX b hInv hbb hl0 hl1 ac hac hact u z B0 hr hw hS j11 hj12 c18 (lv_sub hl9 [0, 1, 2, 3, 4, 5, 6, 7, 8, 9, 10, 11, 12, 13] rfl)
              · exact lk_c_1 hl G f xo ez eo bu nw0 na0 nq0 nr0 nw1 na1 nq1 nr1 bs bp bh bf bl bg S0 S1 gw0 ga0 gw1 ga1 n a cg x sa pk fl gv gh gl hC lx ly lw la lq le hdis hdos n_lx_ly n_lw_la n_lw_lq n_la_lq hLX b hInv hbb hl0 hl1 ac hac hact u z B0 hr hw hS j11 hj12 c17 (lv_sub hl9 [0, 1, 2, 3, 4, 5, 6, 7, 8, 9, 10, 11, 12, 13] rfl)
            · exact lk_o_1 hl G f xo ez eo bu nw0 na0 nq0 nr0 nw1 na1 nq1 nr1 bs bp bh bf bl bg S0 S1 gw0 ga0 gw1 ga1 n a cg x sa pk fl gv gh gl hC lx ly lw la lq le hdis hdos n_lx_ly n_lw_la n_lw_lq n_la_lq hLX b hInv hbb hl0 hl1 ac hac hact u z B0 hr hw hS j11 hj12 c16 (lv_sub hl9 [0, 1, 2, 3, 4, 5, 6, 7, 8, 9, 10, 11, 12, 13] rfl)
          · exact lk_m_1 hl G f xo ez eo bu nw0 na0 nq0 nr0 nw1 na1 nq1 nr1 bs bp bh bf bl bg S0 S1 gw0 ga0 gw1 ga1 n a cg x sa pk fl gv gh gl hC lx ly lw la lq le hdis hdos n_lx_ly n_lw_la n_lw_lq n_la_lq hLX b hInv hbb hl0 hl1 ac hac hact u z B0 hr hw hS j11 hj12 (lv_sub hl9 [0, 1, 2, 3, 4, 5, 6, 7, 8, 9, 10, 11, 12, 13] rfl)
        · exact lk_a_1 hl G f xo ez eo bu nw0 na0 nq0 nr0 nw1 na1 nq1 nr1 bs bp bh bf bl bg S0 S1 gw0 ga0 gw1 ga1 n a cg x sa pk fl gv gh gl hC lx ly lw la lq le hdis hdos n_lx_ly n_lw_la n_lw_lq n_la_lq hLX b hInv hbb hl0 hl1 ac hac hact u z B0 hr hw hS j11 hj12 (lv_sub hl9 [0, 1, 2, 3, 4, 5, 6, 7, 8, 9, 10, 11, 12, 13] rfl)
      · exact lk_w_1 hl G f xo ez eo bu nw0 na0 nq0 nr0 nw1 na1 nq1 nr1 bs bp bh bf bl bg S0 S1 gw0 ga0 gw1 ga1 n a cg x sa pk fl gv gh gl hC lx ly lw la lq le hdis hdos n_lx_ly n_lw_la n_lw_lq n_la_lq hLX b hInv hbb hl0 hl1 ac hac hact u z B0 hr hw hS j11 hj12 (lv_sub hl9 [0, 1, 2, 3, 4, 5, 6, 7, 8, 9, 10, 11, 12, 13] rfl)

