theorem cpy6 (gw gq : Nat → Int32) : upd (upd (upd (upd (upd (upd gq 0 (gw 0)) 1 (gw 1)) 2 (gw 2)) 3 (gw 3)) 4 (gw 4)) 5 (gw 5) = cpyF gw gq := by
  funext j
  simp only [upd, cpyF]
  by_cases h : j < 6
  · rw [if_pos h]
    rcases (show j = 0 ∨ j = 1 ∨ j = 2 ∨ j = 3 ∨ j = 4 ∨ j = 5 by omega) with e | e | e | e | e | e <;> (subst e; rfl)
  · rw [if_neg h, if_neg (by omega), if_neg (by omega), if_neg (by omega), if_neg (by omega), if_neg (by omega), if_neg (by omega)]
theorem openS_id (gw : Nat → Int32) (S : ES) : (openS gw S).2.1 = S.2.1 + 1 := by
  show (begS (1, S.2.1, 0, _)).2.1 = _
  unfold begS
  rw [if_pos (show ((1, S.2.1, 0, _) : ES).2.2.1 < (10 : Int32) from (by decide : (0 : Int32) < 10))]
theorem openS_gq (gw : Nat → Int32) (S : ES) : (openS gw S).2.2.2.2.2.2.2.1 = cpyF gw S.2.2.2.2.2.2.2.1 := begS_gq _
theorem openS_len (gw : Nat → Int32) (S : ES) : (openS gw S).2.2.2.2.2.2.2.2.length ≤ S.2.2.2.2.2.2.2.2.length + 1 := begS_len _
theorem SOK.opn0 {b : Nat} {S : ES} (h : SOK b S) {gw : Nat → Int32} (hg : ∀ j, j < 6 → VOK (gw j)) : SOK b (1, S.2.1, 0, S.2.2.2.1, S.2.2.2.2.1, S.2.2.2.2.2.1, S.2.2.2.2.2.2.1, cpyF gw S.2.2.2.2.2.2.2.1, S.2.2.2.2.2.2.2.2) := by
  obtain ⟨h1, h2, h3, h4, h5, h6, h7⟩ := h
  refine ⟨⟨1, rfl, by omega⟩, h2, ⟨0, rfl, by omega⟩, h4, h5, fun j hj => ?_, h7⟩
  show VOK (if j < 6 then gw j else _)
  rw [if_pos hj]
  exact hg j hj
theorem ansS_len (ga : Nat → Int32) (r : Fr) (S : ES) : (ansS ga r S).2.2.2.2.2.2.2.2.length = S.2.2.2.2.2.2.2.2.length + 1 := by
  show (S.2.2.2.2.2.2.2.2 ++ [_]).length = _
  rw [List.length_append]; rfl
theorem hearF_len (ga : Nat → Int32) (r : Fr) (S : ES) : (hearF ga r S).2.2.2.2.2.2.2.2.length ≤ S.2.2.2.2.2.2.2.2.length + 2 := by
  unfold hearF
  split
  · unfold hearQ
    split
    · exact Nat.le_add_right _ _
    · split
      · show (S.2.2.2.2.2.2.2.2 ++ [_]).length ≤ _
        rw [List.length_append]; show _ + 1 ≤ _ + 2; omega
      · split
        · split
          · rw [ansS_len]; have := begS_len (lpS S 0); show (begS (lpS S 0)).2.2.2.2.2.2.2.2.length + 1 ≤ _; have h9 : (lpS S 0).2.2.2.2.2.2.2.2.length = S.2.2.2.2.2.2.2.2.length := rfl; omega
          · exact Nat.le_add_right _ _
        · rw [ansS_len]; exact Nat.le_succ _
  · split
    · exact Nat.le_add_right _ _
    · unfold hearA
      split
      · split
        · exact Nat.le_add_right _ _
        · exact Nat.le_succ_of_le (begS_len _)
      · exact Nat.le_add_right _ _
theorem closeS_len (S : ES) : (closeS S).2.2.2.2.2.2.2.2.length = S.2.2.2.2.2.2.2.2.length + 1 := by
  show (S.2.2.2.2.2.2.2.2 ++ [_]).length = _
  rw [List.length_append]; rfl
theorem takeS_len (S : ES) : (takeS S).2.2.2.2.2.2.2.2.length ≤ S.2.2.2.2.2.2.2.2.length := by
  show S.2.2.2.2.2.2.2.2.tail.length ≤ _
  rw [List.length_tail]
  exact Nat.sub_le _ _
theorem len_nil {L : List Fr} (c : nI L.length = 0) (h : L.length < 1000) : L = [] := List.eq_nil_of_length_eq_zero ((nI_eq (show L.length < 2 ^ 31 by omega) (show 0 < 2 ^ 31 by omega)).mp c)
theorem len_cons {L : List Fr} (c : ¬ nI L.length = 0) : ∃ r L1, L = r :: L1 := by
  cases L with
  | nil => exact absurd rfl c
  | cons r L1 => exact ⟨r, L1, rfl⟩
theorem VOK_lo {j : Nat} (h : j < 11) : VOK (nI j - 1) := by
  unfold VOK
  rcases (show j = 0 ∨ ∃ k, j = k + 1 from by cases j with | zero => exact Or.inl rfl | succ k => exact Or.inr ⟨k, rfl⟩) with e | ⟨k, e⟩
  · subst e; decide
  · subst e; rw [nI_pred, nI_toInt (by omega)]; omega
theorem AOK_nI {j : Nat} (h : j < 1024) : AOK (nI j) := by
  unfold AOK
  rw [nI_toInt (by omega)]; omega
theorem VOK_upd {g : Nat → Int32} (h : ∀ j, j < 6 → VOK (g j)) {k : Nat} {v : Int32} (hv : VOK v) : ∀ j, j < 6 → VOK (upd g k v j) := fun j hj => by
  unfold upd
  split
  · exact hv
  · exact h j hj
theorem AOK_upd {g : Nat → Int32} (h : ∀ j, j < 6 → AOK (g j)) {k : Nat} {v : Int32} (hv : AOK v) : ∀ j, j < 6 → AOK (upd g k v j) := fun j hj => by
  unfold upd
  split
  · exact hv
  · exact h j hj
theorem st0_of {b : Nat} {S : ES} (h : SOK b S) (c : S.1 ≤ 0) : S.1 = 0 := by
  obtain ⟨⟨s, hs, hs4⟩, -⟩ := h
  rw [hs] at c ⊢
  have := (nI_leI (show s < 2 ^ 31 by omega) (show 0 < 2 ^ 31 by omega)).mp c
  rw [Nat.le_zero.mp this]; rfl
theorem st1_of {S : ES} (c : ¬ S.1 ≤ 0) : ¬ S.1 = 0 := fun e => c (by rw [e]; decide)
/-- the law's rows for the link -/
def LX (G : hG) (f : hM) (lx ly lw la lq le : Nat) (S0 S1 : ES) (gw0 ga0 gw1 ga1 : Nat → Int32) : Prop := (∃ xs : Nat → Int64, f lx = some (.inl (cJ G, 64, .inr (.inl xs))) ∧ XS xs S0.2.2.2.2.2.2.2.2) ∧ (∃ ys : Nat → Int64, f ly = some (.inl (cJ G, 64, .inr (.inl ys))) ∧ XS ys S1.2.2.2.2.2.2.2.2) ∧ f lw = some (.inl (cI G, 12, .inl (j6r gw0 gw1))) ∧ f la = some (.inl (cI G, 12, .inl (j6r ga0 ga1))) ∧ f lq = some (.inl (cI G, 12, .inl (j6r S0.2.2.2.2.2.2.2.1 S1.2.2.2.2.2.2.2.1))) ∧ f le = some (.inl (cI G, 16, .inl (jE (eSt S0) (eSt S1))))
def INV (b : Nat) (S0 S1 : ES) (gw0 ga0 gw1 ga1 : Nat → Int32) : Prop := SOK b S0 ∧ SOK b S1 ∧ (∀ j, j < 6 → VOK (gw0 j)) ∧ (∀ j, j < 6 → AOK (ga0 j)) ∧ (∀ j, j < 6 → VOK (gw1 j)) ∧ ∀ j, j < 6 → AOK (ga1 j)
set_option maxHeartbeats 4000000 in
set_option maxRecDepth 100000 in
theorem lk_w_0 {l : Launch} (hl : l.stackTraces = false) (G : hG) (f : hM) (xo ez eo bu nw0 na0 nq0 nr0 nw1 na1 nq1 nr1 bs bp bh bf bl bg : Nat) (S0 : ES) (S1 : ES) (gw0 : Nat → Int32) (ga0 : Nat → Int32) (gw1 : Nat → Int32) (ga1 : Nat → Int32) (n : Nat) (a : Nat) (cg : Nat) (x : Nat) (sa : Nat → Nat) (pk : Nat → Nat) (fl : Nat → Nat) (gv : Nat → Nat) (gh : Nat → Int32) (gl : Nat → Int32) (hC : CXW G f xo ez eo bu nw0 na0 nq0 nr0 nw1 na1 nq1 nr1 bs bp bh bf bl bg S0 S1 gw0 ga0 gw1 ga1 n a cg x sa pk fl gv gh gl) (lx ly lw la lq le : Nat) (hdis : ∀ p, p ∈ [xo, ez, eo, bu, nw0, na0, nq0, nr0, nw1, na1, nq1, nr1, bs, bp, bh, bf, bl, bg] → p ∉ [lx, ly, lw, la, lq, le]) (hdos : ∀ p, p ∈ [lx, ly, lw, la, lq, le] → p ∉ [xo, ez, eo, bu, nw0, na0, nq0, nr0, nw1, na1, nq1, nr1, bs, bp, bh, bf, bl, bg]) (n_lx_ly : lx ≠ ly) (n_lw_la : lw ≠ la) (n_lw_lq : lw ≠ lq) (n_la_lq : la ≠ lq) (hLX : LX G f lx ly lw la lq le S0 S1 gw0 ga0 gw1 ga1) (b : Nat) (hInv : INV b S0 S1 gw0 ga0 gw1 ga1) (hbb : b + 200 ≤ 1000000) (hl0 : S0.2.2.2.2.2.2.2.2.length ≤ 52) (hl1 : S1.2.2.2.2.2.2.2.2.length ≤ 52) (ac : Nat) (hac : ac < 24) (hact : ac ≠ 22 → S0.2.2.2.2.2.2.2.2.length ≤ 40 ∧ S1.2.2.2.2.2.2.2.2.length ≤ 40) (u z : Int32) {p : Program} {e : Env} {s : State} {m : MethodId} {args : Array Value} {below : List Frame} {meth : Method} {c : Code} (B0 : hB p l s m args meth c cL_links 17 RL G) (hr : meth.sig.returnType = some .boolean) {H : Heap} {locs : List Loc} {ls : Array Slot} (hw : hW G f H) (hS : va_S (hFr G) s.heap H locs) (j13 : Nat) (hj13 : j13 < 6) (hl9 : lv_has ls 17 [(13, .int (nI j13)), (12, .ref lx), (11, .int 0), (10, .int 0), (0, .ref xo), (1, .int (nI ac)), (2, .int u), (3, .int z), (4, .ref lx), (5, .ref ly), (6, .ref lw), (7, .ref la), (8, .ref lq), (9, .ref le)]) : W p l e { frames := 9, cells := 203, slots := 1118, locals := 178 } s m args below meth c H locs 0 0 (vx_MQ below (hQ G (fun v f1 => v = some (.int 1) ∧ ∃ (S2 S3 : ES) (w0 a0 w1 a1 : Nat → Int32), CXW G f1 xo ez eo bu nw0 na0 nq0 nr0 nw1 na1 nq1 nr1 bs bp bh bf bl bg S2 S3 w0 a0 w1 a1 n a cg x sa pk fl gv gh gl ∧ LX G f1 lx ly lw la lq le S2 S3 w0 a0 w1 a1 ∧ INV (b + 100) S2 S3 w0 a0 w1 a1 ∧ S2.2.2.2.2.2.2.2.2.length ≤ 52 ∧ S3.2.2.2.2.2.2.2.2.length ≤ 52 ∧ hKn [lx, ly, lw, la, lq, le, xo, ez, eo, bu, nw0, na0, nq0, nr0, nw1, na1, nq1, nr1, bs, bp, bh, bf, bl, bg] f f1)) (hX G (fun E f1 => False)) args s 203 1118 (hFr G)) (F0 m 39 ls []) := by
  have hx := B0.1
  have hb := B0.2.1
  obtain ⟨⟨xs0, k_lx, hX0⟩, ⟨xs1, k_ly, hX1⟩, k_lw, k_la, k_lq, k_le⟩ := hLX
  obtain ⟨hSo0, hSo1, hgw0, hga0, hgw1, hga1⟩ := id hInv
  have n_lx_lw : lx ≠ lw := hneL k_lx k_lw (Nat.ne_of_beq_eq_false rfl)
  have n_lx_la : lx ≠ la := hneL k_lx k_la (Nat.ne_of_beq_eq_false rfl)
  have n_lx_lq : lx ≠ lq := hneL k_lx k_lq (Nat.ne_of_beq_eq_false rfl)
  have n_lx_le : lx ≠ le := hneL k_lx k_le (Nat.ne_of_beq_eq_false rfl)
  have n_ly_lw : ly ≠ lw := hneL k_ly k_lw (Nat.ne_of_beq_eq_false rfl)
  have n_ly_la : ly ≠ la := hneL k_ly k_la (Nat.ne_of_beq_eq_false rfl)
  have n_ly_lq : ly ≠ lq := hneL k_ly k_lq (Nat.ne_of_beq_eq_false rfl)
  have n_ly_le : ly ≠ le := hneL k_ly k_le (Nat.ne_of_beq_eq_false rfl)
  have n_lw_le : lw ≠ le := hneL k_lw k_le (Nat.ne_of_beq_eq_false rfl)
  have n_la_le : la ≠ le := hneL k_la k_le (Nat.ne_of_beq_eq_false rfl)
  have n_lq_le : lq ≠ le := hneL k_lq k_le (Nat.ne_of_beq_eq_false rfl)
  have sbA : ∀ x9, x9 ∈ [xo, ez, eo, bu, nw0, na0, nq0, nr0, nw1, na1, nq1, nr1, bs, bp, bh, bf, bl, bg] → x9 ∈ [lx, ly, lw, la, lq, le, xo, ez, eo, bu, nw0, na0, nq0, nr0, nw1, na1, nq1, nr1, bs, bp, bh, bf, bl, bg] := (sub_cons (List.mem_cons_of_mem _ (List.mem_cons_of_mem _ (List.mem_cons_of_mem _ (List.mem_cons_of_mem _ (List.mem_cons_of_mem _ (List.mem_cons_of_mem _ List.mem_cons_self)))))) (sub_cons (List.mem_cons_of_mem _ (List.mem_cons_of_mem _ (List.mem_cons_of_mem _ (List.mem_cons_of_mem _ (List.mem_cons_of_mem _ (List.mem_cons_of_mem _ (List.mem_cons_of_mem _ List.mem_cons_self))))))) (sub_cons (List.mem_cons_of_mem _ (List.mem_cons_of_mem _ (List.mem_cons_of_mem _ (List.mem_cons_of_mem _ (List.mem_cons_of_mem _ (List.mem_cons_of_mem _ (List.mem_cons_of_mem _ (List.mem_cons_of_mem _ List.mem_cons_self)))))))) (sub_cons (List.mem_cons_of_mem _ (List.mem_cons_of_mem _ (List.mem_cons_of_mem _ (List.mem_cons_of_mem _ (List.mem_cons_of_mem _ (List.mem_cons_of_mem _ (List.mem_cons_of_mem _ (List.mem_cons_of_mem _ (List.mem_cons_of_mem _ List.mem_cons_self))))))))) (sub_cons (List.mem_cons_of_mem _ (List.mem_cons_of_mem _ (List.mem_cons_of_mem _ (List.mem_cons_of_mem _ (List.mem_cons_of_mem _ (List.mem_cons_of_mem _ (List.mem_cons_of_mem _ (List.mem_cons_of_mem _ (List.mem_cons_of_mem _ (List.mem_cons_of_mem _ List.mem_cons_self)))))))))) (sub_cons (List.mem_cons_of_mem _ (List.mem_cons_of_mem _ (List.mem_cons_of_mem _ (List.mem_cons_of_mem _ (List.mem_cons_of_mem _ (List.mem_cons_of_mem _ (List.mem_cons_of_mem _ (List.mem_cons_of_mem _ (List.mem_cons_of_mem _ (List.mem_cons_of_mem _ (List.mem_cons_of_mem _ List.mem_cons_self))))))))))) (sub_cons (List.mem_cons_of_mem _ (List.mem_cons_of_mem _ (List.mem_cons_of_mem _ (List.mem_cons_of_mem _ (List.mem_cons_of_mem _ (List.mem_cons_of_mem _ (List.mem_cons_of_mem _ (List.mem_cons_of_mem _ (List.mem_cons_of_mem _ (List.mem_cons_of_mem _ (List.mem_cons_of_mem _ (List.mem_cons_of_mem _ List.mem_cons_self)))))))))))) (sub_cons (List.mem_cons_of_mem _ (List.mem_cons_of_mem _ (List.mem_cons_of_mem _ (List.mem_cons_of_mem _ (List.mem_cons_of_mem _ (List.mem_cons_of_mem _ (List.mem_cons_of_mem _ (List.mem_cons_of_mem _ (List.mem_cons_of_mem _ (List.mem_cons_of_mem _ (List.mem_cons_of_mem _ (List.mem_cons_of_mem _ (List.mem_cons_of_mem _ List.mem_cons_self))))))))))))) (sub_cons (List.mem_cons_of_mem _ (List.mem_cons_of_mem _ (List.mem_cons_of_mem _ (List.mem_cons_of_mem _ (List.mem_cons_of_mem _ (List.mem_cons_of_mem _ (List.mem_cons_of_mem _ (List.mem_cons_of_mem _ (List.mem_cons_of_mem _ (List.mem_cons_of_mem _ (List.mem_cons_of_mem _ (List.mem_cons_of_mem _ (List.mem_cons_of_mem _ (List.mem_cons_of_mem _ List.mem_cons_self)))))))))))))) (sub_cons (List.mem_cons_of_mem _ (List.mem_cons_of_mem _ (List.mem_cons_of_mem _ (List.mem_cons_of_mem _ (List.mem_cons_of_mem _ (List.mem_cons_of_mem _ (List.mem_cons_of_mem _ (List.mem_cons_of_mem _ (List.mem_cons_of_mem _ (List.mem_cons_of_mem _ (List.mem_cons_of_mem _ (List.mem_cons_of_mem _ (List.mem_cons_of_mem _ (List.mem_cons_of_mem _ (List.mem_cons_of_mem _ List.mem_cons_self))))))))))))))) (sub_cons (List.mem_cons_of_mem _ (List.mem_cons_of_mem _ (List.mem_cons_of_mem _ (List.mem_cons_of_mem _ (List.mem_cons_of_mem _ (List.mem_cons_of_mem _ (List.mem_cons_of_mem _ (List.mem_cons_of_mem _ (List.mem_cons_of_mem _ (List.mem_cons_of_mem _ (List.mem_cons_of_mem _ (List.mem_cons_of_mem _ (List.mem_cons_of_mem _ (List.mem_cons_of_mem _ (List.mem_cons_of_mem _ (List.mem_cons_of_mem _ List.mem_cons_self)))))))))))))))) (sub_cons (List.mem_cons_of_mem _ (List.mem_cons_of_mem _ (List.mem_cons_of_mem _ (List.mem_cons_of_mem _ (List.mem_cons_of_mem _ (List.mem_cons_of_mem _ (List.mem_cons_of_mem _ (List.mem_cons_of_mem _ (List.mem_cons_of_mem _ (List.mem_cons_of_mem _ (List.mem_cons_of_mem _ (List.mem_cons_of_mem _ (List.mem_cons_of_mem _ (List.mem_cons_of_mem _ (List.mem_cons_of_mem _ (List.mem_cons_of_mem _ (List.mem_cons_of_mem _ List.mem_cons_self))))))))))))))))) (sub_cons (List.mem_cons_of_mem _ (List.mem_cons_of_mem _ (List.mem_cons_of_mem _ (List.mem_cons_of_mem _ (List.mem_cons_of_mem _ (List.mem_cons_of_mem _ (List.mem_cons_of_mem _ (List.mem_cons_of_mem _ (List.mem_cons_of_mem _ (List.mem_cons_of_mem _ (List.mem_cons_of_mem _ (List.mem_cons_of_mem _ (List.mem_cons_of_mem _ (List.mem_cons_of_mem _ (List.mem_cons_of_mem _ (List.mem_cons_of_mem _ (List.mem_cons_of_mem _ (List.mem_cons_of_mem _ List.mem_cons_self)))))))))))))))))) (sub_cons (List.mem_cons_of_mem _ (List.mem_cons_of_mem _ (List.mem_cons_of_mem _ (List.mem_cons_of_mem _ (List.mem_cons_of_mem _ (List.mem_cons_of_mem _ (List.mem_cons_of_mem _ (List.mem_cons_of_mem _ (List.mem_cons_of_mem _ (List.mem_cons_of_mem _ (List.mem_cons_of_mem _ (List.mem_cons_of_mem _ (List.mem_cons_of_mem _ (List.mem_cons_of_mem _ (List.mem_cons_of_mem _ (List.mem_cons_of_mem _ (List.mem_cons_of_mem _ (List.mem_cons_of_mem _ (List.mem_cons_of_mem _ List.mem_cons_self))))))))))))))))))) (sub_cons (List.mem_cons_of_mem _ (List.mem_cons_of_mem _ (List.mem_cons_of_mem _ (List.mem_cons_of_mem _ (List.mem_cons_of_mem _ (List.mem_cons_of_mem _ (List.mem_cons_of_mem _ (List.mem_cons_of_mem _ (List.mem_cons_of_mem _ (List.mem_cons_of_mem _ (List.mem_cons_of_mem _ (List.mem_cons_of_mem _ (List.mem_cons_of_mem _ (List.mem_cons_of_mem _ (List.mem_cons_of_mem _ (List.mem_cons_of_mem _ (List.mem_cons_of_mem _ (List.mem_cons_of_mem _ (List.mem_cons_of_mem _ (List.mem_cons_of_mem _ List.mem_cons_self)))))))))))))))))))) (sub_cons (List.mem_cons_of_mem _ (List.mem_cons_of_mem _ (List.mem_cons_of_mem _ (List.mem_cons_of_mem _ (List.mem_cons_of_mem _ (List.mem_cons_of_mem _ (List.mem_cons_of_mem _ (List.mem_cons_of_mem _ (List.mem_cons_of_mem _ (List.mem_cons_of_mem _ (List.mem_cons_of_mem _ (List.mem_cons_of_mem _ (List.mem_cons_of_mem _ (List.mem_cons_of_mem _ (List.mem_cons_of_mem _ (List.mem_cons_of_mem _ (List.mem_cons_of_mem _ (List.mem_cons_of_mem _ (List.mem_cons_of_mem _ (List.mem_cons_of_mem _ (List.mem_cons_of_mem _ List.mem_cons_self))))))))))))))))))))) (sub_cons (List.mem_cons_of_mem _ (List.mem_cons_of_mem _ (List.mem_cons_of_mem _ (List.mem_cons_of_mem _ (List.mem_cons_of_mem _ (List.mem_cons_of_mem _ (List.mem_cons_of_mem _ (List.mem_cons_of_mem _ (List.mem_cons_of_mem _ (List.mem_cons_of_mem _ (List.mem_cons_of_mem _ (List.mem_cons_of_mem _ (List.mem_cons_of_mem _ (List.mem_cons_of_mem _ (List.mem_cons_of_mem _ (List.mem_cons_of_mem _ (List.mem_cons_of_mem _ (List.mem_cons_of_mem _ (List.mem_cons_of_mem _ (List.mem_cons_of_mem _ (List.mem_cons_of_mem _ (List.mem_cons_of_mem _ List.mem_cons_self)))))))))))))))))))))) (sub_cons (List.mem_cons_of_mem _ (List.mem_cons_of_mem _ (List.mem_cons_of_mem _ (List.mem_cons_of_mem _ (List.mem_cons_of_mem _ (List.mem_cons_of_mem _ (List.mem_cons_of_mem _ (List.mem_cons_of_mem _ (List.mem_cons_of_mem _ (List.mem_cons_of_mem _ (List.mem_cons_of_mem _ (List.mem_cons_of_mem _ (List.mem_cons_of_mem _ (List.mem_cons_of_mem _ (List.mem_cons_of_mem _ (List.mem_cons_of_mem _ (List.mem_cons_of_mem _ (List.mem_cons_of_mem _ (List.mem_cons_of_mem _ (List.mem_cons_of_mem _ (List.mem_cons_of_mem _ (List.mem_cons_of_mem _ (List.mem_cons_of_mem _ List.mem_cons_self))))))))))))))))))))))) sub_nil))))))))))))))))))
  obtain ⟨xx, hxx, hx4⟩ := hSo0.2.2.2.2.1
  have h1 : f le = some (.inl (cI G, 16, .inl (jE (e8r S0.1 S0.2.1 S0.2.2.1 S0.2.2.2.1 S0.2.2.2.2.1 S0.2.2.2.2.2.1 S0.2.2.2.2.2.2.1 (nI S0.2.2.2.2.2.2.2.2.length)) (eSt S1)))) := k_le
  refine lv_iload_n hx hb dL_links_39 rfl (lv_at hl9 7 rfl) ?_
  refine lv_iconst (v := 3) hx hb dL_links_40 (by decide) ?_
  refine lv_ishr hx hb dL_links_41 ?_
  refine lv_bipush (v := 11) hx hb dL_links_42 (by decide) ?_
  refine hp_S (As := [.int (z >>> (3 &&& 31)), .int 11]) (rest := []) B0 hw hS (c_L_low hl G f (z >>> (3 &&& 31)) 11 (by omega) (by omega)) mS_L_low qM_L_94 rfl rfl hl9.1 (Nat.le_of_ble_eq_true rfl) ⟨⟨Nat.le_of_ble_eq_true rfl, Nat.le_of_ble_eq_true rfl⟩, Nat.le_of_ble_eq_true rfl, Nat.le_of_ble_eq_true rfl⟩ dL_links_44 (fun E ce q9 f2 H locs hPX hw hS hce hcv hcl => ?_) (fun v f2 H locs hP hw hS => ?_)
  · exact hPX.elim
  · obtain ⟨ef9, j3, hj4, ev9⟩ := hP
    rw [ef9] at hw
    subst ev9
    refine W.eq (g2 := F0 m 47 ls [.int (nI j3)]) rfl ?_
    refine lv_iconst (v := 1) hx hb dL_links_47 (by decide) ?_
    refine lv_isub hx hb dL_links_48 ?_
    refine hp_c (v := (nI j3 - 1)) (rfl) ?_
    refine lv_istore (lv' := [(14, .int (nI j3 - 1)), (13, .int (nI j13)), (12, .ref lx), (11, .int 0), (10, .int 0), (0, .ref xo), (1, .int (nI ac)), (2, .int u), (3, .int z), (4, .ref lx), (5, .ref ly), (6, .ref lw), (7, .ref la), (8, .ref lq), (9, .ref le)]) hx hb dL_links_49 hl9 (by decide) rfl (fun ls hl9 => ?_)
    refine lv_aload hx hb dL_links_51 (lv_at hl9 11 rfl) ?_
    refine lv_bipush (v := 6) hx hb dL_links_53 (by decide) ?_
    refine lv_iload hx hb dL_links_55 (lv_at hl9 4 rfl) ?_
    refine lv_imul hx hb dL_links_57 ?_
    refine hp_c (v := 0) (by decide) ?_
    refine lv_iload hx hb dL_links_58 (lv_at hl9 1 rfl) ?_
    refine lv_iadd hx hb dL_links_60 ?_
    refine hp_c (v := (nI j13)) (by rw [show (0 : Int32) = nI 0 from rfl, nI_add, Nat.zero_add]) ?_
    refine hp_iald B0 hw k_lw (vp_in_nI (show j13 < 12 by omega) (by omega)) dL_links_61 ?_
    refine hp_c (v := (gw0 j13)) ((by rw [nI_clamp (by omega)]; exact j6_0 (by omega))) ?_
    refine lv_istore (lv' := [(15, .int (gw0 j13)), (14, .int (nI j3 - 1)), (13, .int (nI j13)), (12, .ref lx), (11, .int 0), (10, .int 0), (0, .ref xo), (1, .int (nI ac)), (2, .int u), (3, .int z), (4, .ref lx), (5, .ref ly), (6, .ref lw), (7, .ref la), (8, .ref lq), (9, .ref le)]) hx hb dL_links_62 hl9 (by decide) rfl (fun ls hl9 => ?_)
    refine lv_aload hx hb dL_links_64 (lv_at hl9 12 rfl) ?_
    refine lv_bipush (v := 6) hx hb dL_links_66 (by decide) ?_
    refine lv_iload hx hb dL_links_68 (lv_at hl9 5 rfl) ?_
    refine lv_imul hx hb dL_links_70 ?_
    refine hp_c (v := 0) (by decide) ?_
    refine lv_iload hx hb dL_links_71 (lv_at hl9 2 rfl) ?_
    refine lv_iadd hx hb dL_links_73 ?_
    refine hp_c (v := (nI j13)) (by rw [show (0 : Int32) = nI 0 from rfl, nI_add, Nat.zero_add]) ?_
    refine lv_iload hx hb dL_links_74 (lv_at hl9 1 rfl) ?_
    refine hp_iast B0 hw hS k_lw (vp_in_nI (show j13 < 12 by omega) (by omega)) dL_links_76 (fun H locs f5 ef5 hw hS => ?_)
    rw [show (upd (j6r gw0 gw1) ((nI j13) : Int32).toNatClampNeg (nI j3 - 1) : Nat → Int32) = (j6r (upd gw0 j13 (nI j3 - 1)) gw1) from (by rw [nI_clamp (by omega), j6_u0 (by omega)])] at ef5
    have h6 : f5 lw = some (.inl (cI G, 12, .inl (j6r (upd gw0 j13 (nI j3 - 1)) gw1))) := by rw [ef5, va_up_self]
    refine lv_aload_n hx hb dL_links_77 rfl (lv_at hl9 6 rfl) ?_
    refine lv_iconst (v := 2) hx hb dL_links_78 (by decide) ?_
    refine lv_iload hx hb dL_links_79 (lv_at hl9 2 rfl) ?_
    refine lv_bipush (v := 10) hx hb dL_links_81 (by decide) ?_
    have h7 : f5 lx = some (.inl (cJ G, 64, .inr (.inl xs0))) := by rw [ef5, va_up_ne _ _ n_lx_lw]; exact k_lx
    have h8 : f5 ly = some (.inl (cJ G, 64, .inr (.inl xs1))) := by rw [ef5, va_up_ne _ _ n_ly_lw]; exact k_ly
    have h10 : f5 la = some (.inl (cI G, 12, .inl (j6r ga0 ga1))) := by rw [ef5, va_up_ne _ _ (Ne.symm n_lw_la)]; exact k_la
    have h11 : f5 lq = some (.inl (cI G, 12, .inl (j6r S0.2.2.2.2.2.2.2.1 S1.2.2.2.2.2.2.2.1))) := by rw [ef5, va_up_ne _ _ (Ne.symm n_lw_lq)]; exact k_lq
    have h12 : f5 le = some (.inl (cI G, 16, .inl (jE (e8r S0.1 S0.2.1 S0.2.2.1 S0.2.2.2.1 S0.2.2.2.2.1 S0.2.2.2.2.2.1 S0.2.2.2.2.2.2.1 (nI S0.2.2.2.2.2.2.2.2.length)) (eSt S1)))) := by rw [ef5, va_up_ne _ _ (Ne.symm n_lw_le)]; exact h1
    have hC13 : CXW G f5 xo ez eo bu nw0 na0 nq0 nr0 nw1 na1 nq1 nr1 bs bp bh bf bl bg S0 S1 gw0 ga0 gw1 ga1 n a cg x sa pk fl gv gh gl := CXW.eq hC (show hEq [lx, ly, lw, la, lq, le] f f5 from (by rw [ef5]; exact hEq.up (List.mem_cons_of_mem _ (List.mem_cons_of_mem _ List.mem_cons_self)))) hdis (fun b9 hb9 => by
        simp only [List.mem_cons, List.not_mem_nil, or_false] at hb9
        rcases hb9 with hb9 | hb9 | hb9 | hb9 | hb9 | hb9
        · rw [hb9]; exact ⟨_, _, k_lx, h7, (Nat.ne_of_beq_eq_false rfl), (Nat.ne_of_beq_eq_false rfl)⟩
        · rw [hb9]; exact ⟨_, _, k_ly, h8, (Nat.ne_of_beq_eq_false rfl), (Nat.ne_of_beq_eq_false rfl)⟩
        · rw [hb9]; exact ⟨_, _, k_lw, h6, (Nat.ne_of_beq_eq_false rfl), (Nat.ne_of_beq_eq_false rfl)⟩
        · rw [hb9]; exact ⟨_, _, k_la, h10, (Nat.ne_of_beq_eq_false rfl), (Nat.ne_of_beq_eq_false rfl)⟩
        · rw [hb9]; exact ⟨_, _, k_lq, h11, (Nat.ne_of_beq_eq_false rfl), (Nat.ne_of_beq_eq_false rfl)⟩
        · rw [hb9]; exact ⟨_, _, h1, h12, (Nat.ne_of_beq_eq_false rfl), (Nat.ne_of_beq_eq_false rfl)⟩)
    refine hp_SH (As := [.ref xo, .int 2, .int (nI j13), .int 10]) (rest := []) B0 hw hS (c_V_wish_E hl G f5 xo ez eo bu nw0 na0 nq0 nr0 nw1 na1 nq1 nr1 bs bp bh bf bl bg S0 S1 gw0 ga0 gw1 ga1 n a cg x sa pk fl gv gh gl hC13 (Nat.lt_of_le_of_lt hl0 (by decide)) (Nat.lt_of_le_of_lt hl1 (by decide)) 2 (nI j13) 10 (by decide)) mH_L_wish qM_L_97 rfl rfl hl9.1 (Nat.le_of_ble_eq_true rfl) ⟨⟨Nat.le_of_ble_eq_true rfl, Nat.le_of_ble_eq_true rfl⟩, Nat.le_of_ble_eq_true rfl, Nat.le_of_ble_eq_true rfl⟩ dL_links_83 (fun E ce q9 f14 H locs hPX hw hS hce hcv hcl => ?_) (fun v f14 H locs hP hw hS => ?_)
    · exact hPX.elim
    · obtain ⟨ev9, hC15, k16⟩ := hP
      subst ev9
      have hC15 : CXW G f14 xo ez eo bu nw0 na0 nq0 nr0 nw1 na1 nq1 nr1 bs bp bh bf bl bg S0 S1 gw0 ga0 gw1 ga1 n a cg x sa pk fl gv gh gl := hC15
      refine W.eq (g2 := F0 m 86 ls [.int (-71)]) rfl ?_
      refine lv_bipush (v := (-71)) hx hb dL_links_86 (by decide) ?_
      refine lv_icmp_ne (tgt := 155) hx hb dL_links_88 (by decide) (fun c9 => absurd (by decide) c9) (fun _ => ?_)
      refine lv_aload_n hx hb dL_links_91 rfl (lv_at hl9 6 rfl) ?_
      refine lv_iload hx hb dL_links_92 (lv_at hl9 5 rfl) ?_
      refine lv_bipush (v := 6) hx hb dL_links_94 (by decide) ?_
      refine lv_iload hx hb dL_links_96 (lv_at hl9 1 rfl) ?_
      refine hp_SH (As := [.ref xo, .int 0, .int 6, .int (nI j3 - 1)]) (rest := []) B0 hw hS (c_V_wish_O0 hl G f14 xo ez eo bu nw0 na0 nq0 nr0 nw1 na1 nq1 nr1 bs bp bh bf bl bg S0 S1 gw0 ga0 gw1 ga1 n a cg x sa pk fl gv gh gl hC15 (Nat.lt_of_le_of_lt hl0 (by decide)) (Nat.lt_of_le_of_lt hl1 (by decide)) 6 (nI j3 - 1) (by decide)) mH_L_wish qM_L_97 rfl rfl hl9.1 (Nat.le_of_ble_eq_true rfl) ⟨⟨Nat.le_of_ble_eq_true rfl, Nat.le_of_ble_eq_true rfl⟩, Nat.le_of_ble_eq_true rfl, Nat.le_of_ble_eq_true rfl⟩ dL_links_98 (fun E ce q9 f17 H locs hPX hw hS hce hcv hcl => ?_) (fun v f17 H locs hP hw hS => ?_)
      · exact hPX.elim
      · obtain ⟨ev9, hC18, k19⟩ := hP
        subst ev9
        have hC18 : CXW G f17 xo ez eo bu nw0 na0 nq0 nr0 nw1 na1 nq1 nr1 bs bp bh bf bl bg S0 S1 gw0 ga0 gw1 ga1 n a cg x sa pk fl gv gh gl := hC18
        refine W.eq (g2 := F0 m 101 ls [.int (-71)]) rfl ?_
        refine lv_bipush (v := (-71)) hx hb dL_links_101 (by decide) ?_
        refine lv_icmp_ne (tgt := 155) hx hb dL_links_103 (by decide) (fun c9 => absurd (by decide) c9) (fun _ => ?_)
        refine lv_aload_n hx hb dL_links_106 rfl (lv_at hl9 6 rfl) ?_
        refine lv_iload hx hb dL_links_107 (lv_at hl9 5 rfl) ?_
        refine lv_iload hx hb dL_links_109 (lv_at hl9 2 rfl) ?_
        refine lv_bipush (v := 10) hx hb dL_links_111 (by decide) ?_
        refine hp_SH (As := [.ref xo, .int 0, .int (nI j13), .int 10]) (rest := []) B0 hw hS (c_V_wish_V0 hl G f17 xo ez eo bu nw0 na0 nq0 nr0 nw1 na1 nq1 nr1 bs bp bh bf bl bg S0 S1 gw0 ga0 gw1 ga1 n a cg x sa pk fl gv gh gl hC18 (Nat.lt_of_le_of_lt hl0 (by decide)) (Nat.lt_of_le_of_lt hl1 (by decide)) j13 (by omega) 10 (by decide)) mH_L_wish qM_L_97 rfl rfl hl9.1 (Nat.le_of_ble_eq_true rfl) ⟨⟨Nat.le_of_ble_eq_true rfl, Nat.le_of_ble_eq_true rfl⟩, Nat.le_of_ble_eq_true rfl, Nat.le_of_ble_eq_true rfl⟩ dL_links_113 (fun E ce q9 f20 H locs hPX hw hS hce hcv hcl => ?_) (fun v f20 H locs hP hw hS => ?_)
        · exact hPX.elim
        · obtain ⟨ev9, hC21, k22⟩ := hP
          subst ev9
          have hC21 : CXW G f20 xo ez eo bu nw0 na0 nq0 nr0 nw1 na1 nq1 nr1 bs bp bh bf bl bg S0 S1 gw0 ga0 gw1 ga1 n a cg x sa pk fl gv gh gl := hC21
          refine W.eq (g2 := F0 m 116 ls [.int (-72)]) rfl ?_
          refine lv_bipush (v := (-72)) hx hb dL_links_116 (by decide) ?_
          refine lv_icmp_ne (tgt := 155) hx hb dL_links_118 (by decide) (fun c9 => absurd (by decide) c9) (fun _ => ?_)
          refine lv_aload_n hx hb dL_links_121 rfl (lv_at hl9 6 rfl) ?_
          refine lv_iload hx hb dL_links_122 (lv_at hl9 5 rfl) ?_
          refine lv_iload hx hb dL_links_124 (lv_at hl9 2 rfl) ?_
          refine lv_bipush (v := (-2)) hx hb dL_links_126 (by decide) ?_
          refine hp_SH (As := [.ref xo, .int 0, .int (nI j13), .int (-2)]) (rest := []) B0 hw hS (c_V_wish_V0 hl G f20 xo ez eo bu nw0 na0 nq0 nr0 nw1 na1 nq1 nr1 bs bp bh bf bl bg S0 S1 gw0 ga0 gw1 ga1 n a cg x sa pk fl gv gh gl hC21 (Nat.lt_of_le_of_lt hl0 (by decide)) (Nat.lt_of_le_of_lt hl1 (by decide)) j13 (by omega) (-2) (by decide)) mH_L_wish qM_L_97 rfl rfl hl9.1 (Nat.le_of_ble_eq_true rfl) ⟨⟨Nat.le_of_ble_eq_true rfl, Nat.le_of_ble_eq_true rfl⟩, Nat.le_of_ble_eq_true rfl, Nat.le_of_ble_eq_true rfl⟩ dL_links_128 (fun E ce q9 f23 H locs hPX hw hS hce hcv hcl => ?_) (fun v f23 H locs hP hw hS => ?_)
          · exact hPX.elim
          · obtain ⟨ev9, hC24, k25⟩ := hP
            subst ev9
            have hC24 : CXW G f23 xo ez eo bu nw0 na0 nq0 nr0 nw1 na1 nq1 nr1 bs bp bh bf bl bg S0 S1 gw0 ga0 gw1 ga1 n a cg x sa pk fl gv gh gl := hC24
            refine W.eq (g2 := F0 m 131 ls [.int (-72)]) rfl ?_
            refine lv_bipush (v := (-72)) hx hb dL_links_131 (by decide) ?_
            refine lv_icmp_ne (tgt := 155) hx hb dL_links_133 (by decide) (fun c9 => absurd (by decide) c9) (fun _ => ?_)
            refine lv_aload_n hx hb dL_links_136 rfl (lv_at hl9 6 rfl) ?_
            refine lv_iload hx hb dL_links_137 (lv_at hl9 5 rfl) ?_
            refine lv_iload hx hb dL_links_139 (lv_at hl9 2 rfl) ?_
            refine lv_iload hx hb dL_links_141 (lv_at hl9 1 rfl) ?_
            refine hp_SH (As := [.ref xo, .int 0, .int (nI j13), .int (nI j3 - 1)]) (rest := []) B0 hw hS (c_V_wish_0 hl G f23 xo ez eo bu nw0 na0 nq0 nr0 nw1 na1 nq1 nr1 bs bp bh bf bl bg S0 S1 gw0 ga0 gw1 ga1 n a cg x sa pk fl gv gh gl hC24 (Nat.lt_of_le_of_lt hl0 (by decide)) (Nat.lt_of_le_of_lt hl1 (by decide)) j13 (by omega) (nI j3 - 1) (VOK_lo hj4)) mH_L_wish qM_L_97 rfl rfl hl9.1 (Nat.le_of_ble_eq_true rfl) ⟨⟨Nat.le_of_ble_eq_true rfl, Nat.le_of_ble_eq_true rfl⟩, Nat.le_of_ble_eq_true rfl, Nat.le_of_ble_eq_true rfl⟩ dL_links_143 (fun E ce q9 f26 H locs hPX hw hS hce hcv hcl => ?_) (fun v f26 H locs hP hw hS => ?_)
            · exact hPX.elim
            · obtain ⟨ev9, hC27, k28⟩ := hP
              subst ev9
              have hC27 : CXW G f26 xo ez eo bu nw0 na0 nq0 nr0 nw1 na1 nq1 nr1 bs bp bh bf bl bg S0 S1 (upd gw0 j13 (nI j3 - 1)) ga0 gw1 ga1 n a cg x sa pk fl gv gh gl := hC27
              refine W.eq (g2 := F0 m 146 ls [.int ((gw0 j13))]) rfl ?_
              refine lv_iload hx hb dL_links_146 (lv_at hl9 0 rfl) ?_
              refine lv_icmp_ne (tgt := 155) hx hb dL_links_148 (by decide) (fun c9 => absurd rfl c9) (fun _ => ?_)
              refine lv_iconst (v := 1) hx hb dL_links_151 (by decide) ?_
              refine lv_goto (tgt := 156) hx hb dL_links_152 (by decide) ?_
              have h29 : f14 lx = some (.inl (cJ G, 64, .inr (.inl xs0))) := k16 _ _ h7 (Nat.ne_of_beq_eq_false rfl) (hdos _ List.mem_cons_self)
              have h30 : f17 lx = some (.inl (cJ G, 64, .inr (.inl xs0))) := k19 _ _ h29 (Nat.ne_of_beq_eq_false rfl) (hdos _ List.mem_cons_self)
              have h31 : f20 lx = some (.inl (cJ G, 64, .inr (.inl xs0))) := k22 _ _ h30 (Nat.ne_of_beq_eq_false rfl) (hdos _ List.mem_cons_self)
              have h32 : f23 lx = some (.inl (cJ G, 64, .inr (.inl xs0))) := k25 _ _ h31 (Nat.ne_of_beq_eq_false rfl) (hdos _ List.mem_cons_self)
              have h33 : f26 lx = some (.inl (cJ G, 64, .inr (.inl xs0))) := k28 _ _ h32 (Nat.ne_of_beq_eq_false rfl) (hdos _ List.mem_cons_self)
              have h34 : f14 ly = some (.inl (cJ G, 64, .inr (.inl xs1))) := k16 _ _ h8 (Nat.ne_of_beq_eq_false rfl) (hdos _ (List.mem_cons_of_mem _ List.mem_cons_self))
              have h35 : f17 ly = some (.inl (cJ G, 64, .inr (.inl xs1))) := k19 _ _ h34 (Nat.ne_of_beq_eq_false rfl) (hdos _ (List.mem_cons_of_mem _ List.mem_cons_self))
              have h36 : f20 ly = some (.inl (cJ G, 64, .inr (.inl xs1))) := k22 _ _ h35 (Nat.ne_of_beq_eq_false rfl) (hdos _ (List.mem_cons_of_mem _ List.mem_cons_self))
              have h37 : f23 ly = some (.inl (cJ G, 64, .inr (.inl xs1))) := k25 _ _ h36 (Nat.ne_of_beq_eq_false rfl) (hdos _ (List.mem_cons_of_mem _ List.mem_cons_self))
              have h38 : f26 ly = some (.inl (cJ G, 64, .inr (.inl xs1))) := k28 _ _ h37 (Nat.ne_of_beq_eq_false rfl) (hdos _ (List.mem_cons_of_mem _ List.mem_cons_self))
              have h39 : f14 lw = some (.inl (cI G, 12, .inl (j6r (upd gw0 j13 (nI j3 - 1)) gw1))) := k16 _ _ h6 (Nat.ne_of_beq_eq_false rfl) (hdos _ (List.mem_cons_of_mem _ (List.mem_cons_of_mem _ List.mem_cons_self)))
              have h40 : f17 lw = some (.inl (cI G, 12, .inl (j6r (upd gw0 j13 (nI j3 - 1)) gw1))) := k19 _ _ h39 (Nat.ne_of_beq_eq_false rfl) (hdos _ (List.mem_cons_of_mem _ (List.mem_cons_of_mem _ List.mem_cons_self)))
              have h41 : f20 lw = some (.inl (cI G, 12, .inl (j6r (upd gw0 j13 (nI j3 - 1)) gw1))) := k22 _ _ h40 (Nat.ne_of_beq_eq_false rfl) (hdos _ (List.mem_cons_of_mem _ (List.mem_cons_of_mem _ List.mem_cons_self)))
              have h42 : f23 lw = some (.inl (cI G, 12, .inl (j6r (upd gw0 j13 (nI j3 - 1)) gw1))) := k25 _ _ h41 (Nat.ne_of_beq_eq_false rfl) (hdos _ (List.mem_cons_of_mem _ (List.mem_cons_of_mem _ List.mem_cons_self)))
              have h43 : f26 lw = some (.inl (cI G, 12, .inl (j6r (upd gw0 j13 (nI j3 - 1)) gw1))) := k28 _ _ h42 (Nat.ne_of_beq_eq_false rfl) (hdos _ (List.mem_cons_of_mem _ (List.mem_cons_of_mem _ List.mem_cons_self)))
              have h44 : f14 la = some (.inl (cI G, 12, .inl (j6r ga0 ga1))) := k16 _ _ h10 (Nat.ne_of_beq_eq_false rfl) (hdos _ (List.mem_cons_of_mem _ (List.mem_cons_of_mem _ (List.mem_cons_of_mem _ List.mem_cons_self))))
              have h45 : f17 la = some (.inl (cI G, 12, .inl (j6r ga0 ga1))) := k19 _ _ h44 (Nat.ne_of_beq_eq_false rfl) (hdos _ (List.mem_cons_of_mem _ (List.mem_cons_of_mem _ (List.mem_cons_of_mem _ List.mem_cons_self))))
              have h46 : f20 la = some (.inl (cI G, 12, .inl (j6r ga0 ga1))) := k22 _ _ h45 (Nat.ne_of_beq_eq_false rfl) (hdos _ (List.mem_cons_of_mem _ (List.mem_cons_of_mem _ (List.mem_cons_of_mem _ List.mem_cons_self))))
              have h47 : f23 la = some (.inl (cI G, 12, .inl (j6r ga0 ga1))) := k25 _ _ h46 (Nat.ne_of_beq_eq_false rfl) (hdos _ (List.mem_cons_of_mem _ (List.mem_cons_of_mem _ (List.mem_cons_of_mem _ List.mem_cons_self))))
              have h48 : f26 la = some (.inl (cI G, 12, .inl (j6r ga0 ga1))) := k28 _ _ h47 (Nat.ne_of_beq_eq_false rfl) (hdos _ (List.mem_cons_of_mem _ (List.mem_cons_of_mem _ (List.mem_cons_of_mem _ List.mem_cons_self))))
              have h49 : f14 lq = some (.inl (cI G, 12, .inl (j6r S0.2.2.2.2.2.2.2.1 S1.2.2.2.2.2.2.2.1))) := k16 _ _ h11 (Nat.ne_of_beq_eq_false rfl) (hdos _ (List.mem_cons_of_mem _ (List.mem_cons_of_mem _ (List.mem_cons_of_mem _ (List.mem_cons_of_mem _ List.mem_cons_self)))))
              have h50 : f17 lq = some (.inl (cI G, 12, .inl (j6r S0.2.2.2.2.2.2.2.1 S1.2.2.2.2.2.2.2.1))) := k19 _ _ h49 (Nat.ne_of_beq_eq_false rfl) (hdos _ (List.mem_cons_of_mem _ (List.mem_cons_of_mem _ (List.mem_cons_of_mem _ (List.mem_cons_of_mem _ List.mem_cons_self)))))
              have h51 : f20 lq = some (.inl (cI G, 12, .inl (j6r S0.2.2.2.2.2.2.2.1 S1.2.2.2.2.2.2.2.1))) := k22 _ _ h50 (Nat.ne_of_beq_eq_false rfl) (hdos _ (List.mem_cons_of_mem _ (List.mem_cons_of_mem _ (List.mem_cons_of_mem _ (List.mem_cons_of_mem _ List.mem_cons_self)))))
              have h52 : f23 lq = some (.inl (cI G, 12, .inl (j6r S0.2.2.2.2.2.2.2.1 S1.2.2.2.2.2.2.2.1))) := k25 _ _ h51 (Nat.ne_of_beq_eq_false rfl) (hdos _ (List.mem_cons_of_mem _ (List.mem_cons_of_mem _ (List.mem_cons_of_mem _ (List.mem_cons_of_mem _ List.mem_cons_self)))))
              have h53 : f26 lq = some (.inl (cI G, 12, .inl (j6r S0.2.2.2.2.2.2.2.1 S1.2.2.2.2.2.2.2.1))) := k28 _ _ h52 (Nat.ne_of_beq_eq_false rfl) (hdos _ (List.mem_cons_of_mem _ (List.mem_cons_of_mem _ (List.mem_cons_of_mem _ (List.mem_cons_of_mem _ List.mem_cons_self)))))
              have h54 : f14 le = some (.inl (cI G, 16, .inl (jE (e8r S0.1 S0.2.1 S0.2.2.1 S0.2.2.2.1 S0.2.2.2.2.1 S0.2.2.2.2.2.1 S0.2.2.2.2.2.2.1 (nI S0.2.2.2.2.2.2.2.2.length)) (eSt S1)))) := k16 _ _ h12 (Nat.ne_of_beq_eq_false rfl) (hdos _ (List.mem_cons_of_mem _ (List.mem_cons_of_mem _ (List.mem_cons_of_mem _ (List.mem_cons_of_mem _ (List.mem_cons_of_mem _ List.mem_cons_self))))))
              have h55 : f17 le = some (.inl (cI G, 16, .inl (jE (e8r S0.1 S0.2.1 S0.2.2.1 S0.2.2.2.1 S0.2.2.2.2.1 S0.2.2.2.2.2.1 S0.2.2.2.2.2.2.1 (nI S0.2.2.2.2.2.2.2.2.length)) (eSt S1)))) := k19 _ _ h54 (Nat.ne_of_beq_eq_false rfl) (hdos _ (List.mem_cons_of_mem _ (List.mem_cons_of_mem _ (List.mem_cons_of_mem _ (List.mem_cons_of_mem _ (List.mem_cons_of_mem _ List.mem_cons_self))))))
              have h56 : f20 le = some (.inl (cI G, 16, .inl (jE (e8r S0.1 S0.2.1 S0.2.2.1 S0.2.2.2.1 S0.2.2.2.2.1 S0.2.2.2.2.2.1 S0.2.2.2.2.2.2.1 (nI S0.2.2.2.2.2.2.2.2.length)) (eSt S1)))) := k22 _ _ h55 (Nat.ne_of_beq_eq_false rfl) (hdos _ (List.mem_cons_of_mem _ (List.mem_cons_of_mem _ (List.mem_cons_of_mem _ (List.mem_cons_of_mem _ (List.mem_cons_of_mem _ List.mem_cons_self))))))
              have h57 : f23 le = some (.inl (cI G, 16, .inl (jE (e8r S0.1 S0.2.1 S0.2.2.1 S0.2.2.2.1 S0.2.2.2.2.1 S0.2.2.2.2.2.1 S0.2.2.2.2.2.2.1 (nI S0.2.2.2.2.2.2.2.2.length)) (eSt S1)))) := k25 _ _ h56 (Nat.ne_of_beq_eq_false rfl) (hdos _ (List.mem_cons_of_mem _ (List.mem_cons_of_mem _ (List.mem_cons_of_mem _ (List.mem_cons_of_mem _ (List.mem_cons_of_mem _ List.mem_cons_self))))))
              have h58 : f26 le = some (.inl (cI G, 16, .inl (jE (e8r S0.1 S0.2.1 S0.2.2.1 S0.2.2.2.1 S0.2.2.2.2.1 S0.2.2.2.2.2.1 S0.2.2.2.2.2.2.1 (nI S0.2.2.2.2.2.2.2.2.length)) (eSt S1)))) := k28 _ _ h57 (Nat.ne_of_beq_eq_false rfl) (hdos _ (List.mem_cons_of_mem _ (List.mem_cons_of_mem _ (List.mem_cons_of_mem _ (List.mem_cons_of_mem _ (List.mem_cons_of_mem _ List.mem_cons_self))))))
              exact hp_zret (v := 1) B0 hw hS hr ⟨Nat.le_of_ble_eq_true rfl, Nat.le_of_ble_eq_true rfl⟩ (rfl) dL_links_156 (⟨rfl, S0, S1, (upd gw0 j13 (nI j3 - 1)), ga0, gw1, ga1, hC27, ⟨⟨_, h33, hX0⟩, ⟨_, h38, hX1⟩, h43, h48, h53, h58⟩, ⟨SOK.mono hSo0 (by omega), SOK.mono hSo1 (by omega), (VOK_upd hgw0 (VOK_lo hj4)), hga0, hgw1, hga1⟩, hl0, hl1, ((show hKn [lx, ly, lw, la, lq, le, xo, ez, eo, bu, nw0, na0, nq0, nr0, nw1, na1, nq1, nr1, bs, bp, bh, bf, bl, bg] f f5 from (by rw [ef5]; exact hKn.up (List.mem_cons_of_mem _ (List.mem_cons_of_mem _ List.mem_cons_self)))).tr ((show hKn [lx, ly, lw, la, lq, le, xo, ez, eo, bu, nw0, na0, nq0, nr0, nw1, na1, nq1, nr1, bs, bp, bh, bf, bl, bg] f5 f14 from (hKn.mono k16 sbA)).tr ((show hKn [lx, ly, lw, la, lq, le, xo, ez, eo, bu, nw0, na0, nq0, nr0, nw1, na1, nq1, nr1, bs, bp, bh, bf, bl, bg] f14 f17 from (hKn.mono k19 sbA)).tr ((show hKn [lx, ly, lw, la, lq, le, xo, ez, eo, bu, nw0, na0, nq0, nr0, nw1, na1, nq1, nr1, bs, bp, bh, bf, bl, bg] f17 f20 from (hKn.mono k22 sbA)).tr ((show hKn [lx, ly, lw, la, lq, le, xo, ez, eo, bu, nw0, na0, nq0, nr0, nw1, na1, nq1, nr1, bs, bp, bh, bf, bl, bg] f20 f23 from (hKn.mono k25 sbA)).tr (show hKn [lx, ly, lw, la, lq, le, xo, ez, eo, bu, nw0, na0, nq0, nr0, nw1, na1, nq1, nr1, bs, bp, bh, bf, bl, bg] f23 f26 from (hKn.mono k28 sbA)))))))⟩)

set_option maxHeartbeats 4000000 in
set_option maxRecDepth 100000 in
theorem lk_w_1 {l : Launch} (hl : l.stackTraces = false) (G : hG) (f : hM) (xo ez eo bu nw0 na0 nq0 nr0 nw1 na1 nq1 nr1 bs bp bh bf bl bg : Nat) (S0 : ES) (S1 : ES) (gw0 : Nat → Int32) (ga0 : Nat → Int32) (gw1 : Nat → Int32) (ga1 : Nat → Int32) (n : Nat) (a : Nat) (cg : Nat) (x : Nat) (sa : Nat → Nat) (pk : Nat → Nat) (fl : Nat → Nat) (gv : Nat → Nat) (gh : Nat → Int32) (gl : Nat → Int32) (hC : CXW G f xo ez eo bu nw0 na0 nq0 nr0 nw1 na1 nq1 nr1 bs bp bh bf bl bg S0 S1 gw0 ga0 gw1 ga1 n a cg x sa pk fl gv gh gl) (lx ly lw la lq le : Nat) (hdis : ∀ p, p ∈ [xo, ez, eo, bu, nw0, na0, nq0, nr0, nw1, na1, nq1, nr1, bs, bp, bh, bf, bl, bg] → p ∉ [lx, ly, lw, la, lq, le]) (hdos : ∀ p, p ∈ [lx, ly, lw, la, lq, le] → p ∉ [xo, ez, eo, bu, nw0, na0, nq0, nr0, nw1, na1, nq1, nr1, bs, bp, bh, bf, bl, bg]) (n_lx_ly : lx ≠ ly) (n_lw_la : lw ≠ la) (n_lw_lq : lw ≠ lq) (n_la_lq : la ≠ lq) (hLX : LX G f lx ly lw la lq le S0 S1 gw0 ga0 gw1 ga1) (b : Nat) (hInv : INV b S0 S1 gw0 ga0 gw1 ga1) (hbb : b + 200 ≤ 1000000) (hl0 : S0.2.2.2.2.2.2.2.2.length ≤ 52) (hl1 : S1.2.2.2.2.2.2.2.2.length ≤ 52) (ac : Nat) (hac : ac < 24) (hact : ac ≠ 22 → S0.2.2.2.2.2.2.2.2.length ≤ 40 ∧ S1.2.2.2.2.2.2.2.2.length ≤ 40) (u z : Int32) {p : Program} {e : Env} {s : State} {m : MethodId} {args : Array Value} {below : List Frame} {meth : Method} {c : Code} (B0 : hB p l s m args meth c cL_links 17 RL G) (hr : meth.sig.returnType = some .boolean) {H : Heap} {locs : List Loc} {ls : Array Slot} (hw : hW G f H) (hS : va_S (hFr G) s.heap H locs) (j13 : Nat) (hj13 : j13 < 6) (hl9 : lv_has ls 17 [(13, .int (nI j13)), (12, .ref ly), (11, .int 8), (10, .int 1), (0, .ref xo), (1, .int (nI ac)), (2, .int u), (3, .int z), (4, .ref lx), (5, .ref ly), (6, .ref lw), (7, .ref la), (8, .ref lq), (9, .ref le)]) : W p l e { frames := 9, cells := 203, slots := 1118, locals := 178 } s m args below meth c H locs 0 0 (vx_MQ below (hQ G (fun v f1 => v = some (.int 1) ∧ ∃ (S2 S3 : ES) (w0 a0 w1 a1 : Nat → Int32), CXW G f1 xo ez eo bu nw0 na0 nq0 nr0 nw1 na1 nq1 nr1 bs bp bh bf bl bg S2 S3 w0 a0 w1 a1 n a cg x sa pk fl gv gh gl ∧ LX G f1 lx ly lw la lq le S2 S3 w0 a0 w1 a1 ∧ INV (b + 100) S2 S3 w0 a0 w1 a1 ∧ S2.2.2.2.2.2.2.2.2.length ≤ 52 ∧ S3.2.2.2.2.2.2.2.2.length ≤ 52 ∧ hKn [lx, ly, lw, la, lq, le, xo, ez, eo, bu, nw0, na0, nq0, nr0, nw1, na1, nq1, nr1, bs, bp, bh, bf, bl, bg] f f1)) (hX G (fun E f1 => False)) args s 203 1118 (hFr G)) (F0 m 39 ls []) := by
  have hx := B0.1
  have hb := B0.2.1
  obtain ⟨⟨xs0, k_lx, hX0⟩, ⟨xs1, k_ly, hX1⟩, k_lw, k_la, k_lq, k_le⟩ := hLX
  obtain ⟨hSo0, hSo1, hgw0, hga0, hgw1, hga1⟩ := id hInv
  have n_lx_lw : lx ≠ lw := hneL k_lx k_lw (Nat.ne_of_beq_eq_false rfl)
  have n_lx_la : lx ≠ la := hneL k_lx k_la (Nat.ne_of_beq_eq_false rfl)
  have n_lx_lq : lx ≠ lq := hneL k_lx k_lq (Nat.ne_of_beq_eq_false rfl)
  have n_lx_le : lx ≠ le := hneL k_lx k_le (Nat.ne_of_beq_eq_false rfl)
  have n_ly_lw : ly ≠ lw := hneL k_ly k_lw (Nat.ne_of_beq_eq_false rfl)
  have n_ly_la : ly ≠ la := hneL k_ly k_la (Nat.ne_of_beq_eq_false rfl)
  have n_ly_lq : ly ≠ lq := hneL k_ly k_lq (Nat.ne_of_beq_eq_false rfl)
  have n_ly_le : ly ≠ le := hneL k_ly k_le (Nat.ne_of_beq_eq_false rfl)
  have n_lw_le : lw ≠ le := hneL k_lw k_le (Nat.ne_of_beq_eq_false rfl)
  have n_la_le : la ≠ le := hneL k_la k_le (Nat.ne_of_beq_eq_false rfl)
  have n_lq_le : lq ≠ le := hneL k_lq k_le (Nat.ne_of_beq_eq_false rfl)
  have sbA : ∀ x9, x9 ∈ [xo, ez, eo, bu, nw0, na0, nq0, nr0, nw1, na1, nq1, nr1, bs, bp, bh, bf, bl, bg] → x9 ∈ [lx, ly, lw, la, lq, le, xo, ez, eo, bu, nw0, na0, nq0, nr0, nw1, na1, nq1, nr1, bs, bp, bh, bf, bl, bg] := (sub_cons (List.mem_cons_of_mem _ (List.mem_cons_of_mem _ (List.mem_cons_of_mem _ (List.mem_cons_of_mem _ (List.mem_cons_of_mem _ (List.mem_cons_of_mem _ List.mem_cons_self)))))) (sub_cons (List.mem_cons_of_mem _ (List.mem_cons_of_mem _ (List.mem_cons_of_mem _ (List.mem_cons_of_mem _ (List.mem_cons_of_mem _ (List.mem_cons_of_mem _ (List.mem_cons_of_mem _ List.mem_cons_self))))))) (sub_cons (List.mem_cons_of_mem _ (List.mem_cons_of_mem _ (List.mem_cons_of_mem _ (List.mem_cons_of_mem _ (List.mem_cons_of_mem _ (List.mem_cons_of_mem _ (List.mem_cons_of_mem _ (List.mem_cons_of_mem _ List.mem_cons_self)))))))) (sub_cons (List.mem_cons_of_mem _ (List.mem_cons_of_mem _ (List.mem_cons_of_mem _ (List.mem_cons_of_mem _ (List.mem_cons_of_mem _ (List.mem_cons_of_mem _ (List.mem_cons_of_mem _ (List.mem_cons_of_mem _ (List.mem_cons_of_mem _ List.mem_cons_self))))))))) (sub_cons (List.mem_cons_of_mem _ (List.mem_cons_of_mem _ (List.mem_cons_of_mem _ (List.mem_cons_of_mem _ (List.mem_cons_of_mem _ (List.mem_cons_of_mem _ (List.mem_cons_of_mem _ (List.mem_cons_of_mem _ (List.mem_cons_of_mem _ (List.mem_cons_of_mem _ List.mem_cons_self)))))))))) (sub_cons (List.mem_cons_of_mem _ (List.mem_cons_of_mem _ (List.mem_cons_of_mem _ (List.mem_cons_of_mem _ (List.mem_cons_of_mem _ (List.mem_cons_of_mem _ (List.mem_cons_of_mem _ (List.mem_cons_of_mem _ (List.mem_cons_of_mem _ (List.mem_cons_of_mem _ (List.mem_cons_of_mem _ List.mem_cons_self))))))))))) (sub_cons (List.mem_cons_of_mem _ (List.mem_cons_of_mem _ (List.mem_cons_of_mem _ (List.mem_cons_of_mem _ (List.mem_cons_of_mem _ (List.mem_cons_of_mem _ (List.mem_cons_of_mem _ (List.mem_cons_of_mem _ (List.mem_cons_of_mem _ (List.mem_cons_of_mem _ (List.mem_cons_of_mem _ (List.mem_cons_of_mem _ List.mem_cons_self)))))))))))) (sub_cons (List.mem_cons_of_mem _ (List.mem_cons_of_mem _ (List.mem_cons_of_mem _ (List.mem_cons_of_mem _ (List.mem_cons_of_mem _ (List.mem_cons_of_mem _ (List.mem_cons_of_mem _ (List.mem_cons_of_mem _ (List.mem_cons_of_mem _ (List.mem_cons_of_mem _ (List.mem_cons_of_mem _ (List.mem_cons_of_mem _ (List.mem_cons_of_mem _ List.mem_cons_self))))))))))))) (sub_cons (List.mem_cons_of_mem _ (List.mem_cons_of_mem _ (List.mem_cons_of_mem _ (List.mem_cons_of_mem _ (List.mem_cons_of_mem _ (List.mem_cons_of_mem _ (List.mem_cons_of_mem _ (List.mem_cons_of_mem _ (List.mem_cons_of_mem _ (List.mem_cons_of_mem _ (List.mem_cons_of_mem _ (List.mem_cons_of_mem _ (List.mem_cons_of_mem _ (List.mem_cons_of_mem _ List.mem_cons_self)))))))))))))) (sub_cons (List.mem_cons_of_mem _ (List.mem_cons_of_mem _ (List.mem_cons_of_mem _ (List.mem_cons_of_mem _ (List.mem_cons_of_mem _ (List.mem_cons_of_mem _ (List.mem_cons_of_mem _ (List.mem_cons_of_mem _ (List.mem_cons_of_mem _ (List.mem_cons_of_mem _ (List.mem_cons_of_mem _ (List.mem_cons_of_mem _ (List.mem_cons_of_mem _ (List.mem_cons_of_mem _ (List.mem_cons_of_mem _ List.mem_cons_self))))))))))))))) (sub_cons (List.mem_cons_of_mem _ (List.mem_cons_of_mem _ (List.mem_cons_of_mem _ (List.mem_cons_of_mem _ (List.mem_cons_of_mem _ (List.mem_cons_of_mem _ (List.mem_cons_of_mem _ (List.mem_cons_of_mem _ (List.mem_cons_of_mem _ (List.mem_cons_of_mem _ (List.mem_cons_of_mem _ (List.mem_cons_of_mem _ (List.mem_cons_of_mem _ (List.mem_cons_of_mem _ (List.mem_cons_of_mem _ (List.mem_cons_of_mem _ List.mem_cons_self)))))))))))))))) (sub_cons (List.mem_cons_of_mem _ (List.mem_cons_of_mem _ (List.mem_cons_of_mem _ (List.mem_cons_of_mem _ (List.mem_cons_of_mem _ (List.mem_cons_of_mem _ (List.mem_cons_of_mem _ (List.mem_cons_of_mem _ (List.mem_cons_of_mem _ (List.mem_cons_of_mem _ (List.mem_cons_of_mem _ (List.mem_cons_of_mem _ (List.mem_cons_of_mem _ (List.mem_cons_of_mem _ (List.mem_cons_of_mem _ (List.mem_cons_of_mem _ (List.mem_cons_of_mem _ List.mem_cons_self))))))))))))))))) (sub_cons (List.mem_cons_of_mem _ (List.mem_cons_of_mem _ (List.mem_cons_of_mem _ (List.mem_cons_of_mem _ (List.mem_cons_of_mem _ (List.mem_cons_of_mem _ (List.mem_cons_of_mem _ (List.mem_cons_of_mem _ (List.mem_cons_of_mem _ (List.mem_cons_of_mem _ (List.mem_cons_of_mem _ (List.mem_cons_of_mem _ (List.mem_cons_of_mem _ (List.mem_cons_of_mem _ (List.mem_cons_of_mem _ (List.mem_cons_of_mem _ (List.mem_cons_of_mem _ (List.mem_cons_of_mem _ List.mem_cons_self)))))))))))))))))) (sub_cons (List.mem_cons_of_mem _ (List.mem_cons_of_mem _ (List.mem_cons_of_mem _ (List.mem_cons_of_mem _ (List.mem_cons_of_mem _ (List.mem_cons_of_mem _ (List.mem_cons_of_mem _ (List.mem_cons_of_mem _ (List.mem_cons_of_mem _ (List.mem_cons_of_mem _ (List.mem_cons_of_mem _ (List.mem_cons_of_mem _ (List.mem_cons_of_mem _ (List.mem_cons_of_mem _ (List.mem_cons_of_mem _ (List.mem_cons_of_mem _ (List.mem_cons_of_mem _ (List.mem_cons_of_mem _ (List.mem_cons_of_mem _ List.mem_cons_self))))))))))))))))))) (sub_cons (List.mem_cons_of_mem _ (List.mem_cons_of_mem _ (List.mem_cons_of_mem _ (List.mem_cons_of_mem _ (List.mem_cons_of_mem _ (List.mem_cons_of_mem _ (List.mem_cons_of_mem _ (List.mem_cons_of_mem _ (List.mem_cons_of_mem _ (List.mem_cons_of_mem _ (List.mem_cons_of_mem _ (List.mem_cons_of_mem _ (List.mem_cons_of_mem _ (List.mem_cons_of_mem _ (List.mem_cons_of_mem _ (List.mem_cons_of_mem _ (List.mem_cons_of_mem _ (List.mem_cons_of_mem _ (List.mem_cons_of_mem _ (List.mem_cons_of_mem _ List.mem_cons_self)))))))))))))))))))) (sub_cons (List.mem_cons_of_mem _ (List.mem_cons_of_mem _ (List.mem_cons_of_mem _ (List.mem_cons_of_mem _ (List.mem_cons_of_mem _ (List.mem_cons_of_mem _ (List.mem_cons_of_mem _ (List.mem_cons_of_mem _ (List.mem_cons_of_mem _ (List.mem_cons_of_mem _ (List.mem_cons_of_mem _ (List.mem_cons_of_mem _ (List.mem_cons_of_mem _ (List.mem_cons_of_mem _ (List.mem_cons_of_mem _ (List.mem_cons_of_mem _ (List.mem_cons_of_mem _ (List.mem_cons_of_mem _ (List.mem_cons_of_mem _ (List.mem_cons_of_mem _ (List.mem_cons_of_mem _ List.mem_cons_self))))))))))))))))))))) (sub_cons (List.mem_cons_of_mem _ (List.mem_cons_of_mem _ (List.mem_cons_of_mem _ (List.mem_cons_of_mem _ (List.mem_cons_of_mem _ (List.mem_cons_of_mem _ (List.mem_cons_of_mem _ (List.mem_cons_of_mem _ (List.mem_cons_of_mem _ (List.mem_cons_of_mem _ (List.mem_cons_of_mem _ (List.mem_cons_of_mem _ (List.mem_cons_of_mem _ (List.mem_cons_of_mem _ (List.mem_cons_of_mem _ (List.mem_cons_of_mem _ (List.mem_cons_of_mem _ (List.mem_cons_of_mem _ (List.mem_cons_of_mem _ (List.mem_cons_of_mem _ (List.mem_cons_of_mem _ (List.mem_cons_of_mem _ List.mem_cons_self)))))))))))))))))))))) (sub_cons (List.mem_cons_of_mem _ (List.mem_cons_of_mem _ (List.mem_cons_of_mem _ (List.mem_cons_of_mem _ (List.mem_cons_of_mem _ (List.mem_cons_of_mem _ (List.mem_cons_of_mem _ (List.mem_cons_of_mem _ (List.mem_cons_of_mem _ (List.mem_cons_of_mem _ (List.mem_cons_of_mem _ (List.mem_cons_of_mem _ (List.mem_cons_of_mem _ (List.mem_cons_of_mem _ (List.mem_cons_of_mem _ (List.mem_cons_of_mem _ (List.mem_cons_of_mem _ (List.mem_cons_of_mem _ (List.mem_cons_of_mem _ (List.mem_cons_of_mem _ (List.mem_cons_of_mem _ (List.mem_cons_of_mem _ (List.mem_cons_of_mem _ List.mem_cons_self))))))))))))))))))))))) sub_nil))))))))))))))))))
  obtain ⟨xx, hxx, hx4⟩ := hSo1.2.2.2.2.1
  have h1 : f le = some (.inl (cI G, 16, .inl (jE (eSt S0) (e8r S1.1 S1.2.1 S1.2.2.1 S1.2.2.2.1 S1.2.2.2.2.1 S1.2.2.2.2.2.1 S1.2.2.2.2.2.2.1 (nI S1.2.2.2.2.2.2.2.2.length))))) := k_le
  refine lv_iload_n hx hb dL_links_39 rfl (lv_at hl9 7 rfl) ?_
  refine lv_iconst (v := 3) hx hb dL_links_40 (by decide) ?_
  refine lv_ishr hx hb dL_links_41 ?_
  refine lv_bipush (v := 11) hx hb dL_links_42 (by decide) ?_
  refine hp_S (As := [.int (z >>> (3 &&& 31)), .int 11]) (rest := []) B0 hw hS (c_L_low hl G f (z >>> (3 &&& 31)) 11 (by omega) (by omega)) mS_L_low qM_L_94 rfl rfl hl9.1 (Nat.le_of_ble_eq_true rfl) ⟨⟨Nat.le_of_ble_eq_true rfl, Nat.le_of_ble_eq_true rfl⟩, Nat.le_of_ble_eq_true rfl, Nat.le_of_ble_eq_true rfl⟩ dL_links_44 (fun E ce q9 f2 H locs hPX hw hS hce hcv hcl => ?_) (fun v f2 H locs hP hw hS => ?_)
  · exact hPX.elim
  · obtain ⟨ef9, j3, hj4, ev9⟩ := hP
    rw [ef9] at hw
    subst ev9
    refine W.eq (g2 := F0 m 47 ls [.int (nI j3)]) rfl ?_
    refine lv_iconst (v := 1) hx hb dL_links_47 (by decide) ?_
    refine lv_isub hx hb dL_links_48 ?_
    refine hp_c (v := (nI j3 - 1)) (rfl) ?_
    refine lv_istore (lv' := [(14, .int (nI j3 - 1)), (13, .int (nI j13)), (12, .ref ly), (11, .int 8), (10, .int 1), (0, .ref xo), (1, .int (nI ac)), (2, .int u), (3, .int z), (4, .ref lx), (5, .ref ly), (6, .ref lw), (7, .ref la), (8, .ref lq), (9, .ref le)]) hx hb dL_links_49 hl9 (by decide) rfl (fun ls hl9 => ?_)
    refine lv_aload hx hb dL_links_51 (lv_at hl9 11 rfl) ?_
    refine lv_bipush (v := 6) hx hb dL_links_53 (by decide) ?_
    refine lv_iload hx hb dL_links_55 (lv_at hl9 4 rfl) ?_
    refine lv_imul hx hb dL_links_57 ?_
    refine hp_c (v := 6) (by decide) ?_
    refine lv_iload hx hb dL_links_58 (lv_at hl9 1 rfl) ?_
    refine lv_iadd hx hb dL_links_60 ?_
    refine hp_c (v := (nI (6 + j13))) (nI_add 6 j13) ?_
    refine hp_iald B0 hw k_lw (vp_in_nI (show 6 + j13 < 12 by omega) (by omega)) dL_links_61 ?_
    refine hp_c (v := (gw1 j13)) ((by rw [nI_clamp (by omega)]; exact j6_1)) ?_
    refine lv_istore (lv' := [(15, .int (gw1 j13)), (14, .int (nI j3 - 1)), (13, .int (nI j13)), (12, .ref ly), (11, .int 8), (10, .int 1), (0, .ref xo), (1, .int (nI ac)), (2, .int u), (3, .int z), (4, .ref lx), (5, .ref ly), (6, .ref lw), (7, .ref la), (8, .ref lq), (9, .ref le)]) hx hb dL_links_62 hl9 (by decide) rfl (fun ls hl9 => ?_)
    refine lv_aload hx hb dL_links_64 (lv_at hl9 12 rfl) ?_
    refine lv_bipush (v := 6) hx hb dL_links_66 (by decide) ?_
    refine lv_iload hx hb dL_links_68 (lv_at hl9 5 rfl) ?_
    refine lv_imul hx hb dL_links_70 ?_
    refine hp_c (v := 6) (by decide) ?_
    refine lv_iload hx hb dL_links_71 (lv_at hl9 2 rfl) ?_
    refine lv_iadd hx hb dL_links_73 ?_
    refine hp_c (v := (nI (6 + j13))) (nI_add 6 j13) ?_
    refine lv_iload hx hb dL_links_74 (lv_at hl9 1 rfl) ?_
    refine hp_iast B0 hw hS k_lw (vp_in_nI (show 6 + j13 < 12 by omega) (by omega)) dL_links_76 (fun H locs f5 ef5 hw hS => ?_)
    rw [show (upd (j6r gw0 gw1) ((nI (6 + j13)) : Int32).toNatClampNeg (nI j3 - 1) : Nat → Int32) = (j6r gw0 (upd gw1 j13 (nI j3 - 1))) from (by rw [nI_clamp (by omega), j6_u1])] at ef5
    have h6 : f5 lw = some (.inl (cI G, 12, .inl (j6r gw0 (upd gw1 j13 (nI j3 - 1))))) := by rw [ef5, va_up_self]
    refine lv_aload_n hx hb dL_links_77 rfl (lv_at hl9 6 rfl) ?_
    refine lv_iconst (v := 2) hx hb dL_links_78 (by decide) ?_
    refine lv_iload hx hb dL_links_79 (lv_at hl9 2 rfl) ?_
    refine lv_bipush (v := 10) hx hb dL_links_81 (by decide) ?_
    have h7 : f5 lx = some (.inl (cJ G, 64, .inr (.inl xs0))) := by rw [ef5, va_up_ne _ _ n_lx_lw]; exact k_lx
    have h8 : f5 ly = some (.inl (cJ G, 64, .inr (.inl xs1))) := by rw [ef5, va_up_ne _ _ n_ly_lw]; exact k_ly
    have h10 : f5 la = some (.inl (cI G, 12, .inl (j6r ga0 ga1))) := by rw [ef5, va_up_ne _ _ (Ne.symm n_lw_la)]; exact k_la
    have h11 : f5 lq = some (.inl (cI G, 12, .inl (j6r S0.2.2.2.2.2.2.2.1 S1.2.2.2.2.2.2.2.1))) := by rw [ef5, va_up_ne _ _ (Ne.symm n_lw_lq)]; exact k_lq
    have h12 : f5 le = some (.inl (cI G, 16, .inl (jE (eSt S0) (e8r S1.1 S1.2.1 S1.2.2.1 S1.2.2.2.1 S1.2.2.2.2.1 S1.2.2.2.2.2.1 S1.2.2.2.2.2.2.1 (nI S1.2.2.2.2.2.2.2.2.length))))) := by rw [ef5, va_up_ne _ _ (Ne.symm n_lw_le)]; exact h1
    have hC13 : CXW G f5 xo ez eo bu nw0 na0 nq0 nr0 nw1 na1 nq1 nr1 bs bp bh bf bl bg S0 S1 gw0 ga0 gw1 ga1 n a cg x sa pk fl gv gh gl := CXW.eq hC (show hEq [lx, ly, lw, la, lq, le] f f5 from (by rw [ef5]; exact hEq.up (List.mem_cons_of_mem _ (List.mem_cons_of_mem _ List.mem_cons_self)))) hdis (fun b9 hb9 => by
        simp only [List.mem_cons, List.not_mem_nil, or_false] at hb9
        rcases hb9 with hb9 | hb9 | hb9 | hb9 | hb9 | hb9
        · rw [hb9]; exact ⟨_, _, k_lx, h7, (Nat.ne_of_beq_eq_false rfl), (Nat.ne_of_beq_eq_false rfl)⟩
        · rw [hb9]; exact ⟨_, _, k_ly, h8, (Nat.ne_of_beq_eq_false rfl), (Nat.ne_of_beq_eq_false rfl)⟩
        · rw [hb9]; exact ⟨_, _, k_lw, h6, (Nat.ne_of_beq_eq_false rfl), (Nat.ne_of_beq_eq_false rfl)⟩
        · rw [hb9]; exact ⟨_, _, k_la, h10, (Nat.ne_of_beq_eq_false rfl), (Nat.ne_of_beq_eq_false rfl)⟩
        · rw [hb9]; exact ⟨_, _, k_lq, h11, (Nat.ne_of_beq_eq_false rfl), (Nat.ne_of_beq_eq_false rfl)⟩
        · rw [hb9]; exact ⟨_, _, h1, h12, (Nat.ne_of_beq_eq_false rfl), (Nat.ne_of_beq_eq_false rfl)⟩)
    refine hp_SH (As := [.ref xo, .int 2, .int (nI j13), .int 10]) (rest := []) B0 hw hS (c_V_wish_E hl G f5 xo ez eo bu nw0 na0 nq0 nr0 nw1 na1 nq1 nr1 bs bp bh bf bl bg S0 S1 gw0 ga0 gw1 ga1 n a cg x sa pk fl gv gh gl hC13 (Nat.lt_of_le_of_lt hl0 (by decide)) (Nat.lt_of_le_of_lt hl1 (by decide)) 2 (nI j13) 10 (by decide)) mH_L_wish qM_L_97 rfl rfl hl9.1 (Nat.le_of_ble_eq_true rfl) ⟨⟨Nat.le_of_ble_eq_true rfl, Nat.le_of_ble_eq_true rfl⟩, Nat.le_of_ble_eq_true rfl, Nat.le_of_ble_eq_true rfl⟩ dL_links_83 (fun E ce q9 f14 H locs hPX hw hS hce hcv hcl => ?_) (fun v f14 H locs hP hw hS => ?_)
    · exact hPX.elim
    · obtain ⟨ev9, hC15, k16⟩ := hP
      subst ev9
      have hC15 : CXW G f14 xo ez eo bu nw0 na0 nq0 nr0 nw1 na1 nq1 nr1 bs bp bh bf bl bg S0 S1 gw0 ga0 gw1 ga1 n a cg x sa pk fl gv gh gl := hC15
      refine W.eq (g2 := F0 m 86 ls [.int (-71)]) rfl ?_
      refine lv_bipush (v := (-71)) hx hb dL_links_86 (by decide) ?_
      refine lv_icmp_ne (tgt := 155) hx hb dL_links_88 (by decide) (fun c9 => absurd (by decide) c9) (fun _ => ?_)
      refine lv_aload_n hx hb dL_links_91 rfl (lv_at hl9 6 rfl) ?_
      refine lv_iload hx hb dL_links_92 (lv_at hl9 5 rfl) ?_
      refine lv_bipush (v := 6) hx hb dL_links_94 (by decide) ?_
      refine lv_iload hx hb dL_links_96 (lv_at hl9 1 rfl) ?_
      refine hp_SH (As := [.ref xo, .int 1, .int 6, .int (nI j3 - 1)]) (rest := []) B0 hw hS (c_V_wish_O1 hl G f14 xo ez eo bu nw0 na0 nq0 nr0 nw1 na1 nq1 nr1 bs bp bh bf bl bg S0 S1 gw0 ga0 gw1 ga1 n a cg x sa pk fl gv gh gl hC15 (Nat.lt_of_le_of_lt hl0 (by decide)) (Nat.lt_of_le_of_lt hl1 (by decide)) 6 (nI j3 - 1) (by decide)) mH_L_wish qM_L_97 rfl rfl hl9.1 (Nat.le_of_ble_eq_true rfl) ⟨⟨Nat.le_of_ble_eq_true rfl, Nat.le_of_ble_eq_true rfl⟩, Nat.le_of_ble_eq_true rfl, Nat.le_of_ble_eq_true rfl⟩ dL_links_98 (fun E ce q9 f17 H locs hPX hw hS hce hcv hcl => ?_) (fun v f17 H locs hP hw hS => ?_)
      · exact hPX.elim
      · obtain ⟨ev9, hC18, k19⟩ := hP
        subst ev9
        have hC18 : CXW G f17 xo ez eo bu nw0 na0 nq0 nr0 nw1 na1 nq1 nr1 bs bp bh bf bl bg S0 S1 gw0 ga0 gw1 ga1 n a cg x sa pk fl gv gh gl := hC18
        refine W.eq (g2 := F0 m 101 ls [.int (-71)]) rfl ?_
        refine lv_bipush (v := (-71)) hx hb dL_links_101 (by decide) ?_
        refine lv_icmp_ne (tgt := 155) hx hb dL_links_103 (by decide) (fun c9 => absurd (by decide) c9) (fun _ => ?_)
        refine lv_aload_n hx hb dL_links_106 rfl (lv_at hl9 6 rfl) ?_
        refine lv_iload hx hb dL_links_107 (lv_at hl9 5 rfl) ?_
        refine lv_iload hx hb dL_links_109 (lv_at hl9 2 rfl) ?_
        refine lv_bipush (v := 10) hx hb dL_links_111 (by decide) ?_
        refine hp_SH (As := [.ref xo, .int 1, .int (nI j13), .int 10]) (rest := []) B0 hw hS (c_V_wish_V1 hl G f17 xo ez eo bu nw0 na0 nq0 nr0 nw1 na1 nq1 nr1 bs bp bh bf bl bg S0 S1 gw0 ga0 gw1 ga1 n a cg x sa pk fl gv gh gl hC18 (Nat.lt_of_le_of_lt hl0 (by decide)) (Nat.lt_of_le_of_lt hl1 (by decide)) j13 (by omega) 10 (by decide)) mH_L_wish qM_L_97 rfl rfl hl9.1 (Nat.le_of_ble_eq_true rfl) ⟨⟨Nat.le_of_ble_eq_true rfl, Nat.le_of_ble_eq_true rfl⟩, Nat.le_of_ble_eq_true rfl, Nat.le_of_ble_eq_true rfl⟩ dL_links_113 (fun E ce q9 f20 H locs hPX hw hS hce hcv hcl => ?_) (fun v f20 H locs hP hw hS => ?_)
        · exact hPX.elim
        · obtain ⟨ev9, hC21, k22⟩ := hP
          subst ev9
          have hC21 : CXW G f20 xo ez eo bu nw0 na0 nq0 nr0 nw1 na1 nq1 nr1 bs bp bh bf bl bg S0 S1 gw0 ga0 gw1 ga1 n a cg x sa pk fl gv gh gl := hC21
          refine W.eq (g2 := F0 m 116 ls [.int (-72)]) rfl ?_
          refine lv_bipush (v := (-72)) hx hb dL_links_116 (by decide) ?_
          refine lv_icmp_ne (tgt := 155) hx hb dL_links_118 (by decide) (fun c9 => absurd (by decide) c9) (fun _ => ?_)
          refine lv_aload_n hx hb dL_links_121 rfl (lv_at hl9 6 rfl) ?_
          refine lv_iload hx hb dL_links_122 (lv_at hl9 5 rfl) ?_
          refine lv_iload hx hb dL_links_124 (lv_at hl9 2 rfl) ?_
          refine lv_bipush (v := (-2)) hx hb dL_links_126 (by decide) ?_
          refine hp_SH (As := [.ref xo, .int 1, .int (nI j13), .int (-2)]) (rest := []) B0 hw hS (c_V_wish_V1 hl G f20 xo ez eo bu nw0 na0 nq0 nr0 nw1 na1 nq1 nr1 bs bp bh bf bl bg S0 S1 gw0 ga0 gw1 ga1 n a cg x sa pk fl gv gh gl hC21 (Nat.lt_of_le_of_lt hl0 (by decide)) (Nat.lt_of_le_of_lt hl1 (by decide)) j13 (by omega) (-2) (by decide)) mH_L_wish qM_L_97 rfl rfl hl9.1 (Nat.le_of_ble_eq_true rfl) ⟨⟨Nat.le_of_ble_eq_true rfl, Nat.le_of_ble_eq_true rfl⟩, Nat.le_of_ble_eq_true rfl, Nat.le_of_ble_eq_true rfl⟩ dL_links_128 (fun E ce q9 f23 H locs hPX hw hS hce hcv hcl => ?_) (fun v f23 H locs hP hw hS => ?_)
          · exact hPX.elim
          · obtain ⟨ev9, hC24, k25⟩ := hP
            subst ev9
            have hC24 : CXW G f23 xo ez eo bu nw0 na0 nq0 nr0 nw1 na1 nq1 nr1 bs bp bh bf bl bg S0 S1 gw0 ga0 gw1 ga1 n a cg x sa pk fl gv gh gl := hC24
            refine W.eq (g2 := F0 m 131 ls [.int (-72)]) rfl ?_
            refine lv_bipush (v := (-72)) hx hb dL_links_131 (by decide) ?_
            refine lv_icmp_ne (tgt := 155) hx hb dL_links_133 (by decide) (fun c9 => absurd (by decide) c9) (fun _ => ?_)
            refine lv_aload_n hx hb dL_links_136 rfl (lv_at hl9 6 rfl) ?_
            refine lv_iload hx hb dL_links_137 (lv_at hl9 5 rfl) ?_
            refine lv_iload hx hb dL_links_139 (lv_at hl9 2 rfl) ?_
            refine lv_iload hx hb dL_links_141 (lv_at hl9 1 rfl) ?_
            refine hp_SH (As := [.ref xo, .int 1, .int (nI j13), .int (nI j3 - 1)]) (rest := []) B0 hw hS (c_V_wish_1 hl G f23 xo ez eo bu nw0 na0 nq0 nr0 nw1 na1 nq1 nr1 bs bp bh bf bl bg S0 S1 gw0 ga0 gw1 ga1 n a cg x sa pk fl gv gh gl hC24 (Nat.lt_of_le_of_lt hl0 (by decide)) (Nat.lt_of_le_of_lt hl1 (by decide)) j13 (by omega) (nI j3 - 1) (VOK_lo hj4)) mH_L_wish qM_L_97 rfl rfl hl9.1 (Nat.le_of_ble_eq_true rfl) ⟨⟨Nat.le_of_ble_eq_true rfl, Nat.le_of_ble_eq_true rfl⟩, Nat.le_of_ble_eq_true rfl, Nat.le_of_ble_eq_true rfl⟩ dL_links_143 (fun E ce q9 f26 H locs hPX hw hS hce hcv hcl => ?_) (fun v f26 H locs hP hw hS => ?_)
            · exact hPX.elim
            · obtain ⟨ev9, hC27, k28⟩ := hP
              subst ev9
              have hC27 : CXW G f26 xo ez eo bu nw0 na0 nq0 nr0 nw1 na1 nq1 nr1 bs bp bh bf bl bg S0 S1 gw0 ga0 (upd gw1 j13 (nI j3 - 1)) ga1 n a cg x sa pk fl gv gh gl := hC27
              refine W.eq (g2 := F0 m 146 ls [.int ((gw1 j13))]) rfl ?_
              refine lv_iload hx hb dL_links_146 (lv_at hl9 0 rfl) ?_
              refine lv_icmp_ne (tgt := 155) hx hb dL_links_148 (by decide) (fun c9 => absurd rfl c9) (fun _ => ?_)
              refine lv_iconst (v := 1) hx hb dL_links_151 (by decide) ?_
              refine lv_goto (tgt := 156) hx hb dL_links_152 (by decide) ?_
              have h29 : f14 lx = some (.inl (cJ G, 64, .inr (.inl xs0))) := k16 _ _ h7 (Nat.ne_of_beq_eq_false rfl) (hdos _ List.mem_cons_self)
              have h30 : f17 lx = some (.inl (cJ G, 64, .inr (.inl xs0))) := k19 _ _ h29 (Nat.ne_of_beq_eq_false rfl) (hdos _ List.mem_cons_self)
              have h31 : f20 lx = some (.inl (cJ G, 64, .inr (.inl xs0))) := k22 _ _ h30 (Nat.ne_of_beq_eq_false rfl) (hdos _ List.mem_cons_self)
              have h32 : f23 lx = some (.inl (cJ G, 64, .inr (.inl xs0))) := k25 _ _ h31 (Nat.ne_of_beq_eq_false rfl) (hdos _ List.mem_cons_self)
              have h33 : f26 lx = some (.inl (cJ G, 64, .inr (.inl xs0))) := k28 _ _ h32 (Nat.ne_of_beq_eq_false rfl) (hdos _ List.mem_cons_self)
              have h34 : f14 ly = some (.inl (cJ G, 64, .inr (.inl xs1))) := k16 _ _ h8 (Nat.ne_of_beq_eq_false rfl) (hdos _ (List.mem_cons_of_mem _ List.mem_cons_self))
              have h35 : f17 ly = some (.inl (cJ G, 64, .inr (.inl xs1))) := k19 _ _ h34 (Nat.ne_of_beq_eq_false rfl) (hdos _ (List.mem_cons_of_mem _ List.mem_cons_self))
              have h36 : f20 ly = some (.inl (cJ G, 64, .inr (.inl xs1))) := k22 _ _ h35 (Nat.ne_of_beq_eq_false rfl) (hdos _ (List.mem_cons_of_mem _ List.mem_cons_self))
              have h37 : f23 ly = some (.inl (cJ G, 64, .inr (.inl xs1))) := k25 _ _ h36 (Nat.ne_of_beq_eq_false rfl) (hdos _ (List.mem_cons_of_mem _ List.mem_cons_self))
              have h38 : f26 ly = some (.inl (cJ G, 64, .inr (.inl xs1))) := k28 _ _ h37 (Nat.ne_of_beq_eq_false rfl) (hdos _ (List.mem_cons_of_mem _ List.mem_cons_self))
              have h39 : f14 lw = some (.inl (cI G, 12, .inl (j6r gw0 (upd gw1 j13 (nI j3 - 1))))) := k16 _ _ h6 (Nat.ne_of_beq_eq_false rfl) (hdos _ (List.mem_cons_of_mem _ (List.mem_cons_of_mem _ List.mem_cons_self)))
              have h40 : f17 lw = some (.inl (cI G, 12, .inl (j6r gw0 (upd gw1 j13 (nI j3 - 1))))) := k19 _ _ h39 (Nat.ne_of_beq_eq_false rfl) (hdos _ (List.mem_cons_of_mem _ (List.mem_cons_of_mem _ List.mem_cons_self)))
              have h41 : f20 lw = some (.inl (cI G, 12, .inl (j6r gw0 (upd gw1 j13 (nI j3 - 1))))) := k22 _ _ h40 (Nat.ne_of_beq_eq_false rfl) (hdos _ (List.mem_cons_of_mem _ (List.mem_cons_of_mem _ List.mem_cons_self)))
              have h42 : f23 lw = some (.inl (cI G, 12, .inl (j6r gw0 (upd gw1 j13 (nI j3 - 1))))) := k25 _ _ h41 (Nat.ne_of_beq_eq_false rfl) (hdos _ (List.mem_cons_of_mem _ (List.mem_cons_of_mem _ List.mem_cons_self)))
              have h43 : f26 lw = some (.inl (cI G, 12, .inl (j6r gw0 (upd gw1 j13 (nI j3 - 1))))) := k28 _ _ h42 (Nat.ne_of_beq_eq_false rfl) (hdos _ (List.mem_cons_of_mem _ (List.mem_cons_of_mem _ List.mem_cons_self)))
              have h44 : f14 la = some (.inl (cI G, 12, .inl (j6r ga0 ga1))) := k16 _ _ h10 (Nat.ne_of_beq_eq_false rfl) (hdos _ (List.mem_cons_of_mem _ (List.mem_cons_of_mem _ (List.mem_cons_of_mem _ List.mem_cons_self))))
              have h45 : f17 la = some (.inl (cI G, 12, .inl (j6r ga0 ga1))) := k19 _ _ h44 (Nat.ne_of_beq_eq_false rfl) (hdos _ (List.mem_cons_of_mem _ (List.mem_cons_of_mem _ (List.mem_cons_of_mem _ List.mem_cons_self))))
              have h46 : f20 la = some (.inl (cI G, 12, .inl (j6r ga0 ga1))) := k22 _ _ h45 (Nat.ne_of_beq_eq_false rfl) (hdos _ (List.mem_cons_of_mem _ (List.mem_cons_of_mem _ (List.mem_cons_of_mem _ List.mem_cons_self))))
              have h47 : f23 la = some (.inl (cI G, 12, .inl (j6r ga0 ga1))) := k25 _ _ h46 (Nat.ne_of_beq_eq_false rfl) (hdos _ (List.mem_cons_of_mem _ (List.mem_cons_of_mem _ (List.mem_cons_of_mem _ List.mem_cons_self))))
              have h48 : f26 la = some (.inl (cI G, 12, .inl (j6r ga0 ga1))) := k28 _ _ h47 (Nat.ne_of_beq_eq_false rfl) (hdos _ (List.mem_cons_of_mem _ (List.mem_cons_of_mem _ (List.mem_cons_of_mem _ List.mem_cons_self))))
              have h49 : f14 lq = some (.inl (cI G, 12, .inl (j6r S0.2.2.2.2.2.2.2.1 S1.2.2.2.2.2.2.2.1))) := k16 _ _ h11 (Nat.ne_of_beq_eq_false rfl) (hdos _ (List.mem_cons_of_mem _ (List.mem_cons_of_mem _ (List.mem_cons_of_mem _ (List.mem_cons_of_mem _ List.mem_cons_self)))))
              have h50 : f17 lq = some (.inl (cI G, 12, .inl (j6r S0.2.2.2.2.2.2.2.1 S1.2.2.2.2.2.2.2.1))) := k19 _ _ h49 (Nat.ne_of_beq_eq_false rfl) (hdos _ (List.mem_cons_of_mem _ (List.mem_cons_of_mem _ (List.mem_cons_of_mem _ (List.mem_cons_of_mem _ List.mem_cons_self)))))
              have h51 : f20 lq = some (.inl (cI G, 12, .inl (j6r S0.2.2.2.2.2.2.2.1 S1.2.2.2.2.2.2.2.1))) := k22 _ _ h50 (Nat.ne_of_beq_eq_false rfl) (hdos _ (List.mem_cons_of_mem _ (List.mem_cons_of_mem _ (List.mem_cons_of_mem _ (List.mem_cons_of_mem _ List.mem_cons_self)))))
              have h52 : f23 lq = some (.inl (cI G, 12, .inl (j6r S0.2.2.2.2.2.2.2.1 S1.2.2.2.2.2.2.2.1))) := k25 _ _ h51 (Nat.ne_of_beq_eq_false rfl) (hdos _ (List.mem_cons_of_mem _ (List.mem_cons_of_mem _ (List.mem_cons_of_mem _ (List.mem_cons_of_mem _ List.mem_cons_self)))))
              have h53 : f26 lq = some (.inl (cI G, 12, .inl (j6r S0.2.2.2.2.2.2.2.1 S1.2.2.2.2.2.2.2.1))) := k28 _ _ h52 (Nat.ne_of_beq_eq_false rfl) (hdos _ (List.mem_cons_of_mem _ (List.mem_cons_of_mem _ (List.mem_cons_of_mem _ (List.mem_cons_of_mem _ List.mem_cons_self)))))
              have h54 : f14 le = some (.inl (cI G, 16, .inl (jE (eSt S0) (e8r S1.1 S1.2.1 S1.2.2.1 S1.2.2.2.1 S1.2.2.2.2.1 S1.2.2.2.2.2.1 S1.2.2.2.2.2.2.1 (nI S1.2.2.2.2.2.2.2.2.length))))) := k16 _ _ h12 (Nat.ne_of_beq_eq_false rfl) (hdos _ (List.mem_cons_of_mem _ (List.mem_cons_of_mem _ (List.mem_cons_of_mem _ (List.mem_cons_of_mem _ (List.mem_cons_of_mem _ List.mem_cons_self))))))
              have h55 : f17 le = some (.inl (cI G, 16, .inl (jE (eSt S0) (e8r S1.1 S1.2.1 S1.2.2.1 S1.2.2.2.1 S1.2.2.2.2.1 S1.2.2.2.2.2.1 S1.2.2.2.2.2.2.1 (nI S1.2.2.2.2.2.2.2.2.length))))) := k19 _ _ h54 (Nat.ne_of_beq_eq_false rfl) (hdos _ (List.mem_cons_of_mem _ (List.mem_cons_of_mem _ (List.mem_cons_of_mem _ (List.mem_cons_of_mem _ (List.mem_cons_of_mem _ List.mem_cons_self))))))
              have h56 : f20 le = some (.inl (cI G, 16, .inl (jE (eSt S0) (e8r S1.1 S1.2.1 S1.2.2.1 S1.2.2.2.1 S1.2.2.2.2.1 S1.2.2.2.2.2.1 S1.2.2.2.2.2.2.1 (nI S1.2.2.2.2.2.2.2.2.length))))) := k22 _ _ h55 (Nat.ne_of_beq_eq_false rfl) (hdos _ (List.mem_cons_of_mem _ (List.mem_cons_of_mem _ (List.mem_cons_of_mem _ (List.mem_cons_of_mem _ (List.mem_cons_of_mem _ List.mem_cons_self))))))
              have h57 : f23 le = some (.inl (cI G, 16, .inl (jE (eSt S0) (e8r S1.1 S1.2.1 S1.2.2.1 S1.2.2.2.1 S1.2.2.2.2.1 S1.2.2.2.2.2.1 S1.2.2.2.2.2.2.1 (nI S1.2.2.2.2.2.2.2.2.length))))) := k25 _ _ h56 (Nat.ne_of_beq_eq_false rfl) (hdos _ (List.mem_cons_of_mem _ (List.mem_cons_of_mem _ (List.mem_cons_of_mem _ (List.mem_cons_of_mem _ (List.mem_cons_of_mem _ List.mem_cons_self))))))
              have h58 : f26 le = some (.inl (cI G, 16, .inl (jE (eSt S0) (e8r S1.1 S1.2.1 S1.2.2.1 S1.2.2.2.1 S1.2.2.2.2.1 S1.2.2.2.2.2.1 S1.2.2.2.2.2.2.1 (nI S1.2.2.2.2.2.2.2.2.length))))) := k28 _ _ h57 (Nat.ne_of_beq_eq_false rfl) (hdos _ (List.mem_cons_of_mem _ (List.mem_cons_of_mem _ (List.mem_cons_of_mem _ (List.mem_cons_of_mem _ (List.mem_cons_of_mem _ List.mem_cons_self))))))
              exact hp_zret (v := 1) B0 hw hS hr ⟨Nat.le_of_ble_eq_true rfl, Nat.le_of_ble_eq_true rfl⟩ (rfl) dL_links_156 (⟨rfl, S0, S1, gw0, ga0, (upd gw1 j13 (nI j3 - 1)), ga1, hC27, ⟨⟨_, h33, hX0⟩, ⟨_, h38, hX1⟩, h43, h48, h53, h58⟩, ⟨SOK.mono hSo0 (by omega), SOK.mono hSo1 (by omega), hgw0, hga0, (VOK_upd hgw1 (VOK_lo hj4)), hga1⟩, hl0, hl1, ((show hKn [lx, ly, lw, la, lq, le, xo, ez, eo, bu, nw0, na0, nq0, nr0, nw1, na1, nq1, nr1, bs, bp, bh, bf, bl, bg] f f5 from (by rw [ef5]; exact hKn.up (List.mem_cons_of_mem _ (List.mem_cons_of_mem _ List.mem_cons_self)))).tr ((show hKn [lx, ly, lw, la, lq, le, xo, ez, eo, bu, nw0, na0, nq0, nr0, nw1, na1, nq1, nr1, bs, bp, bh, bf, bl, bg] f5 f14 from (hKn.mono k16 sbA)).tr ((show hKn [lx, ly, lw, la, lq, le, xo, ez, eo, bu, nw0, na0, nq0, nr0, nw1, na1, nq1, nr1, bs, bp, bh, bf, bl, bg] f14 f17 from (hKn.mono k19 sbA)).tr ((show hKn [lx, ly, lw, la, lq, le, xo, ez, eo, bu, nw0, na0, nq0, nr0, nw1, na1, nq1, nr1, bs, bp, bh, bf, bl, bg] f17 f20 from (hKn.mono k22 sbA)).tr ((show hKn [lx, ly, lw, la, lq, le, xo, ez, eo, bu, nw0, na0, nq0, nr0, nw1, na1, nq1, nr1, bs, bp, bh, bf, bl, bg] f20 f23 from (hKn.mono k25 sbA)).tr (show hKn [lx, ly, lw, la, lq, le, xo, ez, eo, bu, nw0, na0, nq0, nr0, nw1, na1, nq1, nr1, bs, bp, bh, bf, bl, bg] f23 f26 from (hKn.mono k28 sbA)))))))⟩)

set_option maxHeartbeats 4000000 in
set_option maxRecDepth 100000 in
theorem lk_a_0 {l : Launch} (hl : l.stackTraces = false) (G : hG) (f : hM) (xo ez eo bu nw0 na0 nq0 nr0 nw1 na1 nq1 nr1 bs bp bh bf bl bg : Nat) (S0 : ES) (S1 : ES) (gw0 : Nat → Int32) (ga0 : Nat → Int32) (gw1 : Nat → Int32) (ga1 : Nat → Int32) (n : Nat) (a : Nat) (cg : Nat) (x : Nat) (sa : Nat → Nat) (pk : Nat → Nat) (fl : Nat → Nat) (gv : Nat → Nat) (gh : Nat → Int32) (gl : Nat → Int32) (hC : CXW G f xo ez eo bu nw0 na0 nq0 nr0 nw1 na1 nq1 nr1 bs bp bh bf bl bg S0 S1 gw0 ga0 gw1 ga1 n a cg x sa pk fl gv gh gl) (lx ly lw la lq le : Nat) (hdis : ∀ p, p ∈ [xo, ez, eo, bu, nw0, na0, nq0, nr0, nw1, na1, nq1, nr1, bs, bp, bh, bf, bl, bg] → p ∉ [lx, ly, lw, la, lq, le]) (hdos : ∀ p, p ∈ [lx, ly, lw, la, lq, le] → p ∉ [xo, ez, eo, bu, nw0, na0, nq0, nr0, nw1, na1, nq1, nr1, bs, bp, bh, bf, bl, bg]) (n_lx_ly : lx ≠ ly) (n_lw_la : lw ≠ la) (n_lw_lq : lw ≠ lq) (n_la_lq : la ≠ lq) (hLX : LX G f lx ly lw la lq le S0 S1 gw0 ga0 gw1 ga1) (b : Nat) (hInv : INV b S0 S1 gw0 ga0 gw1 ga1) (hbb : b + 200 ≤ 1000000) (hl0 : S0.2.2.2.2.2.2.2.2.length ≤ 52) (hl1 : S1.2.2.2.2.2.2.2.2.length ≤ 52) (ac : Nat) (hac : ac < 24) (hact : ac ≠ 22 → S0.2.2.2.2.2.2.2.2.length ≤ 40 ∧ S1.2.2.2.2.2.2.2.2.length ≤ 40) (u z : Int32) {p : Program} {e : Env} {s : State} {m : MethodId} {args : Array Value} {below : List Frame} {meth : Method} {c : Code} (B0 : hB p l s m args meth c cL_links 17 RL G) (hr : meth.sig.returnType = some .boolean) {H : Heap} {locs : List Loc} {ls : Array Slot} (hw : hW G f H) (hS : va_S (hFr G) s.heap H locs) (j13 : Nat) (hj13 : j13 < 6) (hl9 : lv_has ls 17 [(13, .int (nI j13)), (12, .ref lx), (11, .int 0), (10, .int 0), (0, .ref xo), (1, .int (nI ac)), (2, .int u), (3, .int z), (4, .ref lx), (5, .ref ly), (6, .ref lw), (7, .ref la), (8, .ref lq), (9, .ref le)]) : W p l e { frames := 9, cells := 203, slots := 1118, locals := 178 } s m args below meth c H locs 0 0 (vx_MQ below (hQ G (fun v f1 => v = some (.int 1) ∧ ∃ (S2 S3 : ES) (w0 a0 w1 a1 : Nat → Int32), CXW G f1 xo ez eo bu nw0 na0 nq0 nr0 nw1 na1 nq1 nr1 bs bp bh bf bl bg S2 S3 w0 a0 w1 a1 n a cg x sa pk fl gv gh gl ∧ LX G f1 lx ly lw la lq le S2 S3 w0 a0 w1 a1 ∧ INV (b + 100) S2 S3 w0 a0 w1 a1 ∧ S2.2.2.2.2.2.2.2.2.length ≤ 52 ∧ S3.2.2.2.2.2.2.2.2.length ≤ 52 ∧ hKn [lx, ly, lw, la, lq, le, xo, ez, eo, bu, nw0, na0, nq0, nr0, nw1, na1, nq1, nr1, bs, bp, bh, bf, bl, bg] f f1)) (hX G (fun E f1 => False)) args s 203 1118 (hFr G)) (F0 m 163 ls []) := by
  have hx := B0.1
  have hb := B0.2.1
  obtain ⟨⟨xs0, k_lx, hX0⟩, ⟨xs1, k_ly, hX1⟩, k_lw, k_la, k_lq, k_le⟩ := hLX
  obtain ⟨hSo0, hSo1, hgw0, hga0, hgw1, hga1⟩ := id hInv
  have n_lx_lw : lx ≠ lw := hneL k_lx k_lw (Nat.ne_of_beq_eq_false rfl)
  have n_lx_la : lx ≠ la := hneL k_lx k_la (Nat.ne_of_beq_eq_false rfl)
  have n_lx_lq : lx ≠ lq := hneL k_lx k_lq (Nat.ne_of_beq_eq_false rfl)
  have n_lx_le : lx ≠ le := hneL k_lx k_le (Nat.ne_of_beq_eq_false rfl)
  have n_ly_lw : ly ≠ lw := hneL k_ly k_lw (Nat.ne_of_beq_eq_false rfl)
  have n_ly_la : ly ≠ la := hneL k_ly k_la (Nat.ne_of_beq_eq_false rfl)
  have n_ly_lq : ly ≠ lq := hneL k_ly k_lq (Nat.ne_of_beq_eq_false rfl)
  have n_ly_le : ly ≠ le := hneL k_ly k_le (Nat.ne_of_beq_eq_false rfl)
  have n_lw_le : lw ≠ le := hneL k_lw k_le (Nat.ne_of_beq_eq_false rfl)
  have n_la_le : la ≠ le := hneL k_la k_le (Nat.ne_of_beq_eq_false rfl)
  have n_lq_le : lq ≠ le := hneL k_lq k_le (Nat.ne_of_beq_eq_false rfl)
  have sbA : ∀ x9, x9 ∈ [xo, ez, eo, bu, nw0, na0, nq0, nr0, nw1, na1, nq1, nr1, bs, bp, bh, bf, bl, bg] → x9 ∈ [lx, ly, lw, la, lq, le, xo, ez, eo, bu, nw0, na0, nq0, nr0, nw1, na1, nq1, nr1, bs, bp, bh, bf, bl, bg] := (sub_cons (List.mem_cons_of_mem _ (List.mem_cons_of_mem _ (List.mem_cons_of_mem _ (List.mem_cons_of_mem _ (List.mem_cons_of_mem _ (List.mem_cons_of_mem _ List.mem_cons_self)))))) (sub_cons (List.mem_cons_of_mem _ (List.mem_cons_of_mem _ (List.mem_cons_of_mem _ (List.mem_cons_of_mem _ (List.mem_cons_of_mem _ (List.mem_cons_of_mem _ (List.mem_cons_of_mem _ List.mem_cons_self))))))) (sub_cons (List.mem_cons_of_mem _ (List.mem_cons_of_mem _ (List.mem_cons_of_mem _ (List.mem_cons_of_mem _ (List.mem_cons_of_mem _ (List.mem_cons_of_mem _ (List.mem_cons_of_mem _ (List.mem_cons_of_mem _ List.mem_cons_self)))))))) (sub_cons (List.mem_cons_of_mem _ (List.mem_cons_of_mem _ (List.mem_cons_of_mem _ (List.mem_cons_of_mem _ (List.mem_cons_of_mem _ (List.mem_cons_of_mem _ (List.mem_cons_of_mem _ (List.mem_cons_of_mem _ (List.mem_cons_of_mem _ List.mem_cons_self))))))))) (sub_cons (List.mem_cons_of_mem _ (List.mem_cons_of_mem _ (List.mem_cons_of_mem _ (List.mem_cons_of_mem _ (List.mem_cons_of_mem _ (List.mem_cons_of_mem _ (List.mem_cons_of_mem _ (List.mem_cons_of_mem _ (List.mem_cons_of_mem _ (List.mem_cons_of_mem _ List.mem_cons_self)))))))))) (sub_cons (List.mem_cons_of_mem _ (List.mem_cons_of_mem _ (List.mem_cons_of_mem _ (List.mem_cons_of_mem _ (List.mem_cons_of_mem _ (List.mem_cons_of_mem _ (List.mem_cons_of_mem _ (List.mem_cons_of_mem _ (List.mem_cons_of_mem _ (List.mem_cons_of_mem _ (List.mem_cons_of_mem _ List.mem_cons_self))))))))))) (sub_cons (List.mem_cons_of_mem _ (List.mem_cons_of_mem _ (List.mem_cons_of_mem _ (List.mem_cons_of_mem _ (List.mem_cons_of_mem _ (List.mem_cons_of_mem _ (List.mem_cons_of_mem _ (List.mem_cons_of_mem _ (List.mem_cons_of_mem _ (List.mem_cons_of_mem _ (List.mem_cons_of_mem _ (List.mem_cons_of_mem _ List.mem_cons_self)))))))))))) (sub_cons (List.mem_cons_of_mem _ (List.mem_cons_of_mem _ (List.mem_cons_of_mem _ (List.mem_cons_of_mem _ (List.mem_cons_of_mem _ (List.mem_cons_of_mem _ (List.mem_cons_of_mem _ (List.mem_cons_of_mem _ (List.mem_cons_of_mem _ (List.mem_cons_of_mem _ (List.mem_cons_of_mem _ (List.mem_cons_of_mem _ (List.mem_cons_of_mem _ List.mem_cons_self))))))))))))) (sub_cons (List.mem_cons_of_mem _ (List.mem_cons_of_mem _ (List.mem_cons_of_mem _ (List.mem_cons_of_mem _ (List.mem_cons_of_mem _ (List.mem_cons_of_mem _ (List.mem_cons_of_mem _ (List.mem_cons_of_mem _ (List.mem_cons_of_mem _ (List.mem_cons_of_mem _ (List.mem_cons_of_mem _ (List.mem_cons_of_mem _ (List.mem_cons_of_mem _ (List.mem_cons_of_mem _ List.mem_cons_self)))))))))))))) (sub_cons (List.mem_cons_of_mem _ (List.mem_cons_of_mem _ (List.mem_cons_of_mem _ (List.mem_cons_of_mem _ (List.mem_cons_of_mem _ (List.mem_cons_of_mem _ (List.mem_cons_of_mem _ (List.mem_cons_of_mem _ (List.mem_cons_of_mem _ (List.mem_cons_of_mem _ (List.mem_cons_of_mem _ (List.mem_cons_of_mem _ (List.mem_cons_of_mem _ (List.mem_cons_of_mem _ (List.mem_cons_of_mem _ List.mem_cons_self))))))))))))))) (sub_cons (List.mem_cons_of_mem _ (List.mem_cons_of_mem _ (List.mem_cons_of_mem _ (List.mem_cons_of_mem _ (List.mem_cons_of_mem _ (List.mem_cons_of_mem _ (List.mem_cons_of_mem _ (List.mem_cons_of_mem _ (List.mem_cons_of_mem _ (List.mem_cons_of_mem _ (List.mem_cons_of_mem _ (List.mem_cons_of_mem _ (List.mem_cons_of_mem _ (List.mem_cons_of_mem _ (List.mem_cons_of_mem _ (List.mem_cons_of_mem _ List.mem_cons_self)))))))))))))))) (sub_cons (List.mem_cons_of_mem _ (List.mem_cons_of_mem _ (List.mem_cons_of_mem _ (List.mem_cons_of_mem _ (List.mem_cons_of_mem _ (List.mem_cons_of_mem _ (List.mem_cons_of_mem _ (List.mem_cons_of_mem _ (List.mem_cons_of_mem _ (List.mem_cons_of_mem _ (List.mem_cons_of_mem _ (List.mem_cons_of_mem _ (List.mem_cons_of_mem _ (List.mem_cons_of_mem _ (List.mem_cons_of_mem _ (List.mem_cons_of_mem _ (List.mem_cons_of_mem _ List.mem_cons_self))))))))))))))))) (sub_cons (List.mem_cons_of_mem _ (List.mem_cons_of_mem _ (List.mem_cons_of_mem _ (List.mem_cons_of_mem _ (List.mem_cons_of_mem _ (List.mem_cons_of_mem _ (List.mem_cons_of_mem _ (List.mem_cons_of_mem _ (List.mem_cons_of_mem _ (List.mem_cons_of_mem _ (List.mem_cons_of_mem _ (List.mem_cons_of_mem _ (List.mem_cons_of_mem _ (List.mem_cons_of_mem _ (List.mem_cons_of_mem _ (List.mem_cons_of_mem _ (List.mem_cons_of_mem _ (List.mem_cons_of_mem _ List.mem_cons_self)))))))))))))))))) (sub_cons (List.mem_cons_of_mem _ (List.mem_cons_of_mem _ (List.mem_cons_of_mem _ (List.mem_cons_of_mem _ (List.mem_cons_of_mem _ (List.mem_cons_of_mem _ (List.mem_cons_of_mem _ (List.mem_cons_of_mem _ (List.mem_cons_of_mem _ (List.mem_cons_of_mem _ (List.mem_cons_of_mem _ (List.mem_cons_of_mem _ (List.mem_cons_of_mem _ (List.mem_cons_of_mem _ (List.mem_cons_of_mem _ (List.mem_cons_of_mem _ (List.mem_cons_of_mem _ (List.mem_cons_of_mem _ (List.mem_cons_of_mem _ List.mem_cons_self))))))))))))))))))) (sub_cons (List.mem_cons_of_mem _ (List.mem_cons_of_mem _ (List.mem_cons_of_mem _ (List.mem_cons_of_mem _ (List.mem_cons_of_mem _ (List.mem_cons_of_mem _ (List.mem_cons_of_mem _ (List.mem_cons_of_mem _ (List.mem_cons_of_mem _ (List.mem_cons_of_mem _ (List.mem_cons_of_mem _ (List.mem_cons_of_mem _ (List.mem_cons_of_mem _ (List.mem_cons_of_mem _ (List.mem_cons_of_mem _ (List.mem_cons_of_mem _ (List.mem_cons_of_mem _ (List.mem_cons_of_mem _ (List.mem_cons_of_mem _ (List.mem_cons_of_mem _ List.mem_cons_self)))))))))))))))))))) (sub_cons (List.mem_cons_of_mem _ (List.mem_cons_of_mem _ (List.mem_cons_of_mem _ (List.mem_cons_of_mem _ (List.mem_cons_of_mem _ (List.mem_cons_of_mem _ (List.mem_cons_of_mem _ (List.mem_cons_of_mem _ (List.mem_cons_of_mem _ (List.mem_cons_of_mem _ (List.mem_cons_of_mem _ (List.mem_cons_of_mem _ (List.mem_cons_of_mem _ (List.mem_cons_of_mem _ (List.mem_cons_of_mem _ (List.mem_cons_of_mem _ (List.mem_cons_of_mem _ (List.mem_cons_of_mem _ (List.mem_cons_of_mem _ (List.mem_cons_of_mem _ (List.mem_cons_of_mem _ List.mem_cons_self))))))))))))))))))))) (sub_cons (List.mem_cons_of_mem _ (List.mem_cons_of_mem _ (List.mem_cons_of_mem _ (List.mem_cons_of_mem _ (List.mem_cons_of_mem _ (List.mem_cons_of_mem _ (List.mem_cons_of_mem _ (List.mem_cons_of_mem _ (List.mem_cons_of_mem _ (List.mem_cons_of_mem _ (List.mem_cons_of_mem _ (List.mem_cons_of_mem _ (List.mem_cons_of_mem _ (List.mem_cons_of_mem _ (List.mem_cons_of_mem _ (List.mem_cons_of_mem _ (List.mem_cons_of_mem _ (List.mem_cons_of_mem _ (List.mem_cons_of_mem _ (List.mem_cons_of_mem _ (List.mem_cons_of_mem _ (List.mem_cons_of_mem _ List.mem_cons_self)))))))))))))))))))))) (sub_cons (List.mem_cons_of_mem _ (List.mem_cons_of_mem _ (List.mem_cons_of_mem _ (List.mem_cons_of_mem _ (List.mem_cons_of_mem _ (List.mem_cons_of_mem _ (List.mem_cons_of_mem _ (List.mem_cons_of_mem _ (List.mem_cons_of_mem _ (List.mem_cons_of_mem _ (List.mem_cons_of_mem _ (List.mem_cons_of_mem _ (List.mem_cons_of_mem _ (List.mem_cons_of_mem _ (List.mem_cons_of_mem _ (List.mem_cons_of_mem _ (List.mem_cons_of_mem _ (List.mem_cons_of_mem _ (List.mem_cons_of_mem _ (List.mem_cons_of_mem _ (List.mem_cons_of_mem _ (List.mem_cons_of_mem _ (List.mem_cons_of_mem _ List.mem_cons_self))))))))))))))))))))))) sub_nil))))))))))))))))))
  obtain ⟨xx, hxx, hx4⟩ := hSo0.2.2.2.2.1
  have h1 : f le = some (.inl (cI G, 16, .inl (jE (e8r S0.1 S0.2.1 S0.2.2.1 S0.2.2.2.1 S0.2.2.2.2.1 S0.2.2.2.2.2.1 S0.2.2.2.2.2.2.1 (nI S0.2.2.2.2.2.2.2.2.length)) (eSt S1)))) := k_le
  refine lv_iload_n hx hb dL_links_163 rfl (lv_at hl9 7 rfl) ?_
  refine lv_bipush (v := 96) hx hb dL_links_164 (by decide) ?_
  refine lv_iand hx hb dL_links_166 ?_
  refine lv_if_ne (tgt := 174) hx hb dL_links_167 (by decide) (fun c2 => ?_) (fun c2 => ?_)
  · refine lv_iload_n hx hb dL_links_174 rfl (lv_at hl9 7 rfl) ?_
    refine lv_bipush (v := 96) hx hb dL_links_175 (by decide) ?_
    refine lv_iand hx hb dL_links_177 ?_
    refine lv_bipush (v := 32) hx hb dL_links_178 (by decide) ?_
    refine lv_icmp_ne (tgt := 189) hx hb dL_links_180 (by decide) (fun c3 => ?_) (fun c3 => ?_)
    · refine lv_iload_n hx hb dL_links_189 rfl (lv_at hl9 7 rfl) ?_
      refine lv_bipush (v := 7) hx hb dL_links_190 (by decide) ?_
      refine lv_ishr hx hb dL_links_192 ?_
      refine lv_sipush (v := 1024) hx hb dL_links_193 (by decide) ?_
      refine hp_S (As := [.int (z >>> (7 &&& 31)), .int 1024]) (rest := []) B0 hw hS (c_L_low hl G f (z >>> (7 &&& 31)) 1024 (by omega) (by omega)) mS_L_low qM_L_94 rfl rfl hl9.1 (Nat.le_of_ble_eq_true rfl) ⟨⟨Nat.le_of_ble_eq_true rfl, Nat.le_of_ble_eq_true rfl⟩, Nat.le_of_ble_eq_true rfl, Nat.le_of_ble_eq_true rfl⟩ dL_links_196 (fun E ce q9 f4 H locs hPX hw hS hce hcv hcl => ?_) (fun v f4 H locs hP hw hS => ?_)
      · exact hPX.elim
      · obtain ⟨ef9, j5, hj6, ev9⟩ := hP
        rw [ef9] at hw
        subst ev9
        refine W.eq (g2 := F0 m 199 ls [.int (nI j5)]) rfl ?_
        refine lv_istore (lv' := [(14, .int (nI j5)), (13, .int (nI j13)), (12, .ref lx), (11, .int 0), (10, .int 0), (0, .ref xo), (1, .int (nI ac)), (2, .int u), (3, .int z), (4, .ref lx), (5, .ref ly), (6, .ref lw), (7, .ref la), (8, .ref lq), (9, .ref le)]) hx hb dL_links_199 hl9 (by decide) rfl (fun ls hl9 => ?_)
        refine lv_aload hx hb dL_links_201 (lv_at hl9 12 rfl) ?_
        refine lv_bipush (v := 6) hx hb dL_links_203 (by decide) ?_
        refine lv_iload hx hb dL_links_205 (lv_at hl9 4 rfl) ?_
        refine lv_imul hx hb dL_links_207 ?_
        refine hp_c (v := 0) (by decide) ?_
        refine lv_iload hx hb dL_links_208 (lv_at hl9 1 rfl) ?_
        refine lv_iadd hx hb dL_links_210 ?_
        refine hp_c (v := (nI j13)) (by rw [show (0 : Int32) = nI 0 from rfl, nI_add, Nat.zero_add]) ?_
        refine hp_iald B0 hw k_la (vp_in_nI (show j13 < 12 by omega) (by omega)) dL_links_211 ?_
        refine hp_c (v := (ga0 j13)) ((by rw [nI_clamp (by omega)]; exact j6_0 (by omega))) ?_
        refine lv_istore (lv' := [(15, .int (ga0 j13)), (14, .int (nI j5)), (13, .int (nI j13)), (12, .ref lx), (11, .int 0), (10, .int 0), (0, .ref xo), (1, .int (nI ac)), (2, .int u), (3, .int z), (4, .ref lx), (5, .ref ly), (6, .ref lw), (7, .ref la), (8, .ref lq), (9, .ref le)]) hx hb dL_links_212 hl9 (by decide) rfl (fun ls hl9 => ?_)
        refine lv_aload hx hb dL_links_214 (lv_at hl9 13 rfl) ?_
        refine lv_bipush (v := 6) hx hb dL_links_216 (by decide) ?_
        refine lv_iload hx hb dL_links_218 (lv_at hl9 5 rfl) ?_
        refine lv_imul hx hb dL_links_220 ?_
        refine hp_c (v := 0) (by decide) ?_
        refine lv_iload hx hb dL_links_221 (lv_at hl9 2 rfl) ?_
        refine lv_iadd hx hb dL_links_223 ?_
        refine hp_c (v := (nI j13)) (by rw [show (0 : Int32) = nI 0 from rfl, nI_add, Nat.zero_add]) ?_
        refine lv_iload hx hb dL_links_224 (lv_at hl9 1 rfl) ?_
        refine hp_iast B0 hw hS k_la (vp_in_nI (show j13 < 12 by omega) (by omega)) dL_links_226 (fun H locs f7 ef7 hw hS => ?_)
        rw [show (upd (j6r ga0 ga1) ((nI j13) : Int32).toNatClampNeg (nI j5) : Nat → Int32) = (j6r (upd ga0 j13 (nI j5)) ga1) from (by rw [nI_clamp (by omega), j6_u0 (by omega)])] at ef7
        have h8 : f7 la = some (.inl (cI G, 12, .inl (j6r (upd ga0 j13 (nI j5)) ga1))) := by rw [ef7, va_up_self]
        refine lv_aload_n hx hb dL_links_227 rfl (lv_at hl9 6 rfl) ?_
        refine lv_iconst (v := (-1)) hx hb dL_links_228 (by decide) ?_
        refine lv_iload hx hb dL_links_229 (lv_at hl9 2 rfl) ?_
        refine lv_iconst (v := 0) hx hb dL_links_231 (by decide) ?_
        have h10 : f7 lx = some (.inl (cJ G, 64, .inr (.inl xs0))) := by rw [ef7, va_up_ne _ _ n_lx_la]; exact k_lx
        have h11 : f7 ly = some (.inl (cJ G, 64, .inr (.inl xs1))) := by rw [ef7, va_up_ne _ _ n_ly_la]; exact k_ly
        have h12 : f7 lw = some (.inl (cI G, 12, .inl (j6r gw0 gw1))) := by rw [ef7, va_up_ne _ _ n_lw_la]; exact k_lw
        have h13 : f7 lq = some (.inl (cI G, 12, .inl (j6r S0.2.2.2.2.2.2.2.1 S1.2.2.2.2.2.2.2.1))) := by rw [ef7, va_up_ne _ _ (Ne.symm n_la_lq)]; exact k_lq
        have h14 : f7 le = some (.inl (cI G, 16, .inl (jE (e8r S0.1 S0.2.1 S0.2.2.1 S0.2.2.2.1 S0.2.2.2.2.1 S0.2.2.2.2.2.1 S0.2.2.2.2.2.2.1 (nI S0.2.2.2.2.2.2.2.2.length)) (eSt S1)))) := by rw [ef7, va_up_ne _ _ (Ne.symm n_la_le)]; exact h1
        have hC15 : CXW G f7 xo ez eo bu nw0 na0 nq0 nr0 nw1 na1 nq1 nr1 bs bp bh bf bl bg S0 S1 gw0 ga0 gw1 ga1 n a cg x sa pk fl gv gh gl := CXW.eq hC (show hEq [lx, ly, lw, la, lq, le] f f7 from (by rw [ef7]; exact hEq.up (List.mem_cons_of_mem _ (List.mem_cons_of_mem _ (List.mem_cons_of_mem _ List.mem_cons_self))))) hdis (fun b9 hb9 => by
            simp only [List.mem_cons, List.not_mem_nil, or_false] at hb9
            rcases hb9 with hb9 | hb9 | hb9 | hb9 | hb9 | hb9
            · rw [hb9]; exact ⟨_, _, k_lx, h10, (Nat.ne_of_beq_eq_false rfl), (Nat.ne_of_beq_eq_false rfl)⟩
            · rw [hb9]; exact ⟨_, _, k_ly, h11, (Nat.ne_of_beq_eq_false rfl), (Nat.ne_of_beq_eq_false rfl)⟩
            · rw [hb9]; exact ⟨_, _, k_lw, h12, (Nat.ne_of_beq_eq_false rfl), (Nat.ne_of_beq_eq_false rfl)⟩
            · rw [hb9]; exact ⟨_, _, k_la, h8, (Nat.ne_of_beq_eq_false rfl), (Nat.ne_of_beq_eq_false rfl)⟩
            · rw [hb9]; exact ⟨_, _, k_lq, h13, (Nat.ne_of_beq_eq_false rfl), (Nat.ne_of_beq_eq_false rfl)⟩
            · rw [hb9]; exact ⟨_, _, h1, h14, (Nat.ne_of_beq_eq_false rfl), (Nat.ne_of_beq_eq_false rfl)⟩)
        refine hp_SH (As := [.ref xo, .int (-1), .int (nI j13), .int 0]) (rest := []) B0 hw hS (c_V_allow_E hl G f7 xo ez eo bu nw0 na0 nq0 nr0 nw1 na1 nq1 nr1 bs bp bh bf bl bg S0 S1 gw0 ga0 gw1 ga1 n a cg x sa pk fl gv gh gl hC15 (Nat.lt_of_le_of_lt hl0 (by decide)) (Nat.lt_of_le_of_lt hl1 (by decide)) (-1) (nI j13) 0 (by decide)) mH_L_allow qM_L_100 rfl rfl hl9.1 (Nat.le_of_ble_eq_true rfl) ⟨⟨Nat.le_of_ble_eq_true rfl, Nat.le_of_ble_eq_true rfl⟩, Nat.le_of_ble_eq_true rfl, Nat.le_of_ble_eq_true rfl⟩ dL_links_232 (fun E ce q9 f16 H locs hPX hw hS hce hcv hcl => ?_) (fun v f16 H locs hP hw hS => ?_)
        · exact hPX.elim
        · obtain ⟨ev9, hC17, k18⟩ := hP
          subst ev9
          have hC17 : CXW G f16 xo ez eo bu nw0 na0 nq0 nr0 nw1 na1 nq1 nr1 bs bp bh bf bl bg S0 S1 gw0 ga0 gw1 ga1 n a cg x sa pk fl gv gh gl := hC17
          refine W.eq (g2 := F0 m 235 ls [.int (-71)]) rfl ?_
          refine lv_bipush (v := (-71)) hx hb dL_links_235 (by decide) ?_
          refine lv_icmp_ne (tgt := 302) hx hb dL_links_237 (by decide) (fun c9 => absurd (by decide) c9) (fun _ => ?_)
          refine lv_aload_n hx hb dL_links_240 rfl (lv_at hl9 6 rfl) ?_
          refine lv_iload hx hb dL_links_241 (lv_at hl9 5 rfl) ?_
          refine lv_iconst (v := (-1)) hx hb dL_links_243 (by decide) ?_
          refine lv_iconst (v := 0) hx hb dL_links_244 (by decide) ?_
          refine hp_SH (As := [.ref xo, .int 0, .int (-1), .int 0]) (rest := []) B0 hw hS (c_V_allow_O0 hl G f16 xo ez eo bu nw0 na0 nq0 nr0 nw1 na1 nq1 nr1 bs bp bh bf bl bg S0 S1 gw0 ga0 gw1 ga1 n a cg x sa pk fl gv gh gl hC17 (Nat.lt_of_le_of_lt hl0 (by decide)) (Nat.lt_of_le_of_lt hl1 (by decide)) (-1) 0 (by decide)) mH_L_allow qM_L_100 rfl rfl hl9.1 (Nat.le_of_ble_eq_true rfl) ⟨⟨Nat.le_of_ble_eq_true rfl, Nat.le_of_ble_eq_true rfl⟩, Nat.le_of_ble_eq_true rfl, Nat.le_of_ble_eq_true rfl⟩ dL_links_245 (fun E ce q9 f19 H locs hPX hw hS hce hcv hcl => ?_) (fun v f19 H locs hP hw hS => ?_)
          · exact hPX.elim
          · obtain ⟨ev9, hC20, k21⟩ := hP
            subst ev9
            have hC20 : CXW G f19 xo ez eo bu nw0 na0 nq0 nr0 nw1 na1 nq1 nr1 bs bp bh bf bl bg S0 S1 gw0 ga0 gw1 ga1 n a cg x sa pk fl gv gh gl := hC20
            refine W.eq (g2 := F0 m 248 ls [.int (-71)]) rfl ?_
            refine lv_bipush (v := (-71)) hx hb dL_links_248 (by decide) ?_
            refine lv_icmp_ne (tgt := 302) hx hb dL_links_250 (by decide) (fun c9 => absurd (by decide) c9) (fun _ => ?_)
            refine lv_aload_n hx hb dL_links_253 rfl (lv_at hl9 6 rfl) ?_
            refine lv_iload hx hb dL_links_254 (lv_at hl9 5 rfl) ?_
            refine lv_iload hx hb dL_links_256 (lv_at hl9 2 rfl) ?_
            refine lv_sipush (v := 1024) hx hb dL_links_258 (by decide) ?_
            refine hp_SH (As := [.ref xo, .int 0, .int (nI j13), .int 1024]) (rest := []) B0 hw hS (c_V_allow_V0 hl G f19 xo ez eo bu nw0 na0 nq0 nr0 nw1 na1 nq1 nr1 bs bp bh bf bl bg S0 S1 gw0 ga0 gw1 ga1 n a cg x sa pk fl gv gh gl hC20 (Nat.lt_of_le_of_lt hl0 (by decide)) (Nat.lt_of_le_of_lt hl1 (by decide)) j13 (by omega) 1024 (by decide)) mH_L_allow qM_L_100 rfl rfl hl9.1 (Nat.le_of_ble_eq_true rfl) ⟨⟨Nat.le_of_ble_eq_true rfl, Nat.le_of_ble_eq_true rfl⟩, Nat.le_of_ble_eq_true rfl, Nat.le_of_ble_eq_true rfl⟩ dL_links_261 (fun E ce q9 f22 H locs hPX hw hS hce hcv hcl => ?_) (fun v f22 H locs hP hw hS => ?_)
            · exact hPX.elim
            · obtain ⟨ev9, hC23, k24⟩ := hP
              subst ev9
              have hC23 : CXW G f22 xo ez eo bu nw0 na0 nq0 nr0 nw1 na1 nq1 nr1 bs bp bh bf bl bg S0 S1 gw0 ga0 gw1 ga1 n a cg x sa pk fl gv gh gl := hC23
              refine W.eq (g2 := F0 m 264 ls [.int (-72)]) rfl ?_
              refine lv_bipush (v := (-72)) hx hb dL_links_264 (by decide) ?_
              refine lv_icmp_ne (tgt := 302) hx hb dL_links_266 (by decide) (fun c9 => absurd (by decide) c9) (fun _ => ?_)
              refine lv_aload_n hx hb dL_links_269 rfl (lv_at hl9 6 rfl) ?_
              refine lv_iload hx hb dL_links_270 (lv_at hl9 5 rfl) ?_
              refine lv_iload hx hb dL_links_272 (lv_at hl9 2 rfl) ?_
              refine lv_iconst (v := (-1)) hx hb dL_links_274 (by decide) ?_
              refine hp_SH (As := [.ref xo, .int 0, .int (nI j13), .int (-1)]) (rest := []) B0 hw hS (c_V_allow_V0 hl G f22 xo ez eo bu nw0 na0 nq0 nr0 nw1 na1 nq1 nr1 bs bp bh bf bl bg S0 S1 gw0 ga0 gw1 ga1 n a cg x sa pk fl gv gh gl hC23 (Nat.lt_of_le_of_lt hl0 (by decide)) (Nat.lt_of_le_of_lt hl1 (by decide)) j13 (by omega) (-1) (by decide)) mH_L_allow qM_L_100 rfl rfl hl9.1 (Nat.le_of_ble_eq_true rfl) ⟨⟨Nat.le_of_ble_eq_true rfl, Nat.le_of_ble_eq_true rfl⟩, Nat.le_of_ble_eq_true rfl, Nat.le_of_ble_eq_true rfl⟩ dL_links_275 (fun E ce q9 f25 H locs hPX hw hS hce hcv hcl => ?_) (fun v f25 H locs hP hw hS => ?_)
              · exact hPX.elim
              · obtain ⟨ev9, hC26, k27⟩ := hP
                subst ev9
                have hC26 : CXW G f25 xo ez eo bu nw0 na0 nq0 nr0 nw1 na1 nq1 nr1 bs bp bh bf bl bg S0 S1 gw0 ga0 gw1 ga1 n a cg x sa pk fl gv gh gl := hC26
                refine W.eq (g2 := F0 m 278 ls [.int (-72)]) rfl ?_
                refine lv_bipush (v := (-72)) hx hb dL_links_278 (by decide) ?_
                refine lv_icmp_ne (tgt := 302) hx hb dL_links_280 (by decide) (fun c9 => absurd (by decide) c9) (fun _ => ?_)
                refine lv_aload_n hx hb dL_links_283 rfl (lv_at hl9 6 rfl) ?_
                refine lv_iload hx hb dL_links_284 (lv_at hl9 5 rfl) ?_
                refine lv_iload hx hb dL_links_286 (lv_at hl9 2 rfl) ?_
                refine lv_iload hx hb dL_links_288 (lv_at hl9 1 rfl) ?_
                refine hp_SH (As := [.ref xo, .int 0, .int (nI j13), .int (nI j5)]) (rest := []) B0 hw hS (c_V_allow_0 hl G f25 xo ez eo bu nw0 na0 nq0 nr0 nw1 na1 nq1 nr1 bs bp bh bf bl bg S0 S1 gw0 ga0 gw1 ga1 n a cg x sa pk fl gv gh gl hC26 (Nat.lt_of_le_of_lt hl0 (by decide)) (Nat.lt_of_le_of_lt hl1 (by decide)) j13 (by omega) (nI j5) (AOK_nI hj6)) mH_L_allow qM_L_100 rfl rfl hl9.1 (Nat.le_of_ble_eq_true rfl) ⟨⟨Nat.le_of_ble_eq_true rfl, Nat.le_of_ble_eq_true rfl⟩, Nat.le_of_ble_eq_true rfl, Nat.le_of_ble_eq_true rfl⟩ dL_links_290 (fun E ce q9 f28 H locs hPX hw hS hce hcv hcl => ?_) (fun v f28 H locs hP hw hS => ?_)
                · exact hPX.elim
                · obtain ⟨ev9, hC29, k30⟩ := hP
                  subst ev9
                  have hC29 : CXW G f28 xo ez eo bu nw0 na0 nq0 nr0 nw1 na1 nq1 nr1 bs bp bh bf bl bg S0 S1 gw0 (upd ga0 j13 (nI j5)) gw1 ga1 n a cg x sa pk fl gv gh gl := hC29
                  refine W.eq (g2 := F0 m 293 ls [.int ((ga0 j13))]) rfl ?_
                  refine lv_iload hx hb dL_links_293 (lv_at hl9 0 rfl) ?_
                  refine lv_icmp_ne (tgt := 302) hx hb dL_links_295 (by decide) (fun c9 => absurd rfl c9) (fun _ => ?_)
                  refine lv_iconst (v := 1) hx hb dL_links_298 (by decide) ?_
                  refine lv_goto (tgt := 303) hx hb dL_links_299 (by decide) ?_
                  have h31 : f16 lx = some (.inl (cJ G, 64, .inr (.inl xs0))) := k18 _ _ h10 (Nat.ne_of_beq_eq_false rfl) (hdos _ List.mem_cons_self)
                  have h32 : f19 lx = some (.inl (cJ G, 64, .inr (.inl xs0))) := k21 _ _ h31 (Nat.ne_of_beq_eq_false rfl) (hdos _ List.mem_cons_self)
                  have h33 : f22 lx = some (.inl (cJ G, 64, .inr (.inl xs0))) := k24 _ _ h32 (Nat.ne_of_beq_eq_false rfl) (hdos _ List.mem_cons_self)
                  have h34 : f25 lx = some (.inl (cJ G, 64, .inr (.inl xs0))) := k27 _ _ h33 (Nat.ne_of_beq_eq_false rfl) (hdos _ List.mem_cons_self)
                  have h35 : f28 lx = some (.inl (cJ G, 64, .inr (.inl xs0))) := k30 _ _ h34 (Nat.ne_of_beq_eq_false rfl) (hdos _ List.mem_cons_self)
                  have h36 : f16 ly = some (.inl (cJ G, 64, .inr (.inl xs1))) := k18 _ _ h11 (Nat.ne_of_beq_eq_false rfl) (hdos _ (List.mem_cons_of_mem _ List.mem_cons_self))
                  have h37 : f19 ly = some (.inl (cJ G, 64, .inr (.inl xs1))) := k21 _ _ h36 (Nat.ne_of_beq_eq_false rfl) (hdos _ (List.mem_cons_of_mem _ List.mem_cons_self))
                  have h38 : f22 ly = some (.inl (cJ G, 64, .inr (.inl xs1))) := k24 _ _ h37 (Nat.ne_of_beq_eq_false rfl) (hdos _ (List.mem_cons_of_mem _ List.mem_cons_self))
                  have h39 : f25 ly = some (.inl (cJ G, 64, .inr (.inl xs1))) := k27 _ _ h38 (Nat.ne_of_beq_eq_false rfl) (hdos _ (List.mem_cons_of_mem _ List.mem_cons_self))
                  have h40 : f28 ly = some (.inl (cJ G, 64, .inr (.inl xs1))) := k30 _ _ h39 (Nat.ne_of_beq_eq_false rfl) (hdos _ (List.mem_cons_of_mem _ List.mem_cons_self))
                  have h41 : f16 lw = some (.inl (cI G, 12, .inl (j6r gw0 gw1))) := k18 _ _ h12 (Nat.ne_of_beq_eq_false rfl) (hdos _ (List.mem_cons_of_mem _ (List.mem_cons_of_mem _ List.mem_cons_self)))
                  have h42 : f19 lw = some (.inl (cI G, 12, .inl (j6r gw0 gw1))) := k21 _ _ h41 (Nat.ne_of_beq_eq_false rfl) (hdos _ (List.mem_cons_of_mem _ (List.mem_cons_of_mem _ List.mem_cons_self)))
                  have h43 : f22 lw = some (.inl (cI G, 12, .inl (j6r gw0 gw1))) := k24 _ _ h42 (Nat.ne_of_beq_eq_false rfl) (hdos _ (List.mem_cons_of_mem _ (List.mem_cons_of_mem _ List.mem_cons_self)))
                  have h44 : f25 lw = some (.inl (cI G, 12, .inl (j6r gw0 gw1))) := k27 _ _ h43 (Nat.ne_of_beq_eq_false rfl) (hdos _ (List.mem_cons_of_mem _ (List.mem_cons_of_mem _ List.mem_cons_self)))
                  have h45 : f28 lw = some (.inl (cI G, 12, .inl (j6r gw0 gw1))) := k30 _ _ h44 (Nat.ne_of_beq_eq_false rfl) (hdos _ (List.mem_cons_of_mem _ (List.mem_cons_of_mem _ List.mem_cons_self)))
                  have h46 : f16 la = some (.inl (cI G, 12, .inl (j6r (upd ga0 j13 (nI j5)) ga1))) := k18 _ _ h8 (Nat.ne_of_beq_eq_false rfl) (hdos _ (List.mem_cons_of_mem _ (List.mem_cons_of_mem _ (List.mem_cons_of_mem _ List.mem_cons_self))))
                  have h47 : f19 la = some (.inl (cI G, 12, .inl (j6r (upd ga0 j13 (nI j5)) ga1))) := k21 _ _ h46 (Nat.ne_of_beq_eq_false rfl) (hdos _ (List.mem_cons_of_mem _ (List.mem_cons_of_mem _ (List.mem_cons_of_mem _ List.mem_cons_self))))
                  have h48 : f22 la = some (.inl (cI G, 12, .inl (j6r (upd ga0 j13 (nI j5)) ga1))) := k24 _ _ h47 (Nat.ne_of_beq_eq_false rfl) (hdos _ (List.mem_cons_of_mem _ (List.mem_cons_of_mem _ (List.mem_cons_of_mem _ List.mem_cons_self))))
                  have h49 : f25 la = some (.inl (cI G, 12, .inl (j6r (upd ga0 j13 (nI j5)) ga1))) := k27 _ _ h48 (Nat.ne_of_beq_eq_false rfl) (hdos _ (List.mem_cons_of_mem _ (List.mem_cons_of_mem _ (List.mem_cons_of_mem _ List.mem_cons_self))))
                  have h50 : f28 la = some (.inl (cI G, 12, .inl (j6r (upd ga0 j13 (nI j5)) ga1))) := k30 _ _ h49 (Nat.ne_of_beq_eq_false rfl) (hdos _ (List.mem_cons_of_mem _ (List.mem_cons_of_mem _ (List.mem_cons_of_mem _ List.mem_cons_self))))
                  have h51 : f16 lq = some (.inl (cI G, 12, .inl (j6r S0.2.2.2.2.2.2.2.1 S1.2.2.2.2.2.2.2.1))) := k18 _ _ h13 (Nat.ne_of_beq_eq_false rfl) (hdos _ (List.mem_cons_of_mem _ (List.mem_cons_of_mem _ (List.mem_cons_of_mem _ (List.mem_cons_of_mem _ List.mem_cons_self)))))
                  have h52 : f19 lq = some (.inl (cI G, 12, .inl (j6r S0.2.2.2.2.2.2.2.1 S1.2.2.2.2.2.2.2.1))) := k21 _ _ h51 (Nat.ne_of_beq_eq_false rfl) (hdos _ (List.mem_cons_of_mem _ (List.mem_cons_of_mem _ (List.mem_cons_of_mem _ (List.mem_cons_of_mem _ List.mem_cons_self)))))
                  have h53 : f22 lq = some (.inl (cI G, 12, .inl (j6r S0.2.2.2.2.2.2.2.1 S1.2.2.2.2.2.2.2.1))) := k24 _ _ h52 (Nat.ne_of_beq_eq_false rfl) (hdos _ (List.mem_cons_of_mem _ (List.mem_cons_of_mem _ (List.mem_cons_of_mem _ (List.mem_cons_of_mem _ List.mem_cons_self)))))
                  have h54 : f25 lq = some (.inl (cI G, 12, .inl (j6r S0.2.2.2.2.2.2.2.1 S1.2.2.2.2.2.2.2.1))) := k27 _ _ h53 (Nat.ne_of_beq_eq_false rfl) (hdos _ (List.mem_cons_of_mem _ (List.mem_cons_of_mem _ (List.mem_cons_of_mem _ (List.mem_cons_of_mem _ List.mem_cons_self)))))
                  have h55 : f28 lq = some (.inl (cI G, 12, .inl (j6r S0.2.2.2.2.2.2.2.1 S1.2.2.2.2.2.2.2.1))) := k30 _ _ h54 (Nat.ne_of_beq_eq_false rfl) (hdos _ (List.mem_cons_of_mem _ (List.mem_cons_of_mem _ (List.mem_cons_of_mem _ (List.mem_cons_of_mem _ List.mem_cons_self)))))
                  have h56 : f16 le = some (.inl (cI G, 16, .inl (jE (e8r S0.1 S0.2.1 S0.2.2.1 S0.2.2.2.1 S0.2.2.2.2.1 S0.2.2.2.2.2.1 S0.2.2.2.2.2.2.1 (nI S0.2.2.2.2.2.2.2.2.length)) (eSt S1)))) := k18 _ _ h14 (Nat.ne_of_beq_eq_false rfl) (hdos _ (List.mem_cons_of_mem _ (List.mem_cons_of_mem _ (List.mem_cons_of_mem _ (List.mem_cons_of_mem _ (List.mem_cons_of_mem _ List.mem_cons_self))))))
                  have h57 : f19 le = some (.inl (cI G, 16, .inl (jE (e8r S0.1 S0.2.1 S0.2.2.1 S0.2.2.2.1 S0.2.2.2.2.1 S0.2.2.2.2.2.1 S0.2.2.2.2.2.2.1 (nI S0.2.2.2.2.2.2.2.2.length)) (eSt S1)))) := k21 _ _ h56 (Nat.ne_of_beq_eq_false rfl) (hdos _ (List.mem_cons_of_mem _ (List.mem_cons_of_mem _ (List.mem_cons_of_mem _ (List.mem_cons_of_mem _ (List.mem_cons_of_mem _ List.mem_cons_self))))))
                  have h58 : f22 le = some (.inl (cI G, 16, .inl (jE (e8r S0.1 S0.2.1 S0.2.2.1 S0.2.2.2.1 S0.2.2.2.2.1 S0.2.2.2.2.2.1 S0.2.2.2.2.2.2.1 (nI S0.2.2.2.2.2.2.2.2.length)) (eSt S1)))) := k24 _ _ h57 (Nat.ne_of_beq_eq_false rfl) (hdos _ (List.mem_cons_of_mem _ (List.mem_cons_of_mem _ (List.mem_cons_of_mem _ (List.mem_cons_of_mem _ (List.mem_cons_of_mem _ List.mem_cons_self))))))
                  have h59 : f25 le = some (.inl (cI G, 16, .inl (jE (e8r S0.1 S0.2.1 S0.2.2.1 S0.2.2.2.1 S0.2.2.2.2.1 S0.2.2.2.2.2.1 S0.2.2.2.2.2.2.1 (nI S0.2.2.2.2.2.2.2.2.length)) (eSt S1)))) := k27 _ _ h58 (Nat.ne_of_beq_eq_false rfl) (hdos _ (List.mem_cons_of_mem _ (List.mem_cons_of_mem _ (List.mem_cons_of_mem _ (List.mem_cons_of_mem _ (List.mem_cons_of_mem _ List.mem_cons_self))))))
                  have h60 : f28 le = some (.inl (cI G, 16, .inl (jE (e8r S0.1 S0.2.1 S0.2.2.1 S0.2.2.2.1 S0.2.2.2.2.1 S0.2.2.2.2.2.1 S0.2.2.2.2.2.2.1 (nI S0.2.2.2.2.2.2.2.2.length)) (eSt S1)))) := k30 _ _ h59 (Nat.ne_of_beq_eq_false rfl) (hdos _ (List.mem_cons_of_mem _ (List.mem_cons_of_mem _ (List.mem_cons_of_mem _ (List.mem_cons_of_mem _ (List.mem_cons_of_mem _ List.mem_cons_self))))))
                  exact hp_zret (v := 1) B0 hw hS hr ⟨Nat.le_of_ble_eq_true rfl, Nat.le_of_ble_eq_true rfl⟩ (rfl) dL_links_303 (⟨rfl, S0, S1, gw0, (upd ga0 j13 (nI j5)), gw1, ga1, hC29, ⟨⟨_, h35, hX0⟩, ⟨_, h40, hX1⟩, h45, h50, h55, h60⟩, ⟨SOK.mono hSo0 (by omega), SOK.mono hSo1 (by omega), hgw0, (AOK_upd hga0 (AOK_nI hj6)), hgw1, hga1⟩, hl0, hl1, ((show hKn [lx, ly, lw, la, lq, le, xo, ez, eo, bu, nw0, na0, nq0, nr0, nw1, na1, nq1, nr1, bs, bp, bh, bf, bl, bg] f f7 from (by rw [ef7]; exact hKn.up (List.mem_cons_of_mem _ (List.mem_cons_of_mem _ (List.mem_cons_of_mem _ List.mem_cons_self))))).tr ((show hKn [lx, ly, lw, la, lq, le, xo, ez, eo, bu, nw0, na0, nq0, nr0, nw1, na1, nq1, nr1, bs, bp, bh, bf, bl, bg] f7 f16 from (hKn.mono k18 sbA)).tr ((show hKn [lx, ly, lw, la, lq, le, xo, ez, eo, bu, nw0, na0, nq0, nr0, nw1, na1, nq1, nr1, bs, bp, bh, bf, bl, bg] f16 f19 from (hKn.mono k21 sbA)).tr ((show hKn [lx, ly, lw, la, lq, le, xo, ez, eo, bu, nw0, na0, nq0, nr0, nw1, na1, nq1, nr1, bs, bp, bh, bf, bl, bg] f19 f22 from (hKn.mono k24 sbA)).tr ((show hKn [lx, ly, lw, la, lq, le, xo, ez, eo, bu, nw0, na0, nq0, nr0, nw1, na1, nq1, nr1, bs, bp, bh, bf, bl, bg] f22 f25 from (hKn.mono k27 sbA)).tr (show hKn [lx, ly, lw, la, lq, le, xo, ez, eo, bu, nw0, na0, nq0, nr0, nw1, na1, nq1, nr1, bs, bp, bh, bf, bl, bg] f25 f28 from (hKn.mono k30 sbA)))))))⟩)
    · refine lv_sipush (v := 1023) hx hb dL_links_183 (by decide) ?_
      refine lv_goto (tgt := 199) hx hb dL_links_186 (by decide) ?_
      refine lv_istore (lv' := [(14, .int 1023), (13, .int (nI j13)), (12, .ref lx), (11, .int 0), (10, .int 0), (0, .ref xo), (1, .int (nI ac)), (2, .int u), (3, .int z), (4, .ref lx), (5, .ref ly), (6, .ref lw), (7, .ref la), (8, .ref lq), (9, .ref le)]) hx hb dL_links_199 hl9 (by decide) rfl (fun ls hl9 => ?_)
      refine lv_aload hx hb dL_links_201 (lv_at hl9 12 rfl) ?_
      refine lv_bipush (v := 6) hx hb dL_links_203 (by decide) ?_
      refine lv_iload hx hb dL_links_205 (lv_at hl9 4 rfl) ?_
      refine lv_imul hx hb dL_links_207 ?_
      refine hp_c (v := 0) (by decide) ?_
      refine lv_iload hx hb dL_links_208 (lv_at hl9 1 rfl) ?_
      refine lv_iadd hx hb dL_links_210 ?_
      refine hp_c (v := (nI j13)) (by rw [show (0 : Int32) = nI 0 from rfl, nI_add, Nat.zero_add]) ?_
      refine hp_iald B0 hw k_la (vp_in_nI (show j13 < 12 by omega) (by omega)) dL_links_211 ?_
      refine hp_c (v := (ga0 j13)) ((by rw [nI_clamp (by omega)]; exact j6_0 (by omega))) ?_
      refine lv_istore (lv' := [(15, .int (ga0 j13)), (14, .int 1023), (13, .int (nI j13)), (12, .ref lx), (11, .int 0), (10, .int 0), (0, .ref xo), (1, .int (nI ac)), (2, .int u), (3, .int z), (4, .ref lx), (5, .ref ly), (6, .ref lw), (7, .ref la), (8, .ref lq), (9, .ref le)]) hx hb dL_links_212 hl9 (by decide) rfl (fun ls hl9 => ?_)
      refine lv_aload hx hb dL_links_214 (lv_at hl9 13 rfl) ?_
      refine lv_bipush (v := 6) hx hb dL_links_216 (by decide) ?_
      refine lv_iload hx hb dL_links_218 (lv_at hl9 5 rfl) ?_
      refine lv_imul hx hb dL_links_220 ?_
      refine hp_c (v := 0) (by decide) ?_
      refine lv_iload hx hb dL_links_221 (lv_at hl9 2 rfl) ?_
      refine lv_iadd hx hb dL_links_223 ?_
      refine hp_c (v := (nI j13)) (by rw [show (0 : Int32) = nI 0 from rfl, nI_add, Nat.zero_add]) ?_
      refine lv_iload hx hb dL_links_224 (lv_at hl9 1 rfl) ?_
      refine hp_iast B0 hw hS k_la (vp_in_nI (show j13 < 12 by omega) (by omega)) dL_links_226 (fun H locs f61 ef61 hw hS => ?_)
      rw [show (upd (j6r ga0 ga1) ((nI j13) : Int32).toNatClampNeg 1023 : Nat → Int32) = (j6r (upd ga0 j13 1023) ga1) from (by rw [nI_clamp (by omega), j6_u0 (by omega)])] at ef61
      have h62 : f61 la = some (.inl (cI G, 12, .inl (j6r (upd ga0 j13 1023) ga1))) := by rw [ef61, va_up_self]
      refine lv_aload_n hx hb dL_links_227 rfl (lv_at hl9 6 rfl) ?_
      refine lv_iconst (v := (-1)) hx hb dL_links_228 (by decide) ?_
      refine lv_iload hx hb dL_links_229 (lv_at hl9 2 rfl) ?_
      refine lv_iconst (v := 0) hx hb dL_links_231 (by decide) ?_
      have h63 : f61 lx = some (.inl (cJ G, 64, .inr (.inl xs0))) := by rw [ef61, va_up_ne _ _ n_lx_la]; exact k_lx
      have h64 : f61 ly = some (.inl (cJ G, 64, .inr (.inl xs1))) := by rw [ef61, va_up_ne _ _ n_ly_la]; exact k_ly
      have h65 : f61 lw = some (.inl (cI G, 12, .inl (j6r gw0 gw1))) := by rw [ef61, va_up_ne _ _ n_lw_la]; exact k_lw
      have h66 : f61 lq = some (.inl (cI G, 12, .inl (j6r S0.2.2.2.2.2.2.2.1 S1.2.2.2.2.2.2.2.1))) := by rw [ef61, va_up_ne _ _ (Ne.symm n_la_lq)]; exact k_lq
      have h67 : f61 le = some (.inl (cI G, 16, .inl (jE (e8r S0.1 S0.2.1 S0.2.2.1 S0.2.2.2.1 S0.2.2.2.2.1 S0.2.2.2.2.2.1 S0.2.2.2.2.2.2.1 (nI S0.2.2.2.2.2.2.2.2.length)) (eSt S1)))) := by rw [ef61, va_up_ne _ _ (Ne.symm n_la_le)]; exact h1
      have hC68 : CXW G f61 xo ez eo bu nw0 na0 nq0 nr0 nw1 na1 nq1 nr1 bs bp bh bf bl bg S0 S1 gw0 ga0 gw1 ga1 n a cg x sa pk fl gv gh gl := CXW.eq hC (show hEq [lx, ly, lw, la, lq, le] f f61 from (by rw [ef61]; exact hEq.up (List.mem_cons_of_mem _ (List.mem_cons_of_mem _ (List.mem_cons_of_mem _ List.mem_cons_self))))) hdis (fun b9 hb9 => by
          simp only [List.mem_cons, List.not_mem_nil, or_false] at hb9
          rcases hb9 with hb9 | hb9 | hb9 | hb9 | hb9 | hb9
          · rw [hb9]; exact ⟨_, _, k_lx, h63, (Nat.ne_of_beq_eq_false rfl), (Nat.ne_of_beq_eq_false rfl)⟩
          · rw [hb9]; exact ⟨_, _, k_ly, h64, (Nat.ne_of_beq_eq_false rfl), (Nat.ne_of_beq_eq_false rfl)⟩
          · rw [hb9]; exact ⟨_, _, k_lw, h65, (Nat.ne_of_beq_eq_false rfl), (Nat.ne_of_beq_eq_false rfl)⟩
          · rw [hb9]; exact ⟨_, _, k_la, h62, (Nat.ne_of_beq_eq_false rfl), (Nat.ne_of_beq_eq_false rfl)⟩
          · rw [hb9]; exact ⟨_, _, k_lq, h66, (Nat.ne_of_beq_eq_false rfl), (Nat.ne_of_beq_eq_false rfl)⟩
          · rw [hb9]; exact ⟨_, _, h1, h67, (Nat.ne_of_beq_eq_false rfl), (Nat.ne_of_beq_eq_false rfl)⟩)
      refine hp_SH (As := [.ref xo, .int (-1), .int (nI j13), .int 0]) (rest := []) B0 hw hS (c_V_allow_E hl G f61 xo ez eo bu nw0 na0 nq0 nr0 nw1 na1 nq1 nr1 bs bp bh bf bl bg S0 S1 gw0 ga0 gw1 ga1 n a cg x sa pk fl gv gh gl hC68 (Nat.lt_of_le_of_lt hl0 (by decide)) (Nat.lt_of_le_of_lt hl1 (by decide)) (-1) (nI j13) 0 (by decide)) mH_L_allow qM_L_100 rfl rfl hl9.1 (Nat.le_of_ble_eq_true rfl) ⟨⟨Nat.le_of_ble_eq_true rfl, Nat.le_of_ble_eq_true rfl⟩, Nat.le_of_ble_eq_true rfl, Nat.le_of_ble_eq_true rfl⟩ dL_links_232 (fun E ce q9 f69 H locs hPX hw hS hce hcv hcl => ?_) (fun v f69 H locs hP hw hS => ?_)
      · exact hPX.elim
      · obtain ⟨ev9, hC70, k71⟩ := hP
        subst ev9
        have hC70 : CXW G f69 xo ez eo bu nw0 na0 nq0 nr0 nw1 na1 nq1 nr1 bs bp bh bf bl bg S0 S1 gw0 ga0 gw1 ga1 n a cg x sa pk fl gv gh gl := hC70
        refine W.eq (g2 := F0 m 235 ls [.int (-71)]) rfl ?_
        refine lv_bipush (v := (-71)) hx hb dL_links_235 (by decide) ?_
        refine lv_icmp_ne (tgt := 302) hx hb dL_links_237 (by decide) (fun c9 => absurd (by decide) c9) (fun _ => ?_)
        refine lv_aload_n hx hb dL_links_240 rfl (lv_at hl9 6 rfl) ?_
        refine lv_iload hx hb dL_links_241 (lv_at hl9 5 rfl) ?_
        refine lv_iconst (v := (-1)) hx hb dL_links_243 (by decide) ?_
        refine lv_iconst (v := 0) hx hb dL_links_244 (by decide) ?_
        refine hp_SH (As := [.ref xo, .int 0, .int (-1), .int 0]) (rest := []) B0 hw hS (c_V_allow_O0 hl G f69 xo ez eo bu nw0 na0 nq0 nr0 nw1 na1 nq1 nr1 bs bp bh bf bl bg S0 S1 gw0 ga0 gw1 ga1 n a cg x sa pk fl gv gh gl hC70 (Nat.lt_of_le_of_lt hl0 (by decide)) (Nat.lt_of_le_of_lt hl1 (by decide)) (-1) 0 (by decide)) mH_L_allow qM_L_100 rfl rfl hl9.1 (Nat.le_of_ble_eq_true rfl) ⟨⟨Nat.le_of_ble_eq_true rfl, Nat.le_of_ble_eq_true rfl⟩, Nat.le_of_ble_eq_true rfl, Nat.le_of_ble_eq_true rfl⟩ dL_links_245 (fun E ce q9 f72 H locs hPX hw hS hce hcv hcl => ?_) (fun v f72 H locs hP hw hS => ?_)
        · exact hPX.elim
        · obtain ⟨ev9, hC73, k74⟩ := hP
          subst ev9
          have hC73 : CXW G f72 xo ez eo bu nw0 na0 nq0 nr0 nw1 na1 nq1 nr1 bs bp bh bf bl bg S0 S1 gw0 ga0 gw1 ga1 n a cg x sa pk fl gv gh gl := hC73
          refine W.eq (g2 := F0 m 248 ls [.int (-71)]) rfl ?_
          refine lv_bipush (v := (-71)) hx hb dL_links_248 (by decide) ?_
          refine lv_icmp_ne (tgt := 302) hx hb dL_links_250 (by decide) (fun c9 => absurd (by decide) c9) (fun _ => ?_)
          refine lv_aload_n hx hb dL_links_253 rfl (lv_at hl9 6 rfl) ?_
          refine lv_iload hx hb dL_links_254 (lv_at hl9 5 rfl) ?_
          refine lv_iload hx hb dL_links_256 (lv_at hl9 2 rfl) ?_
          refine lv_sipush (v := 1024) hx hb dL_links_258 (by decide) ?_
          refine hp_SH (As := [.ref xo, .int 0, .int (nI j13), .int 1024]) (rest := []) B0 hw hS (c_V_allow_V0 hl G f72 xo ez eo bu nw0 na0 nq0 nr0 nw1 na1 nq1 nr1 bs bp bh bf bl bg S0 S1 gw0 ga0 gw1 ga1 n a cg x sa pk fl gv gh gl hC73 (Nat.lt_of_le_of_lt hl0 (by decide)) (Nat.lt_of_le_of_lt hl1 (by decide)) j13 (by omega) 1024 (by decide)) mH_L_allow qM_L_100 rfl rfl hl9.1 (Nat.le_of_ble_eq_true rfl) ⟨⟨Nat.le_of_ble_eq_true rfl, Nat.le_of_ble_eq_true rfl⟩, Nat.le_of_ble_eq_true rfl, Nat.le_of_ble_eq_true rfl⟩ dL_links_261 (fun E ce q9 f75 H locs hPX hw hS hce hcv hcl => ?_) (fun v f75 H locs hP hw hS => ?_)
          · exact hPX.elim
          · obtain ⟨ev9, hC76, k77⟩ := hP
            subst ev9
            have hC76 : CXW G f75 xo ez eo bu nw0 na0 nq0 nr0 nw1 na1 nq1 nr1 bs bp bh bf bl bg S0 S1 gw0 ga0 gw1 ga1 n a cg x sa pk fl gv gh gl := hC76
            refine W.eq (g2 := F0 m 264 ls [.int (-72)]) rfl ?_
            refine lv_bipush (v := (-72)) hx hb dL_links_264 (by decide) ?_
            refine lv_icmp_ne (tgt := 302) hx hb dL_links_266 (by decide) (fun c9 => absurd (by decide) c9) (fun _ => ?_)
            refine lv_aload_n hx hb dL_links_269 rfl (lv_at hl9 6 rfl) ?_
            refine lv_iload hx hb dL_links_270 (lv_at hl9 5 rfl) ?_
            refine lv_iload hx hb dL_links_272 (lv_at hl9 2 rfl) ?_
            refine lv_iconst (v := (-1)) hx hb dL_links_274 (by decide) ?_
            refine hp_SH (As := [.ref xo, .int 0, .int (nI j13), .int (-1)]) (rest := []) B0 hw hS (c_V_allow_V0 hl G f75 xo ez eo bu nw0 na0 nq0 nr0 nw1 na1 nq1 nr1 bs bp bh bf bl bg S0 S1 gw0 ga0 gw1 ga1 n a cg x sa pk fl gv gh gl hC76 (Nat.lt_of_le_of_lt hl0 (by decide)) (Nat.lt_of_le_of_lt hl1 (by decide)) j13 (by omega) (-1) (by decide)) mH_L_allow qM_L_100 rfl rfl hl9.1 (Nat.le_of_ble_eq_true rfl) ⟨⟨Nat.le_of_ble_eq_true rfl, Nat.le_of_ble_eq_true rfl⟩, Nat.le_of_ble_eq_true rfl, Nat.le_of_ble_eq_true rfl⟩ dL_links_275 (fun E ce q9 f78 H locs hPX hw hS hce hcv hcl => ?_) (fun v f78 H locs hP hw hS => ?_)
            · exact hPX.elim
            · obtain ⟨ev9, hC79, k80⟩ := hP
              subst ev9
              have hC79 : CXW G f78 xo ez eo bu nw0 na0 nq0 nr0 nw1 na1 nq1 nr1 bs bp bh bf bl bg S0 S1 gw0 ga0 gw1 ga1 n a cg x sa pk fl gv gh gl := hC79
              refine W.eq (g2 := F0 m 278 ls [.int (-72)]) rfl ?_
              refine lv_bipush (v := (-72)) hx hb dL_links_278 (by decide) ?_
              refine lv_icmp_ne (tgt := 302) hx hb dL_links_280 (by decide) (fun c9 => absurd (by decide) c9) (fun _ => ?_)
              refine lv_aload_n hx hb dL_links_283 rfl (lv_at hl9 6 rfl) ?_
              refine lv_iload hx hb dL_links_284 (lv_at hl9 5 rfl) ?_
              refine lv_iload hx hb dL_links_286 (lv_at hl9 2 rfl) ?_
              refine lv_iload hx hb dL_links_288 (lv_at hl9 1 rfl) ?_
              refine hp_SH (As := [.ref xo, .int 0, .int (nI j13), .int 1023]) (rest := []) B0 hw hS (c_V_allow_0 hl G f78 xo ez eo bu nw0 na0 nq0 nr0 nw1 na1 nq1 nr1 bs bp bh bf bl bg S0 S1 gw0 ga0 gw1 ga1 n a cg x sa pk fl gv gh gl hC79 (Nat.lt_of_le_of_lt hl0 (by decide)) (Nat.lt_of_le_of_lt hl1 (by decide)) j13 (by omega) 1023 ⟨by decide, by decide⟩) mH_L_allow qM_L_100 rfl rfl hl9.1 (Nat.le_of_ble_eq_true rfl) ⟨⟨Nat.le_of_ble_eq_true rfl, Nat.le_of_ble_eq_true rfl⟩, Nat.le_of_ble_eq_true rfl, Nat.le_of_ble_eq_true rfl⟩ dL_links_290 (fun E ce q9 f81 H locs hPX hw hS hce hcv hcl => ?_) (fun v f81 H locs hP hw hS => ?_)
              · exact hPX.elim
              · obtain ⟨ev9, hC82, k83⟩ := hP
                subst ev9
                have hC82 : CXW G f81 xo ez eo bu nw0 na0 nq0 nr0 nw1 na1 nq1 nr1 bs bp bh bf bl bg S0 S1 gw0 (upd ga0 j13 1023) gw1 ga1 n a cg x sa pk fl gv gh gl := hC82
                refine W.eq (g2 := F0 m 293 ls [.int ((ga0 j13))]) rfl ?_
                refine lv_iload hx hb dL_links_293 (lv_at hl9 0 rfl) ?_
                refine lv_icmp_ne (tgt := 302) hx hb dL_links_295 (by decide) (fun c9 => absurd rfl c9) (fun _ => ?_)
                refine lv_iconst (v := 1) hx hb dL_links_298 (by decide) ?_
                refine lv_goto (tgt := 303) hx hb dL_links_299 (by decide) ?_
                have h84 : f69 lx = some (.inl (cJ G, 64, .inr (.inl xs0))) := k71 _ _ h63 (Nat.ne_of_beq_eq_false rfl) (hdos _ List.mem_cons_self)
                have h85 : f72 lx = some (.inl (cJ G, 64, .inr (.inl xs0))) := k74 _ _ h84 (Nat.ne_of_beq_eq_false rfl) (hdos _ List.mem_cons_self)
                have h86 : f75 lx = some (.inl (cJ G, 64, .inr (.inl xs0))) := k77 _ _ h85 (Nat.ne_of_beq_eq_false rfl) (hdos _ List.mem_cons_self)
                have h87 : f78 lx = some (.inl (cJ G, 64, .inr (.inl xs0))) := k80 _ _ h86 (Nat.ne_of_beq_eq_false rfl) (hdos _ List.mem_cons_self)
                have h88 : f81 lx = some (.inl (cJ G, 64, .inr (.inl xs0))) := k83 _ _ h87 (Nat.ne_of_beq_eq_false rfl) (hdos _ List.mem_cons_self)
                have h89 : f69 ly = some (.inl (cJ G, 64, .inr (.inl xs1))) := k71 _ _ h64 (Nat.ne_of_beq_eq_false rfl) (hdos _ (List.mem_cons_of_mem _ List.mem_cons_self))
                have h90 : f72 ly = some (.inl (cJ G, 64, .inr (.inl xs1))) := k74 _ _ h89 (Nat.ne_of_beq_eq_false rfl) (hdos _ (List.mem_cons_of_mem _ List.mem_cons_self))
                have h91 : f75 ly = some (.inl (cJ G, 64, .inr (.inl xs1))) := k77 _ _ h90 (Nat.ne_of_beq_eq_false rfl) (hdos _ (List.mem_cons_of_mem _ List.mem_cons_self))
                have h92 : f78 ly = some (.inl (cJ G, 64, .inr (.inl xs1))) := k80 _ _ h91 (Nat.ne_of_beq_eq_false rfl) (hdos _ (List.mem_cons_of_mem _ List.mem_cons_self))
                have h93 : f81 ly = some (.inl (cJ G, 64, .inr (.inl xs1))) := k83 _ _ h92 (Nat.ne_of_beq_eq_false rfl) (hdos _ (List.mem_cons_of_mem _ List.mem_cons_self))
                have h94 : f69 lw = some (.inl (cI G, 12, .inl (j6r gw0 gw1))) := k71 _ _ h65 (Nat.ne_of_beq_eq_false rfl) (hdos _ (List.mem_cons_of_mem _ (List.mem_cons_of_mem _ List.mem_cons_self)))
                have h95 : f72 lw = some (.inl (cI G, 12, .inl (j6r gw0 gw1))) := k74 _ _ h94 (Nat.ne_of_beq_eq_false rfl) (hdos _ (List.mem_cons_of_mem _ (List.mem_cons_of_mem _ List.mem_cons_self)))
                have h96 : f75 lw = some (.inl (cI G, 12, .inl (j6r gw0 gw1))) := k77 _ _ h95 (Nat.ne_of_beq_eq_false rfl) (hdos _ (List.mem_cons_of_mem _ (List.mem_cons_of_mem _ List.mem_cons_self)))
                have h97 : f78 lw = some (.inl (cI G, 12, .inl (j6r gw0 gw1))) := k80 _ _ h96 (Nat.ne_of_beq_eq_false rfl) (hdos _ (List.mem_cons_of_mem _ (List.mem_cons_of_mem _ List.mem_cons_self)))
                have h98 : f81 lw = some (.inl (cI G, 12, .inl (j6r gw0 gw1))) := k83 _ _ h97 (Nat.ne_of_beq_eq_false rfl) (hdos _ (List.mem_cons_of_mem _ (List.mem_cons_of_mem _ List.mem_cons_self)))
                have h99 : f69 la = some (.inl (cI G, 12, .inl (j6r (upd ga0 j13 1023) ga1))) := k71 _ _ h62 (Nat.ne_of_beq_eq_false rfl) (hdos _ (List.mem_cons_of_mem _ (List.mem_cons_of_mem _ (List.mem_cons_of_mem _ List.mem_cons_self))))
                have h100 : f72 la = some (.inl (cI G, 12, .inl (j6r (upd ga0 j13 1023) ga1))) := k74 _ _ h99 (Nat.ne_of_beq_eq_false rfl) (hdos _ (List.mem_cons_of_mem _ (List.mem_cons_of_mem _ (List.mem_cons_of_mem _ List.mem_cons_self))))
                have h101 : f75 la = some (.inl (cI G, 12, .inl (j6r (upd ga0 j13 1023) ga1))) := k77 _ _ h100 (Nat.ne_of_beq_eq_false rfl) (hdos _ (List.mem_cons_of_mem _ (List.mem_cons_of_mem _ (List.mem_cons_of_mem _ List.mem_cons_self))))
                have h102 : f78 la = some (.inl (cI G, 12, .inl (j6r (upd ga0 j13 1023) ga1))) := k80 _ _ h101 (Nat.ne_of_beq_eq_false rfl) (hdos _ (List.mem_cons_of_mem _ (List.mem_cons_of_mem _ (List.mem_cons_of_mem _ List.mem_cons_self))))
                have h103 : f81 la = some (.inl (cI G, 12, .inl (j6r (upd ga0 j13 1023) ga1))) := k83 _ _ h102 (Nat.ne_of_beq_eq_false rfl) (hdos _ (List.mem_cons_of_mem _ (List.mem_cons_of_mem _ (List.mem_cons_of_mem _ List.mem_cons_self))))
                have h104 : f69 lq = some (.inl (cI G, 12, .inl (j6r S0.2.2.2.2.2.2.2.1 S1.2.2.2.2.2.2.2.1))) := k71 _ _ h66 (Nat.ne_of_beq_eq_false rfl) (hdos _ (List.mem_cons_of_mem _ (List.mem_cons_of_mem _ (List.mem_cons_of_mem _ (List.mem_cons_of_mem _ List.mem_cons_self)))))
                have h105 : f72 lq = some (.inl (cI G, 12, .inl (j6r S0.2.2.2.2.2.2.2.1 S1.2.2.2.2.2.2.2.1))) := k74 _ _ h104 (Nat.ne_of_beq_eq_false rfl) (hdos _ (List.mem_cons_of_mem _ (List.mem_cons_of_mem _ (List.mem_cons_of_mem _ (List.mem_cons_of_mem _ List.mem_cons_self)))))
                have h106 : f75 lq = some (.inl (cI G, 12, .inl (j6r S0.2.2.2.2.2.2.2.1 S1.2.2.2.2.2.2.2.1))) := k77 _ _ h105 (Nat.ne_of_beq_eq_false rfl) (hdos _ (List.mem_cons_of_mem _ (List.mem_cons_of_mem _ (List.mem_cons_of_mem _ (List.mem_cons_of_mem _ List.mem_cons_self)))))
                have h107 : f78 lq = some (.inl (cI G, 12, .inl (j6r S0.2.2.2.2.2.2.2.1 S1.2.2.2.2.2.2.2.1))) := k80 _ _ h106 (Nat.ne_of_beq_eq_false rfl) (hdos _ (List.mem_cons_of_mem _ (List.mem_cons_of_mem _ (List.mem_cons_of_mem _ (List.mem_cons_of_mem _ List.mem_cons_self)))))
                have h108 : f81 lq = some (.inl (cI G, 12, .inl (j6r S0.2.2.2.2.2.2.2.1 S1.2.2.2.2.2.2.2.1))) := k83 _ _ h107 (Nat.ne_of_beq_eq_false rfl) (hdos _ (List.mem_cons_of_mem _ (List.mem_cons_of_mem _ (List.mem_cons_of_mem _ (List.mem_cons_of_mem _ List.mem_cons_self)))))
                have h109 : f69 le = some (.inl (cI G, 16, .inl (jE (e8r S0.1 S0.2.1 S0.2.2.1 S0.2.2.2.1 S0.2.2.2.2.1 S0.2.2.2.2.2.1 S0.2.2.2.2.2.2.1 (nI S0.2.2.2.2.2.2.2.2.length)) (eSt S1)))) := k71 _ _ h67 (Nat.ne_of_beq_eq_false rfl) (hdos _ (List.mem_cons_of_mem _ (List.mem_cons_of_mem _ (List.mem_cons_of_mem _ (List.mem_cons_of_mem _ (List.mem_cons_of_mem _ List.mem_cons_self))))))
                have h110 : f72 le = some (.inl (cI G, 16, .inl (jE (e8r S0.1 S0.2.1 S0.2.2.1 S0.2.2.2.1 S0.2.2.2.2.1 S0.2.2.2.2.2.1 S0.2.2.2.2.2.2.1 (nI S0.2.2.2.2.2.2.2.2.length)) (eSt S1)))) := k74 _ _ h109 (Nat.ne_of_beq_eq_false rfl) (hdos _ (List.mem_cons_of_mem _ (List.mem_cons_of_mem _ (List.mem_cons_of_mem _ (List.mem_cons_of_mem _ (List.mem_cons_of_mem _ List.mem_cons_self))))))
                have h111 : f75 le = some (.inl (cI G, 16, .inl (jE (e8r S0.1 S0.2.1 S0.2.2.1 S0.2.2.2.1 S0.2.2.2.2.1 S0.2.2.2.2.2.1 S0.2.2.2.2.2.2.1 (nI S0.2.2.2.2.2.2.2.2.length)) (eSt S1)))) := k77 _ _ h110 (Nat.ne_of_beq_eq_false rfl) (hdos _ (List.mem_cons_of_mem _ (List.mem_cons_of_mem _ (List.mem_cons_of_mem _ (List.mem_cons_of_mem _ (List.mem_cons_of_mem _ List.mem_cons_self))))))
                have h112 : f78 le = some (.inl (cI G, 16, .inl (jE (e8r S0.1 S0.2.1 S0.2.2.1 S0.2.2.2.1 S0.2.2.2.2.1 S0.2.2.2.2.2.1 S0.2.2.2.2.2.2.1 (nI S0.2.2.2.2.2.2.2.2.length)) (eSt S1)))) := k80 _ _ h111 (Nat.ne_of_beq_eq_false rfl) (hdos _ (List.mem_cons_of_mem _ (List.mem_cons_of_mem _ (List.mem_cons_of_mem _ (List.mem_cons_of_mem _ (List.mem_cons_of_mem _ List.mem_cons_self))))))
                have h113 : f81 le = some (.inl (cI G, 16, .inl (jE (e8r S0.1 S0.2.1 S0.2.2.1 S0.2.2.2.1 S0.2.2.2.2.1 S0.2.2.2.2.2.1 S0.2.2.2.2.2.2.1 (nI S0.2.2.2.2.2.2.2.2.length)) (eSt S1)))) := k83 _ _ h112 (Nat.ne_of_beq_eq_false rfl) (hdos _ (List.mem_cons_of_mem _ (List.mem_cons_of_mem _ (List.mem_cons_of_mem _ (List.mem_cons_of_mem _ (List.mem_cons_of_mem _ List.mem_cons_self))))))
                exact hp_zret (v := 1) B0 hw hS hr ⟨Nat.le_of_ble_eq_true rfl, Nat.le_of_ble_eq_true rfl⟩ (rfl) dL_links_303 (⟨rfl, S0, S1, gw0, (upd ga0 j13 1023), gw1, ga1, hC82, ⟨⟨_, h88, hX0⟩, ⟨_, h93, hX1⟩, h98, h103, h108, h113⟩, ⟨SOK.mono hSo0 (by omega), SOK.mono hSo1 (by omega), hgw0, (AOK_upd hga0 ⟨by decide, by decide⟩), hgw1, hga1⟩, hl0, hl1, ((show hKn [lx, ly, lw, la, lq, le, xo, ez, eo, bu, nw0, na0, nq0, nr0, nw1, na1, nq1, nr1, bs, bp, bh, bf, bl, bg] f f61 from (by rw [ef61]; exact hKn.up (List.mem_cons_of_mem _ (List.mem_cons_of_mem _ (List.mem_cons_of_mem _ List.mem_cons_self))))).tr ((show hKn [lx, ly, lw, la, lq, le, xo, ez, eo, bu, nw0, na0, nq0, nr0, nw1, na1, nq1, nr1, bs, bp, bh, bf, bl, bg] f61 f69 from (hKn.mono k71 sbA)).tr ((show hKn [lx, ly, lw, la, lq, le, xo, ez, eo, bu, nw0, na0, nq0, nr0, nw1, na1, nq1, nr1, bs, bp, bh, bf, bl, bg] f69 f72 from (hKn.mono k74 sbA)).tr ((show hKn [lx, ly, lw, la, lq, le, xo, ez, eo, bu, nw0, na0, nq0, nr0, nw1, na1, nq1, nr1, bs, bp, bh, bf, bl, bg] f72 f75 from (hKn.mono k77 sbA)).tr ((show hKn [lx, ly, lw, la, lq, le, xo, ez, eo, bu, nw0, na0, nq0, nr0, nw1, na1, nq1, nr1, bs, bp, bh, bf, bl, bg] f75 f78 from (hKn.mono k80 sbA)).tr (show hKn [lx, ly, lw, la, lq, le, xo, ez, eo, bu, nw0, na0, nq0, nr0, nw1, na1, nq1, nr1, bs, bp, bh, bf, bl, bg] f78 f81 from (hKn.mono k83 sbA)))))))⟩)
  · refine lv_iconst (v := 0) hx hb dL_links_170 (by decide) ?_
    refine lv_goto (tgt := 199) hx hb dL_links_171 (by decide) ?_
    refine lv_istore (lv' := [(14, .int 0), (13, .int (nI j13)), (12, .ref lx), (11, .int 0), (10, .int 0), (0, .ref xo), (1, .int (nI ac)), (2, .int u), (3, .int z), (4, .ref lx), (5, .ref ly), (6, .ref lw), (7, .ref la), (8, .ref lq), (9, .ref le)]) hx hb dL_links_199 hl9 (by decide) rfl (fun ls hl9 => ?_)
    refine lv_aload hx hb dL_links_201 (lv_at hl9 12 rfl) ?_
    refine lv_bipush (v := 6) hx hb dL_links_203 (by decide) ?_
    refine lv_iload hx hb dL_links_205 (lv_at hl9 4 rfl) ?_
    refine lv_imul hx hb dL_links_207 ?_
    refine hp_c (v := 0) (by decide) ?_
    refine lv_iload hx hb dL_links_208 (lv_at hl9 1 rfl) ?_
    refine lv_iadd hx hb dL_links_210 ?_
    refine hp_c (v := (nI j13)) (by rw [show (0 : Int32) = nI 0 from rfl, nI_add, Nat.zero_add]) ?_
    refine hp_iald B0 hw k_la (vp_in_nI (show j13 < 12 by omega) (by omega)) dL_links_211 ?_
    refine hp_c (v := (ga0 j13)) ((by rw [nI_clamp (by omega)]; exact j6_0 (by omega))) ?_
    refine lv_istore (lv' := [(15, .int (ga0 j13)), (14, .int 0), (13, .int (nI j13)), (12, .ref lx), (11, .int 0), (10, .int 0), (0, .ref xo), (1, .int (nI ac)), (2, .int u), (3, .int z), (4, .ref lx), (5, .ref ly), (6, .ref lw), (7, .ref la), (8, .ref lq), (9, .ref le)]) hx hb dL_links_212 hl9 (by decide) rfl (fun ls hl9 => ?_)
    refine lv_aload hx hb dL_links_214 (lv_at hl9 13 rfl) ?_
    refine lv_bipush (v := 6) hx hb dL_links_216 (by decide) ?_
    refine lv_iload hx hb dL_links_218 (lv_at hl9 5 rfl) ?_
    refine lv_imul hx hb dL_links_220 ?_
    refine hp_c (v := 0) (by decide) ?_
    refine lv_iload hx hb dL_links_221 (lv_at hl9 2 rfl) ?_
    refine lv_iadd hx hb dL_links_223 ?_
    refine hp_c (v := (nI j13)) (by rw [show (0 : Int32) = nI 0 from rfl, nI_add, Nat.zero_add]) ?_
    refine lv_iload hx hb dL_links_224 (lv_at hl9 1 rfl) ?_
    refine hp_iast B0 hw hS k_la (vp_in_nI (show j13 < 12 by omega) (by omega)) dL_links_226 (fun H locs f114 ef114 hw hS => ?_)
    rw [show (upd (j6r ga0 ga1) ((nI j13) : Int32).toNatClampNeg 0 : Nat → Int32) = (j6r (upd ga0 j13 0) ga1) from (by rw [nI_clamp (by omega), j6_u0 (by omega)])] at ef114
    have h115 : f114 la = some (.inl (cI G, 12, .inl (j6r (upd ga0 j13 0) ga1))) := by rw [ef114, va_up_self]
    refine lv_aload_n hx hb dL_links_227 rfl (lv_at hl9 6 rfl) ?_
    refine lv_iconst (v := (-1)) hx hb dL_links_228 (by decide) ?_
    refine lv_iload hx hb dL_links_229 (lv_at hl9 2 rfl) ?_
    refine lv_iconst (v := 0) hx hb dL_links_231 (by decide) ?_
    have h116 : f114 lx = some (.inl (cJ G, 64, .inr (.inl xs0))) := by rw [ef114, va_up_ne _ _ n_lx_la]; exact k_lx
    have h117 : f114 ly = some (.inl (cJ G, 64, .inr (.inl xs1))) := by rw [ef114, va_up_ne _ _ n_ly_la]; exact k_ly
    have h118 : f114 lw = some (.inl (cI G, 12, .inl (j6r gw0 gw1))) := by rw [ef114, va_up_ne _ _ n_lw_la]; exact k_lw
    have h119 : f114 lq = some (.inl (cI G, 12, .inl (j6r S0.2.2.2.2.2.2.2.1 S1.2.2.2.2.2.2.2.1))) := by rw [ef114, va_up_ne _ _ (Ne.symm n_la_lq)]; exact k_lq
    have h120 : f114 le = some (.inl (cI G, 16, .inl (jE (e8r S0.1 S0.2.1 S0.2.2.1 S0.2.2.2.1 S0.2.2.2.2.1 S0.2.2.2.2.2.1 S0.2.2.2.2.2.2.1 (nI S0.2.2.2.2.2.2.2.2.length)) (eSt S1)))) := by rw [ef114, va_up_ne _ _ (Ne.symm n_la_le)]; exact h1
    have hC121 : CXW G f114 xo ez eo bu nw0 na0 nq0 nr0 nw1 na1 nq1 nr1 bs bp bh bf bl bg S0 S1 gw0 ga0 gw1 ga1 n a cg x sa pk fl gv gh gl := CXW.eq hC (show hEq [lx, ly, lw, la, lq, le] f f114 from (by rw [ef114]; exact hEq.up (List.mem_cons_of_mem _ (List.mem_cons_of_mem _ (List.mem_cons_of_mem _ List.mem_cons_self))))) hdis (fun b9 hb9 => by
        simp only [List.mem_cons, List.not_mem_nil, or_false] at hb9
        rcases hb9 with hb9 | hb9 | hb9 | hb9 | hb9 | hb9
        · rw [hb9]; exact ⟨_, _, k_lx, h116, (Nat.ne_of_beq_eq_false rfl), (Nat.ne_of_beq_eq_false rfl)⟩
        · rw [hb9]; exact ⟨_, _, k_ly, h117, (Nat.ne_of_beq_eq_false rfl), (Nat.ne_of_beq_eq_false rfl)⟩
        · rw [hb9]; exact ⟨_, _, k_lw, h118, (Nat.ne_of_beq_eq_false rfl), (Nat.ne_of_beq_eq_false rfl)⟩
        · rw [hb9]; exact ⟨_, _, k_la, h115, (Nat.ne_of_beq_eq_false rfl), (Nat.ne_of_beq_eq_false rfl)⟩
        · rw [hb9]; exact ⟨_, _, k_lq, h119, (Nat.ne_of_beq_eq_false rfl), (Nat.ne_of_beq_eq_false rfl)⟩
        · rw [hb9]; exact ⟨_, _, h1, h120, (Nat.ne_of_beq_eq_false rfl), (Nat.ne_of_beq_eq_false rfl)⟩)
    refine hp_SH (As := [.ref xo, .int (-1), .int (nI j13), .int 0]) (rest := []) B0 hw hS (c_V_allow_E hl G f114 xo ez eo bu nw0 na0 nq0 nr0 nw1 na1 nq1 nr1 bs bp bh bf bl bg S0 S1 gw0 ga0 gw1 ga1 n a cg x sa pk fl gv gh gl hC121 (Nat.lt_of_le_of_lt hl0 (by decide)) (Nat.lt_of_le_of_lt hl1 (by decide)) (-1) (nI j13) 0 (by decide)) mH_L_allow qM_L_100 rfl rfl hl9.1 (Nat.le_of_ble_eq_true rfl) ⟨⟨Nat.le_of_ble_eq_true rfl, Nat.le_of_ble_eq_true rfl⟩, Nat.le_of_ble_eq_true rfl, Nat.le_of_ble_eq_true rfl⟩ dL_links_232 (fun E ce q9 f122 H locs hPX hw hS hce hcv hcl => ?_) (fun v f122 H locs hP hw hS => ?_)
    · exact hPX.elim
    · obtain ⟨ev9, hC123, k124⟩ := hP
      subst ev9
      have hC123 : CXW G f122 xo ez eo bu nw0 na0 nq0 nr0 nw1 na1 nq1 nr1 bs bp bh bf bl bg S0 S1 gw0 ga0 gw1 ga1 n a cg x sa pk fl gv gh gl := hC123
      refine W.eq (g2 := F0 m 235 ls [.int (-71)]) rfl ?_
      refine lv_bipush (v := (-71)) hx hb dL_links_235 (by decide) ?_
      refine lv_icmp_ne (tgt := 302) hx hb dL_links_237 (by decide) (fun c9 => absurd (by decide) c9) (fun _ => ?_)
      refine lv_aload_n hx hb dL_links_240 rfl (lv_at hl9 6 rfl) ?_
      refine lv_iload hx hb dL_links_241 (lv_at hl9 5 rfl) ?_
      refine lv_iconst (v := (-1)) hx hb dL_links_243 (by decide) ?_
      refine lv_iconst (v := 0) hx hb dL_links_244 (by decide) ?_
      refine hp_SH (As := [.ref xo, .int 0, .int (-1), .int 0]) (rest := []) B0 hw hS (c_V_allow_O0 hl G f122 xo ez eo bu nw0 na0 nq0 nr0 nw1 na1 nq1 nr1 bs bp bh bf bl bg S0 S1 gw0 ga0 gw1 ga1 n a cg x sa pk fl gv gh gl hC123 (Nat.lt_of_le_of_lt hl0 (by decide)) (Nat.lt_of_le_of_lt hl1 (by decide)) (-1) 0 (by decide)) mH_L_allow qM_L_100 rfl rfl hl9.1 (Nat.le_of_ble_eq_true rfl) ⟨⟨Nat.le_of_ble_eq_true rfl, Nat.le_of_ble_eq_true rfl⟩, Nat.le_of_ble_eq_true rfl, Nat.le_of_ble_eq_true rfl⟩ dL_links_245 (fun E ce q9 f125 H locs hPX hw hS hce hcv hcl => ?_) (fun v f125 H locs hP hw hS => ?_)
      · exact hPX.elim
      · obtain ⟨ev9, hC126, k127⟩ := hP
        subst ev9
        have hC126 : CXW G f125 xo ez eo bu nw0 na0 nq0 nr0 nw1 na1 nq1 nr1 bs bp bh bf bl bg S0 S1 gw0 ga0 gw1 ga1 n a cg x sa pk fl gv gh gl := hC126
        refine W.eq (g2 := F0 m 248 ls [.int (-71)]) rfl ?_
        refine lv_bipush (v := (-71)) hx hb dL_links_248 (by decide) ?_
        refine lv_icmp_ne (tgt := 302) hx hb dL_links_250 (by decide) (fun c9 => absurd (by decide) c9) (fun _ => ?_)
        refine lv_aload_n hx hb dL_links_253 rfl (lv_at hl9 6 rfl) ?_
        refine lv_iload hx hb dL_links_254 (lv_at hl9 5 rfl) ?_
        refine lv_iload hx hb dL_links_256 (lv_at hl9 2 rfl) ?_
        refine lv_sipush (v := 1024) hx hb dL_links_258 (by decide) ?_
        refine hp_SH (As := [.ref xo, .int 0, .int (nI j13), .int 1024]) (rest := []) B0 hw hS (c_V_allow_V0 hl G f125 xo ez eo bu nw0 na0 nq0 nr0 nw1 na1 nq1 nr1 bs bp bh bf bl bg S0 S1 gw0 ga0 gw1 ga1 n a cg x sa pk fl gv gh gl hC126 (Nat.lt_of_le_of_lt hl0 (by decide)) (Nat.lt_of_le_of_lt hl1 (by decide)) j13 (by omega) 1024 (by decide)) mH_L_allow qM_L_100 rfl rfl hl9.1 (Nat.le_of_ble_eq_true rfl) ⟨⟨Nat.le_of_ble_eq_true rfl, Nat.le_of_ble_eq_true rfl⟩, Nat.le_of_ble_eq_true rfl, Nat.le_of_ble_eq_true rfl⟩ dL_links_261 (fun E ce q9 f128 H locs hPX hw hS hce hcv hcl => ?_) (fun v f128 H locs hP hw hS => ?_)
        · exact hPX.elim
        · obtain ⟨ev9, hC129, k130⟩ := hP
          subst ev9
          have hC129 : CXW G f128 xo ez eo bu nw0 na0 nq0 nr0 nw1 na1 nq1 nr1 bs bp bh bf bl bg S0 S1 gw0 ga0 gw1 ga1 n a cg x sa pk fl gv gh gl := hC129
          refine W.eq (g2 := F0 m 264 ls [.int (-72)]) rfl ?_
          refine lv_bipush (v := (-72)) hx hb dL_links_264 (by decide) ?_
          refine lv_icmp_ne (tgt := 302) hx hb dL_links_266 (by decide) (fun c9 => absurd (by decide) c9) (fun _ => ?_)
          refine lv_aload_n hx hb dL_links_269 rfl (lv_at hl9 6 rfl) ?_
          refine lv_iload hx hb dL_links_270 (lv_at hl9 5 rfl) ?_
          refine lv_iload hx hb dL_links_272 (lv_at hl9 2 rfl) ?_
          refine lv_iconst (v := (-1)) hx hb dL_links_274 (by decide) ?_
          refine hp_SH (As := [.ref xo, .int 0, .int (nI j13), .int (-1)]) (rest := []) B0 hw hS (c_V_allow_V0 hl G f128 xo ez eo bu nw0 na0 nq0 nr0 nw1 na1 nq1 nr1 bs bp bh bf bl bg S0 S1 gw0 ga0 gw1 ga1 n a cg x sa pk fl gv gh gl hC129 (Nat.lt_of_le_of_lt hl0 (by decide)) (Nat.lt_of_le_of_lt hl1 (by decide)) j13 (by omega) (-1) (by decide)) mH_L_allow qM_L_100 rfl rfl hl9.1 (Nat.le_of_ble_eq_true rfl) ⟨⟨Nat.le_of_ble_eq_true rfl, Nat.le_of_ble_eq_true rfl⟩, Nat.le_of_ble_eq_true rfl, Nat.le_of_ble_eq_true rfl⟩ dL_links_275 (fun E ce q9 f131 H locs hPX hw hS hce hcv hcl => ?_) (fun v f131 H locs hP hw hS => ?_)
          · exact hPX.elim
          · obtain ⟨ev9, hC132, k133⟩ := hP
            subst ev9
            have hC132 : CXW G f131 xo ez eo bu nw0 na0 nq0 nr0 nw1 na1 nq1 nr1 bs bp bh bf bl bg S0 S1 gw0 ga0 gw1 ga1 n a cg x sa pk fl gv gh gl := hC132
            refine W.eq (g2 := F0 m 278 ls [.int (-72)]) rfl ?_
            refine lv_bipush (v := (-72)) hx hb dL_links_278 (by decide) ?_
            refine lv_icmp_ne (tgt := 302) hx hb dL_links_280 (by decide) (fun c9 => absurd (by decide) c9) (fun _ => ?_)
            refine lv_aload_n hx hb dL_links_283 rfl (lv_at hl9 6 rfl) ?_
            refine lv_iload hx hb dL_links_284 (lv_at hl9 5 rfl) ?_
            refine lv_iload hx hb dL_links_286 (lv_at hl9 2 rfl) ?_
            refine lv_iload hx hb dL_links_288 (lv_at hl9 1 rfl) ?_
            refine hp_SH (As := [.ref xo, .int 0, .int (nI j13), .int 0]) (rest := []) B0 hw hS (c_V_allow_0 hl G f131 xo ez eo bu nw0 na0 nq0 nr0 nw1 na1 nq1 nr1 bs bp bh bf bl bg S0 S1 gw0 ga0 gw1 ga1 n a cg x sa pk fl gv gh gl hC132 (Nat.lt_of_le_of_lt hl0 (by decide)) (Nat.lt_of_le_of_lt hl1 (by decide)) j13 (by omega) 0 ⟨by decide, by decide⟩) mH_L_allow qM_L_100 rfl rfl hl9.1 (Nat.le_of_ble_eq_true rfl) ⟨⟨Nat.le_of_ble_eq_true rfl, Nat.le_of_ble_eq_true rfl⟩, Nat.le_of_ble_eq_true rfl, Nat.le_of_ble_eq_true rfl⟩ dL_links_290 (fun E ce q9 f134 H locs hPX hw hS hce hcv hcl => ?_) (fun v f134 H locs hP hw hS => ?_)
            · exact hPX.elim
            · obtain ⟨ev9, hC135, k136⟩ := hP
              subst ev9
              have hC135 : CXW G f134 xo ez eo bu nw0 na0 nq0 nr0 nw1 na1 nq1 nr1 bs bp bh bf bl bg S0 S1 gw0 (upd ga0 j13 0) gw1 ga1 n a cg x sa pk fl gv gh gl := hC135
              refine W.eq (g2 := F0 m 293 ls [.int ((ga0 j13))]) rfl ?_
              refine lv_iload hx hb dL_links_293 (lv_at hl9 0 rfl) ?_
              refine lv_icmp_ne (tgt := 302) hx hb dL_links_295 (by decide) (fun c9 => absurd rfl c9) (fun _ => ?_)
              refine lv_iconst (v := 1) hx hb dL_links_298 (by decide) ?_
              refine lv_goto (tgt := 303) hx hb dL_links_299 (by decide) ?_
              have h137 : f122 lx = some (.inl (cJ G, 64, .inr (.inl xs0))) := k124 _ _ h116 (Nat.ne_of_beq_eq_false rfl) (hdos _ List.mem_cons_self)
              have h138 : f125 lx = some (.inl (cJ G, 64, .inr (.inl xs0))) := k127 _ _ h137 (Nat.ne_of_beq_eq_false rfl) (hdos _ List.mem_cons_self)
              have h139 : f128 lx = some (.inl (cJ G, 64, .inr (.inl xs0))) := k130 _ _ h138 (Nat.ne_of_beq_eq_false rfl) (hdos _ List.mem_cons_self)
              have h140 : f131 lx = some (.inl (cJ G, 64, .inr (.inl xs0))) := k133 _ _ h139 (Nat.ne_of_beq_eq_false rfl) (hdos _ List.mem_cons_self)
              have h141 : f134 lx = some (.inl (cJ G, 64, .inr (.inl xs0))) := k136 _ _ h140 (Nat.ne_of_beq_eq_false rfl) (hdos _ List.mem_cons_self)
              have h142 : f122 ly = some (.inl (cJ G, 64, .inr (.inl xs1))) := k124 _ _ h117 (Nat.ne_of_beq_eq_false rfl) (hdos _ (List.mem_cons_of_mem _ List.mem_cons_self))
              have h143 : f125 ly = some (.inl (cJ G, 64, .inr (.inl xs1))) := k127 _ _ h142 (Nat.ne_of_beq_eq_false rfl) (hdos _ (List.mem_cons_of_mem _ List.mem_cons_self))
              have h144 : f128 ly = some (.inl (cJ G, 64, .inr (.inl xs1))) := k130 _ _ h143 (Nat.ne_of_beq_eq_false rfl) (hdos _ (List.mem_cons_of_mem _ List.mem_cons_self))
              have h145 : f131 ly = some (.inl (cJ G, 64, .inr (.inl xs1))) := k133 _ _ h144 (Nat.ne_of_beq_eq_false rfl) (hdos _ (List.mem_cons_of_mem _ List.mem_cons_self))
              have h146 : f134 ly = some (.inl (cJ G, 64, .inr (.inl xs1))) := k136 _ _ h145 (Nat.ne_of_beq_eq_false rfl) (hdos _ (List.mem_cons_of_mem _ List.mem_cons_self))
              have h147 : f122 lw = some (.inl (cI G, 12, .inl (j6r gw0 gw1))) := k124 _ _ h118 (Nat.ne_of_beq_eq_false rfl) (hdos _ (List.mem_cons_of_mem _ (List.mem_cons_of_mem _ List.mem_cons_self)))
              have h148 : f125 lw = some (.inl (cI G, 12, .inl (j6r gw0 gw1))) := k127 _ _ h147 (Nat.ne_of_beq_eq_false rfl) (hdos _ (List.mem_cons_of_mem _ (List.mem_cons_of_mem _ List.mem_cons_self)))
              have h149 : f128 lw = some (.inl (cI G, 12, .inl (j6r gw0 gw1))) := k130 _ _ h148 (Nat.ne_of_beq_eq_false rfl) (hdos _ (List.mem_cons_of_mem _ (List.mem_cons_of_mem _ List.mem_cons_self)))
              have h150 : f131 lw = some (.inl (cI G, 12, .inl (j6r gw0 gw1))) := k133 _ _ h149 (Nat.ne_of_beq_eq_false rfl) (hdos _ (List.mem_cons_of_mem _ (List.mem_cons_of_mem _ List.mem_cons_self)))
              have h151 : f134 lw = some (.inl (cI G, 12, .inl (j6r gw0 gw1))) := k136 _ _ h150 (Nat.ne_of_beq_eq_false rfl) (hdos _ (List.mem_cons_of_mem _ (List.mem_cons_of_mem _ List.mem_cons_self)))
              have h152 : f122 la = some (.inl (cI G, 12, .inl (j6r (upd ga0 j13 0) ga1))) := k124 _ _ h115 (Nat.ne_of_beq_eq_false rfl) (hdos _ (List.mem_cons_of_mem _ (List.mem_cons_of_mem _ (List.mem_cons_of_mem _ List.mem_cons_self))))
              have h153 : f125 la = some (.inl (cI G, 12, .inl (j6r (upd ga0 j13 0) ga1))) := k127 _ _ h152 (Nat.ne_of_beq_eq_false rfl) (hdos _ (List.mem_cons_of_mem _ (List.mem_cons_of_mem _ (List.mem_cons_of_mem _ List.mem_cons_self))))
              have h154 : f128 la = some (.inl (cI G, 12, .inl (j6r (upd ga0 j13 0) ga1))) := k130 _ _ h153 (Nat.ne_of_beq_eq_false rfl) (hdos _ (List.mem_cons_of_mem _ (List.mem_cons_of_mem _ (List.mem_cons_of_mem _ List.mem_cons_self))))
              have h155 : f131 la = some (.inl (cI G, 12, .inl (j6r (upd ga0 j13 0) ga1))) := k133 _ _ h154 (Nat.ne_of_beq_eq_false rfl) (hdos _ (List.mem_cons_of_mem _ (List.mem_cons_of_mem _ (List.mem_cons_of_mem _ List.mem_cons_self))))
              have h156 : f134 la = some (.inl (cI G, 12, .inl (j6r (upd ga0 j13 0) ga1))) := k136 _ _ h155 (Nat.ne_of_beq_eq_false rfl) (hdos _ (List.mem_cons_of_mem _ (List.mem_cons_of_mem _ (List.mem_cons_of_mem _ List.mem_cons_self))))
              have h157 : f122 lq = some (.inl (cI G, 12, .inl (j6r S0.2.2.2.2.2.2.2.1 S1.2.2.2.2.2.2.2.1))) := k124 _ _ h119 (Nat.ne_of_beq_eq_false rfl) (hdos _ (List.mem_cons_of_mem _ (List.mem_cons_of_mem _ (List.mem_cons_of_mem _ (List.mem_cons_of_mem _ List.mem_cons_self)))))
              have h158 : f125 lq = some (.inl (cI G, 12, .inl (j6r S0.2.2.2.2.2.2.2.1 S1.2.2.2.2.2.2.2.1))) := k127 _ _ h157 (Nat.ne_of_beq_eq_false rfl) (hdos _ (List.mem_cons_of_mem _ (List.mem_cons_of_mem _ (List.mem_cons_of_mem _ (List.mem_cons_of_mem _ List.mem_cons_self)))))
              have h159 : f128 lq = some (.inl (cI G, 12, .inl (j6r S0.2.2.2.2.2.2.2.1 S1.2.2.2.2.2.2.2.1))) := k130 _ _ h158 (Nat.ne_of_beq_eq_false rfl) (hdos _ (List.mem_cons_of_mem _ (List.mem_cons_of_mem _ (List.mem_cons_of_mem _ (List.mem_cons_of_mem _ List.mem_cons_self)))))
              have h160 : f131 lq = some (.inl (cI G, 12, .inl (j6r S0.2.2.2.2.2.2.2.1 S1.2.2.2.2.2.2.2.1))) := k133 _ _ h159 (Nat.ne_of_beq_eq_false rfl) (hdos _ (List.mem_cons_of_mem _ (List.mem_cons_of_mem _ (List.mem_cons_of_mem _ (List.mem_cons_of_mem _ List.mem_cons_self)))))
              have h161 : f134 lq = some (.inl (cI G, 12, .inl (j6r S0.2.2.2.2.2.2.2.1 S1.2.2.2.2.2.2.2.1))) := k136 _ _ h160 (Nat.ne_of_beq_eq_false rfl) (hdos _ (List.mem_cons_of_mem _ (List.mem_cons_of_mem _ (List.mem_cons_of_mem _ (List.mem_cons_of_mem _ List.mem_cons_self)))))
              have h162 : f122 le = some (.inl (cI G, 16, .inl (jE (e8r S0.1 S0.2.1 S0.2.2.1 S0.2.2.2.1 S0.2.2.2.2.1 S0.2.2.2.2.2.1 S0.2.2.2.2.2.2.1 (nI S0.2.2.2.2.2.2.2.2.length)) (eSt S1)))) := k124 _ _ h120 (Nat.ne_of_beq_eq_false rfl) (hdos _ (List.mem_cons_of_mem _ (List.mem_cons_of_mem _ (List.mem_cons_of_mem _ (List.mem_cons_of_mem _ (List.mem_cons_of_mem _ List.mem_cons_self))))))
              have h163 : f125 le = some (.inl (cI G, 16, .inl (jE (e8r S0.1 S0.2.1 S0.2.2.1 S0.2.2.2.1 S0.2.2.2.2.1 S0.2.2.2.2.2.1 S0.2.2.2.2.2.2.1 (nI S0.2.2.2.2.2.2.2.2.length)) (eSt S1)))) := k127 _ _ h162 (Nat.ne_of_beq_eq_false rfl) (hdos _ (List.mem_cons_of_mem _ (List.mem_cons_of_mem _ (List.mem_cons_of_mem _ (List.mem_cons_of_mem _ (List.mem_cons_of_mem _ List.mem_cons_self))))))
              have h164 : f128 le = some (.inl (cI G, 16, .inl (jE (e8r S0.1 S0.2.1 S0.2.2.1 S0.2.2.2.1 S0.2.2.2.2.1 S0.2.2.2.2.2.1 S0.2.2.2.2.2.2.1 (nI S0.2.2.2.2.2.2.2.2.length)) (eSt S1)))) := k130 _ _ h163 (Nat.ne_of_beq_eq_false rfl) (hdos _ (List.mem_cons_of_mem _ (List.mem_cons_of_mem _ (List.mem_cons_of_mem _ (List.mem_cons_of_mem _ (List.mem_cons_of_mem _ List.mem_cons_self))))))
              have h165 : f131 le = some (.inl (cI G, 16, .inl (jE (e8r S0.1 S0.2.1 S0.2.2.1 S0.2.2.2.1 S0.2.2.2.2.1 S0.2.2.2.2.2.1 S0.2.2.2.2.2.2.1 (nI S0.2.2.2.2.2.2.2.2.length)) (eSt S1)))) := k133 _ _ h164 (Nat.ne_of_beq_eq_false rfl) (hdos _ (List.mem_cons_of_mem _ (List.mem_cons_of_mem _ (List.mem_cons_of_mem _ (List.mem_cons_of_mem _ (List.mem_cons_of_mem _ List.mem_cons_self))))))
              have h166 : f134 le = some (.inl (cI G, 16, .inl (jE (e8r S0.1 S0.2.1 S0.2.2.1 S0.2.2.2.1 S0.2.2.2.2.1 S0.2.2.2.2.2.1 S0.2.2.2.2.2.2.1 (nI S0.2.2.2.2.2.2.2.2.length)) (eSt S1)))) := k136 _ _ h165 (Nat.ne_of_beq_eq_false rfl) (hdos _ (List.mem_cons_of_mem _ (List.mem_cons_of_mem _ (List.mem_cons_of_mem _ (List.mem_cons_of_mem _ (List.mem_cons_of_mem _ List.mem_cons_self))))))
              exact hp_zret (v := 1) B0 hw hS hr ⟨Nat.le_of_ble_eq_true rfl, Nat.le_of_ble_eq_true rfl⟩ (rfl) dL_links_303 (⟨rfl, S0, S1, gw0, (upd ga0 j13 0), gw1, ga1, hC135, ⟨⟨_, h141, hX0⟩, ⟨_, h146, hX1⟩, h151, h156, h161, h166⟩, ⟨SOK.mono hSo0 (by omega), SOK.mono hSo1 (by omega), hgw0, (AOK_upd hga0 ⟨by decide, by decide⟩), hgw1, hga1⟩, hl0, hl1, ((show hKn [lx, ly, lw, la, lq, le, xo, ez, eo, bu, nw0, na0, nq0, nr0, nw1, na1, nq1, nr1, bs, bp, bh, bf, bl, bg] f f114 from (by rw [ef114]; exact hKn.up (List.mem_cons_of_mem _ (List.mem_cons_of_mem _ (List.mem_cons_of_mem _ List.mem_cons_self))))).tr ((show hKn [lx, ly, lw, la, lq, le, xo, ez, eo, bu, nw0, na0, nq0, nr0, nw1, na1, nq1, nr1, bs, bp, bh, bf, bl, bg] f114 f122 from (hKn.mono k124 sbA)).tr ((show hKn [lx, ly, lw, la, lq, le, xo, ez, eo, bu, nw0, na0, nq0, nr0, nw1, na1, nq1, nr1, bs, bp, bh, bf, bl, bg] f122 f125 from (hKn.mono k127 sbA)).tr ((show hKn [lx, ly, lw, la, lq, le, xo, ez, eo, bu, nw0, na0, nq0, nr0, nw1, na1, nq1, nr1, bs, bp, bh, bf, bl, bg] f125 f128 from (hKn.mono k130 sbA)).tr ((show hKn [lx, ly, lw, la, lq, le, xo, ez, eo, bu, nw0, na0, nq0, nr0, nw1, na1, nq1, nr1, bs, bp, bh, bf, bl, bg] f128 f131 from (hKn.mono k133 sbA)).tr (show hKn [lx, ly, lw, la, lq, le, xo, ez, eo, bu, nw0, na0, nq0, nr0, nw1, na1, nq1, nr1, bs, bp, bh, bf, bl, bg] f131 f134 from (hKn.mono k136 sbA)))))))⟩)

set_option maxHeartbeats 4000000 in
set_option maxRecDepth 100000 in
theorem lk_a_1 {l : Launch} (hl : l.stackTraces = false) (G : hG) (f : hM) (xo ez eo bu nw0 na0 nq0 nr0 nw1 na1 nq1 nr1 bs bp bh bf bl bg : Nat) (S0 : ES) (S1 : ES) (gw0 : Nat → Int32) (ga0 : Nat → Int32) (gw1 : Nat → Int32) (ga1 : Nat → Int32) (n : Nat) (a : Nat) (cg : Nat) (x : Nat) (sa : Nat → Nat) (pk : Nat → Nat) (fl : Nat → Nat) (gv : Nat → Nat) (gh : Nat → Int32) (gl : Nat → Int32) (hC : CXW G f xo ez eo bu nw0 na0 nq0 nr0 nw1 na1 nq1 nr1 bs bp bh bf bl bg S0 S1 gw0 ga0 gw1 ga1 n a cg x sa pk fl gv gh gl) (lx ly lw la lq le : Nat) (hdis : ∀ p, p ∈ [xo, ez, eo, bu, nw0, na0, nq0, nr0, nw1, na1, nq1, nr1, bs, bp, bh, bf, bl, bg] → p ∉ [lx, ly, lw, la, lq, le]) (hdos : ∀ p, p ∈ [lx, ly, lw, la, lq, le] → p ∉ [xo, ez, eo, bu, nw0, na0, nq0, nr0, nw1, na1, nq1, nr1, bs, bp, bh, bf, bl, bg]) (n_lx_ly : lx ≠ ly) (n_lw_la : lw ≠ la) (n_lw_lq : lw ≠ lq) (n_la_lq : la ≠ lq) (hLX : LX G f lx ly lw la lq le S0 S1 gw0 ga0 gw1 ga1) (b : Nat) (hInv : INV b S0 S1 gw0 ga0 gw1 ga1) (hbb : b + 200 ≤ 1000000) (hl0 : S0.2.2.2.2.2.2.2.2.length ≤ 52) (hl1 : S1.2.2.2.2.2.2.2.2.length ≤ 52) (ac : Nat) (hac : ac < 24) (hact : ac ≠ 22 → S0.2.2.2.2.2.2.2.2.length ≤ 40 ∧ S1.2.2.2.2.2.2.2.2.length ≤ 40) (u z : Int32) {p : Program} {e : Env} {s : State} {m : MethodId} {args : Array Value} {below : List Frame} {meth : Method} {c : Code} (B0 : hB p l s m args meth c cL_links 17 RL G) (hr : meth.sig.returnType = some .boolean) {H : Heap} {locs : List Loc} {ls : Array Slot} (hw : hW G f H) (hS : va_S (hFr G) s.heap H locs) (j13 : Nat) (hj13 : j13 < 6) (hl9 : lv_has ls 17 [(13, .int (nI j13)), (12, .ref ly), (11, .int 8), (10, .int 1), (0, .ref xo), (1, .int (nI ac)), (2, .int u), (3, .int z), (4, .ref lx), (5, .ref ly), (6, .ref lw), (7, .ref la), (8, .ref lq), (9, .ref le)]) : W p l e { frames := 9, cells := 203, slots := 1118, locals := 178 } s m args below meth c H locs 0 0 (vx_MQ below (hQ G (fun v f1 => v = some (.int 1) ∧ ∃ (S2 S3 : ES) (w0 a0 w1 a1 : Nat → Int32), CXW G f1 xo ez eo bu nw0 na0 nq0 nr0 nw1 na1 nq1 nr1 bs bp bh bf bl bg S2 S3 w0 a0 w1 a1 n a cg x sa pk fl gv gh gl ∧ LX G f1 lx ly lw la lq le S2 S3 w0 a0 w1 a1 ∧ INV (b + 100) S2 S3 w0 a0 w1 a1 ∧ S2.2.2.2.2.2.2.2.2.length ≤ 52 ∧ S3.2.2.2.2.2.2.2.2.length ≤ 52 ∧ hKn [lx, ly, lw, la, lq, le, xo, ez, eo, bu, nw0, na0, nq0, nr0, nw1, na1, nq1, nr1, bs, bp, bh, bf, bl, bg] f f1)) (hX G (fun E f1 => False)) args s 203 1118 (hFr G)) (F0 m 163 ls []) := by
  have hx := B0.1
  have hb := B0.2.1
  obtain ⟨⟨xs0, k_lx, hX0⟩, ⟨xs1, k_ly, hX1⟩, k_lw, k_la, k_lq, k_le⟩ := hLX
  obtain ⟨hSo0, hSo1, hgw0, hga0, hgw1, hga1⟩ := id hInv
  have n_lx_lw : lx ≠ lw := hneL k_lx k_lw (Nat.ne_of_beq_eq_false rfl)
  have n_lx_la : lx ≠ la := hneL k_lx k_la (Nat.ne_of_beq_eq_false rfl)
  have n_lx_lq : lx ≠ lq := hneL k_lx k_lq (Nat.ne_of_beq_eq_false rfl)
  have n_lx_le : lx ≠ le := hneL k_lx k_le (Nat.ne_of_beq_eq_false rfl)
  have n_ly_lw : ly ≠ lw := hneL k_ly k_lw (Nat.ne_of_beq_eq_false rfl)
  have n_ly_la : ly ≠ la := hneL k_ly k_la (Nat.ne_of_beq_eq_false rfl)
  have n_ly_lq : ly ≠ lq := hneL k_ly k_lq (Nat.ne_of_beq_eq_false rfl)
  have n_ly_le : ly ≠ le := hneL k_ly k_le (Nat.ne_of_beq_eq_false rfl)
  have n_lw_le : lw ≠ le := hneL k_lw k_le (Nat.ne_of_beq_eq_false rfl)
  have n_la_le : la ≠ le := hneL k_la k_le (Nat.ne_of_beq_eq_false rfl)
  have n_lq_le : lq ≠ le := hneL k_lq k_le (Nat.ne_of_beq_eq_false rfl)
  have sbA : ∀ x9, x9 ∈ [xo, ez, eo, bu, nw0, na0, nq0, nr0, nw1, na1, nq1, nr1, bs, bp, bh, bf, bl, bg] → x9 ∈ [lx, ly, lw, la, lq, le, xo, ez, eo, bu, nw0, na0, nq0, nr0, nw1, na1, nq1, nr1, bs, bp, bh, bf, bl, bg] := (sub_cons (List.mem_cons_of_mem _ (List.mem_cons_of_mem _ (List.mem_cons_of_mem _ (List.mem_cons_of_mem _ (List.mem_cons_of_mem _ (List.mem_cons_of_mem _ List.mem_cons_self)))))) (sub_cons (List.mem_cons_of_mem _ (List.mem_cons_of_mem _ (List.mem_cons_of_mem _ (List.mem_cons_of_mem _ (List.mem_cons_of_mem _ (List.mem_cons_of_mem _ (List.mem_cons_of_mem _ List.mem_cons_self))))))) (sub_cons (List.mem_cons_of_mem _ (List.mem_cons_of_mem _ (List.mem_cons_of_mem _ (List.mem_cons_of_mem _ (List.mem_cons_of_mem _ (List.mem_cons_of_mem _ (List.mem_cons_of_mem _ (List.mem_cons_of_mem _ List.mem_cons_self)))))))) (sub_cons (List.mem_cons_of_mem _ (List.mem_cons_of_mem _ (List.mem_cons_of_mem _ (List.mem_cons_of_mem _ (List.mem_cons_of_mem _ (List.mem_cons_of_mem _ (List.mem_cons_of_mem _ (List.mem_cons_of_mem _ (List.mem_cons_of_mem _ List.mem_cons_self))))))))) (sub_cons (List.mem_cons_of_mem _ (List.mem_cons_of_mem _ (List.mem_cons_of_mem _ (List.mem_cons_of_mem _ (List.mem_cons_of_mem _ (List.mem_cons_of_mem _ (List.mem_cons_of_mem _ (List.mem_cons_of_mem _ (List.mem_cons_of_mem _ (List.mem_cons_of_mem _ List.mem_cons_self)))))))))) (sub_cons (List.mem_cons_of_mem _ (List.mem_cons_of_mem _ (List.mem_cons_of_mem _ (List.mem_cons_of_mem _ (List.mem_cons_of_mem _ (List.mem_cons_of_mem _ (List.mem_cons_of_mem _ (List.mem_cons_of_mem _ (List.mem_cons_of_mem _ (List.mem_cons_of_mem _ (List.mem_cons_of_mem _ List.mem_cons_self))))))))))) (sub_cons (List.mem_cons_of_mem _ (List.mem_cons_of_mem _ (List.mem_cons_of_mem _ (List.mem_cons_of_mem _ (List.mem_cons_of_mem _ (List.mem_cons_of_mem _ (List.mem_cons_of_mem _ (List.mem_cons_of_mem _ (List.mem_cons_of_mem _ (List.mem_cons_of_mem _ (List.mem_cons_of_mem _ (List.mem_cons_of_mem _ List.mem_cons_self)))))))))))) (sub_cons (List.mem_cons_of_mem _ (List.mem_cons_of_mem _ (List.mem_cons_of_mem _ (List.mem_cons_of_mem _ (List.mem_cons_of_mem _ (List.mem_cons_of_mem _ (List.mem_cons_of_mem _ (List.mem_cons_of_mem _ (List.mem_cons_of_mem _ (List.mem_cons_of_mem _ (List.mem_cons_of_mem _ (List.mem_cons_of_mem _ (List.mem_cons_of_mem _ List.mem_cons_self))))))))))))) (sub_cons (List.mem_cons_of_mem _ (List.mem_cons_of_mem _ (List.mem_cons_of_mem _ (List.mem_cons_of_mem _ (List.mem_cons_of_mem _ (List.mem_cons_of_mem _ (List.mem_cons_of_mem _ (List.mem_cons_of_mem _ (List.mem_cons_of_mem _ (List.mem_cons_of_mem _ (List.mem_cons_of_mem _ (List.mem_cons_of_mem _ (List.mem_cons_of_mem _ (List.mem_cons_of_mem _ List.mem_cons_self)))))))))))))) (sub_cons (List.mem_cons_of_mem _ (List.mem_cons_of_mem _ (List.mem_cons_of_mem _ (List.mem_cons_of_mem _ (List.mem_cons_of_mem _ (List.mem_cons_of_mem _ (List.mem_cons_of_mem _ (List.mem_cons_of_mem _ (List.mem_cons_of_mem _ (List.mem_cons_of_mem _ (List.mem_cons_of_mem _ (List.mem_cons_of_mem _ (List.mem_cons_of_mem _ (List.mem_cons_of_mem _ (List.mem_cons_of_mem _ List.mem_cons_self))))))))))))))) (sub_cons (List.mem_cons_of_mem _ (List.mem_cons_of_mem _ (List.mem_cons_of_mem _ (List.mem_cons_of_mem _ (List.mem_cons_of_mem _ (List.mem_cons_of_mem _ (List.mem_cons_of_mem _ (List.mem_cons_of_mem _ (List.mem_cons_of_mem _ (List.mem_cons_of_mem _ (List.mem_cons_of_mem _ (List.mem_cons_of_mem _ (List.mem_cons_of_mem _ (List.mem_cons_of_mem _ (List.mem_cons_of_mem _ (List.mem_cons_of_mem _ List.mem_cons_self)))))))))))))))) (sub_cons (List.mem_cons_of_mem _ (List.mem_cons_of_mem _ (List.mem_cons_of_mem _ (List.mem_cons_of_mem _ (List.mem_cons_of_mem _ (List.mem_cons_of_mem _ (List.mem_cons_of_mem _ (List.mem_cons_of_mem _ (List.mem_cons_of_mem _ (List.mem_cons_of_mem _ (List.mem_cons_of_mem _ (List.mem_cons_of_mem _ (List.mem_cons_of_mem _ (List.mem_cons_of_mem _ (List.mem_cons_of_mem _ (List.mem_cons_of_mem _ (List.mem_cons_of_mem _ List.mem_cons_self))))))))))))))))) (sub_cons (List.mem_cons_of_mem _ (List.mem_cons_of_mem _ (List.mem_cons_of_mem _ (List.mem_cons_of_mem _ (List.mem_cons_of_mem _ (List.mem_cons_of_mem _ (List.mem_cons_of_mem _ (List.mem_cons_of_mem _ (List.mem_cons_of_mem _ (List.mem_cons_of_mem _ (List.mem_cons_of_mem _ (List.mem_cons_of_mem _ (List.mem_cons_of_mem _ (List.mem_cons_of_mem _ (List.mem_cons_of_mem _ (List.mem_cons_of_mem _ (List.mem_cons_of_mem _ (List.mem_cons_of_mem _ List.mem_cons_self)))))))))))))))))) (sub_cons (List.mem_cons_of_mem _ (List.mem_cons_of_mem _ (List.mem_cons_of_mem _ (List.mem_cons_of_mem _ (List.mem_cons_of_mem _ (List.mem_cons_of_mem _ (List.mem_cons_of_mem _ (List.mem_cons_of_mem _ (List.mem_cons_of_mem _ (List.mem_cons_of_mem _ (List.mem_cons_of_mem _ (List.mem_cons_of_mem _ (List.mem_cons_of_mem _ (List.mem_cons_of_mem _ (List.mem_cons_of_mem _ (List.mem_cons_of_mem _ (List.mem_cons_of_mem _ (List.mem_cons_of_mem _ (List.mem_cons_of_mem _ List.mem_cons_self))))))))))))))))))) (sub_cons (List.mem_cons_of_mem _ (List.mem_cons_of_mem _ (List.mem_cons_of_mem _ (List.mem_cons_of_mem _ (List.mem_cons_of_mem _ (List.mem_cons_of_mem _ (List.mem_cons_of_mem _ (List.mem_cons_of_mem _ (List.mem_cons_of_mem _ (List.mem_cons_of_mem _ (List.mem_cons_of_mem _ (List.mem_cons_of_mem _ (List.mem_cons_of_mem _ (List.mem_cons_of_mem _ (List.mem_cons_of_mem _ (List.mem_cons_of_mem _ (List.mem_cons_of_mem _ (List.mem_cons_of_mem _ (List.mem_cons_of_mem _ (List.mem_cons_of_mem _ List.mem_cons_self)))))))))))))))))))) (sub_cons (List.mem_cons_of_mem _ (List.mem_cons_of_mem _ (List.mem_cons_of_mem _ (List.mem_cons_of_mem _ (List.mem_cons_of_mem _ (List.mem_cons_of_mem _ (List.mem_cons_of_mem _ (List.mem_cons_of_mem _ (List.mem_cons_of_mem _ (List.mem_cons_of_mem _ (List.mem_cons_of_mem _ (List.mem_cons_of_mem _ (List.mem_cons_of_mem _ (List.mem_cons_of_mem _ (List.mem_cons_of_mem _ (List.mem_cons_of_mem _ (List.mem_cons_of_mem _ (List.mem_cons_of_mem _ (List.mem_cons_of_mem _ (List.mem_cons_of_mem _ (List.mem_cons_of_mem _ List.mem_cons_self))))))))))))))))))))) (sub_cons (List.mem_cons_of_mem _ (List.mem_cons_of_mem _ (List.mem_cons_of_mem _ (List.mem_cons_of_mem _ (List.mem_cons_of_mem _ (List.mem_cons_of_mem _ (List.mem_cons_of_mem _ (List.mem_cons_of_mem _ (List.mem_cons_of_mem _ (List.mem_cons_of_mem _ (List.mem_cons_of_mem _ (List.mem_cons_of_mem _ (List.mem_cons_of_mem _ (List.mem_cons_of_mem _ (List.mem_cons_of_mem _ (List.mem_cons_of_mem _ (List.mem_cons_of_mem _ (List.mem_cons_of_mem _ (List.mem_cons_of_mem _ (List.mem_cons_of_mem _ (List.mem_cons_of_mem _ (List.mem_cons_of_mem _ List.mem_cons_self)))))))))))))))))))))) (sub_cons (List.mem_cons_of_mem _ (List.mem_cons_of_mem _ (List.mem_cons_of_mem _ (List.mem_cons_of_mem _ (List.mem_cons_of_mem _ (List.mem_cons_of_mem _ (List.mem_cons_of_mem _ (List.mem_cons_of_mem _ (List.mem_cons_of_mem _ (List.mem_cons_of_mem _ (List.mem_cons_of_mem _ (List.mem_cons_of_mem _ (List.mem_cons_of_mem _ (List.mem_cons_of_mem _ (List.mem_cons_of_mem _ (List.mem_cons_of_mem _ (List.mem_cons_of_mem _ (List.mem_cons_of_mem _ (List.mem_cons_of_mem _ (List.mem_cons_of_mem _ (List.mem_cons_of_mem _ (List.mem_cons_of_mem _ (List.mem_cons_of_mem _ List.mem_cons_self))))))))))))))))))))))) sub_nil))))))))))))))))))
  obtain ⟨xx, hxx, hx4⟩ := hSo1.2.2.2.2.1
  have h1 : f le = some (.inl (cI G, 16, .inl (jE (eSt S0) (e8r S1.1 S1.2.1 S1.2.2.1 S1.2.2.2.1 S1.2.2.2.2.1 S1.2.2.2.2.2.1 S1.2.2.2.2.2.2.1 (nI S1.2.2.2.2.2.2.2.2.length))))) := k_le
  refine lv_iload_n hx hb dL_links_163 rfl (lv_at hl9 7 rfl) ?_
  refine lv_bipush (v := 96) hx hb dL_links_164 (by decide) ?_
  refine lv_iand hx hb dL_links_166 ?_
  refine lv_if_ne (tgt := 174) hx hb dL_links_167 (by decide) (fun c2 => ?_) (fun c2 => ?_)
  · refine lv_iload_n hx hb dL_links_174 rfl (lv_at hl9 7 rfl) ?_
    refine lv_bipush (v := 96) hx hb dL_links_175 (by decide) ?_
    refine lv_iand hx hb dL_links_177 ?_
    refine lv_bipush (v := 32) hx hb dL_links_178 (by decide) ?_
    refine lv_icmp_ne (tgt := 189) hx hb dL_links_180 (by decide) (fun c3 => ?_) (fun c3 => ?_)
    · refine lv_iload_n hx hb dL_links_189 rfl (lv_at hl9 7 rfl) ?_
      refine lv_bipush (v := 7) hx hb dL_links_190 (by decide) ?_
      refine lv_ishr hx hb dL_links_192 ?_
      refine lv_sipush (v := 1024) hx hb dL_links_193 (by decide) ?_
      refine hp_S (As := [.int (z >>> (7 &&& 31)), .int 1024]) (rest := []) B0 hw hS (c_L_low hl G f (z >>> (7 &&& 31)) 1024 (by omega) (by omega)) mS_L_low qM_L_94 rfl rfl hl9.1 (Nat.le_of_ble_eq_true rfl) ⟨⟨Nat.le_of_ble_eq_true rfl, Nat.le_of_ble_eq_true rfl⟩, Nat.le_of_ble_eq_true rfl, Nat.le_of_ble_eq_true rfl⟩ dL_links_196 (fun E ce q9 f4 H locs hPX hw hS hce hcv hcl => ?_) (fun v f4 H locs hP hw hS => ?_)
      · exact hPX.elim
      · obtain ⟨ef9, j5, hj6, ev9⟩ := hP
        rw [ef9] at hw
        subst ev9
        refine W.eq (g2 := F0 m 199 ls [.int (nI j5)]) rfl ?_
        refine lv_istore (lv' := [(14, .int (nI j5)), (13, .int (nI j13)), (12, .ref ly), (11, .int 8), (10, .int 1), (0, .ref xo), (1, .int (nI ac)), (2, .int u), (3, .int z), (4, .ref lx), (5, .ref ly), (6, .ref lw), (7, .ref la), (8, .ref lq), (9, .ref le)]) hx hb dL_links_199 hl9 (by decide) rfl (fun ls hl9 => ?_)
        refine lv_aload hx hb dL_links_201 (lv_at hl9 12 rfl) ?_
        refine lv_bipush (v := 6) hx hb dL_links_203 (by decide) ?_
        refine lv_iload hx hb dL_links_205 (lv_at hl9 4 rfl) ?_
        refine lv_imul hx hb dL_links_207 ?_
        refine hp_c (v := 6) (by decide) ?_
        refine lv_iload hx hb dL_links_208 (lv_at hl9 1 rfl) ?_
        refine lv_iadd hx hb dL_links_210 ?_
        refine hp_c (v := (nI (6 + j13))) (nI_add 6 j13) ?_
        refine hp_iald B0 hw k_la (vp_in_nI (show 6 + j13 < 12 by omega) (by omega)) dL_links_211 ?_
        refine hp_c (v := (ga1 j13)) ((by rw [nI_clamp (by omega)]; exact j6_1)) ?_
        refine lv_istore (lv' := [(15, .int (ga1 j13)), (14, .int (nI j5)), (13, .int (nI j13)), (12, .ref ly), (11, .int 8), (10, .int 1), (0, .ref xo), (1, .int (nI ac)), (2, .int u), (3, .int z), (4, .ref lx), (5, .ref ly), (6, .ref lw), (7, .ref la), (8, .ref lq), (9, .ref le)]) hx hb dL_links_212 hl9 (by decide) rfl (fun ls hl9 => ?_)
        refine lv_aload hx hb dL_links_214 (lv_at hl9 13 rfl) ?_
        refine lv_bipush (v := 6) hx hb dL_links_216 (by decide) ?_
        refine lv_iload hx hb dL_links_218 (lv_at hl9 5 rfl) ?_
        refine lv_imul hx hb dL_links_220 ?_
        refine hp_c (v := 6) (by decide) ?_
        refine lv_iload hx hb dL_links_221 (lv_at hl9 2 rfl) ?_
        refine lv_iadd hx hb dL_links_223 ?_
        refine hp_c (v := (nI (6 + j13))) (nI_add 6 j13) ?_
        refine lv_iload hx hb dL_links_224 (lv_at hl9 1 rfl) ?_
        refine hp_iast B0 hw hS k_la (vp_in_nI (show 6 + j13 < 12 by omega) (by omega)) dL_links_226 (fun H locs f7 ef7 hw hS => ?_)
        rw [show (upd (j6r ga0 ga1) ((nI (6 + j13)) : Int32).toNatClampNeg (nI j5) : Nat → Int32) = (j6r ga0 (upd ga1 j13 (nI j5))) from (by rw [nI_clamp (by omega), j6_u1])] at ef7
        have h8 : f7 la = some (.inl (cI G, 12, .inl (j6r ga0 (upd ga1 j13 (nI j5))))) := by rw [ef7, va_up_self]
        refine lv_aload_n hx hb dL_links_227 rfl (lv_at hl9 6 rfl) ?_
        refine lv_iconst (v := (-1)) hx hb dL_links_228 (by decide) ?_
        refine lv_iload hx hb dL_links_229 (lv_at hl9 2 rfl) ?_
        refine lv_iconst (v := 0) hx hb dL_links_231 (by decide) ?_
        have h10 : f7 lx = some (.inl (cJ G, 64, .inr (.inl xs0))) := by rw [ef7, va_up_ne _ _ n_lx_la]; exact k_lx
        have h11 : f7 ly = some (.inl (cJ G, 64, .inr (.inl xs1))) := by rw [ef7, va_up_ne _ _ n_ly_la]; exact k_ly
        have h12 : f7 lw = some (.inl (cI G, 12, .inl (j6r gw0 gw1))) := by rw [ef7, va_up_ne _ _ n_lw_la]; exact k_lw
        have h13 : f7 lq = some (.inl (cI G, 12, .inl (j6r S0.2.2.2.2.2.2.2.1 S1.2.2.2.2.2.2.2.1))) := by rw [ef7, va_up_ne _ _ (Ne.symm n_la_lq)]; exact k_lq
        have h14 : f7 le = some (.inl (cI G, 16, .inl (jE (eSt S0) (e8r S1.1 S1.2.1 S1.2.2.1 S1.2.2.2.1 S1.2.2.2.2.1 S1.2.2.2.2.2.1 S1.2.2.2.2.2.2.1 (nI S1.2.2.2.2.2.2.2.2.length))))) := by rw [ef7, va_up_ne _ _ (Ne.symm n_la_le)]; exact h1
        have hC15 : CXW G f7 xo ez eo bu nw0 na0 nq0 nr0 nw1 na1 nq1 nr1 bs bp bh bf bl bg S0 S1 gw0 ga0 gw1 ga1 n a cg x sa pk fl gv gh gl := CXW.eq hC (show hEq [lx, ly, lw, la, lq, le] f f7 from (by rw [ef7]; exact hEq.up (List.mem_cons_of_mem _ (List.mem_cons_of_mem _ (List.mem_cons_of_mem _ List.mem_cons_self))))) hdis (fun b9 hb9 => by
            simp only [List.mem_cons, List.not_mem_nil, or_false] at hb9
            rcases hb9 with hb9 | hb9 | hb9 | hb9 | hb9 | hb9
            · rw [hb9]; exact ⟨_, _, k_lx, h10, (Nat.ne_of_beq_eq_false rfl), (Nat.ne_of_beq_eq_false rfl)⟩
            · rw [hb9]; exact ⟨_, _, k_ly, h11, (Nat.ne_of_beq_eq_false rfl), (Nat.ne_of_beq_eq_false rfl)⟩
            · rw [hb9]; exact ⟨_, _, k_lw, h12, (Nat.ne_of_beq_eq_false rfl), (Nat.ne_of_beq_eq_false rfl)⟩
            · rw [hb9]; exact ⟨_, _, k_la, h8, (Nat.ne_of_beq_eq_false rfl), (Nat.ne_of_beq_eq_false rfl)⟩
            · rw [hb9]; exact ⟨_, _, k_lq, h13, (Nat.ne_of_beq_eq_false rfl), (Nat.ne_of_beq_eq_false rfl)⟩
            · rw [hb9]; exact ⟨_, _, h1, h14, (Nat.ne_of_beq_eq_false rfl), (Nat.ne_of_beq_eq_false rfl)⟩)
        refine hp_SH (As := [.ref xo, .int (-1), .int (nI j13), .int 0]) (rest := []) B0 hw hS (c_V_allow_E hl G f7 xo ez eo bu nw0 na0 nq0 nr0 nw1 na1 nq1 nr1 bs bp bh bf bl bg S0 S1 gw0 ga0 gw1 ga1 n a cg x sa pk fl gv gh gl hC15 (Nat.lt_of_le_of_lt hl0 (by decide)) (Nat.lt_of_le_of_lt hl1 (by decide)) (-1) (nI j13) 0 (by decide)) mH_L_allow qM_L_100 rfl rfl hl9.1 (Nat.le_of_ble_eq_true rfl) ⟨⟨Nat.le_of_ble_eq_true rfl, Nat.le_of_ble_eq_true rfl⟩, Nat.le_of_ble_eq_true rfl, Nat.le_of_ble_eq_true rfl⟩ dL_links_232 (fun E ce q9 f16 H locs hPX hw hS hce hcv hcl => ?_) (fun v f16 H locs hP hw hS => ?_)
        · exact hPX.elim
        · obtain ⟨ev9, hC17, k18⟩ := hP
          subst ev9
          have hC17 : CXW G f16 xo ez eo bu nw0 na0 nq0 nr0 nw1 na1 nq1 nr1 bs bp bh bf bl bg S0 S1 gw0 ga0 gw1 ga1 n a cg x sa pk fl gv gh gl := hC17
          refine W.eq (g2 := F0 m 235 ls [.int (-71)]) rfl ?_
          refine lv_bipush (v := (-71)) hx hb dL_links_235 (by decide) ?_
          refine lv_icmp_ne (tgt := 302) hx hb dL_links_237 (by decide) (fun c9 => absurd (by decide) c9) (fun _ => ?_)
          refine lv_aload_n hx hb dL_links_240 rfl (lv_at hl9 6 rfl) ?_
          refine lv_iload hx hb dL_links_241 (lv_at hl9 5 rfl) ?_
          refine lv_iconst (v := (-1)) hx hb dL_links_243 (by decide) ?_
          refine lv_iconst (v := 0) hx hb dL_links_244 (by decide) ?_
          refine hp_SH (As := [.ref xo, .int 1, .int (-1), .int 0]) (rest := []) B0 hw hS (c_V_allow_O1 hl G f16 xo ez eo bu nw0 na0 nq0 nr0 nw1 na1 nq1 nr1 bs bp bh bf bl bg S0 S1 gw0 ga0 gw1 ga1 n a cg x sa pk fl gv gh gl hC17 (Nat.lt_of_le_of_lt hl0 (by decide)) (Nat.lt_of_le_of_lt hl1 (by decide)) (-1) 0 (by decide)) mH_L_allow qM_L_100 rfl rfl hl9.1 (Nat.le_of_ble_eq_true rfl) ⟨⟨Nat.le_of_ble_eq_true rfl, Nat.le_of_ble_eq_true rfl⟩, Nat.le_of_ble_eq_true rfl, Nat.le_of_ble_eq_true rfl⟩ dL_links_245 (fun E ce q9 f19 H locs hPX hw hS hce hcv hcl => ?_) (fun v f19 H locs hP hw hS => ?_)
          · exact hPX.elim
          · obtain ⟨ev9, hC20, k21⟩ := hP
            subst ev9
            have hC20 : CXW G f19 xo ez eo bu nw0 na0 nq0 nr0 nw1 na1 nq1 nr1 bs bp bh bf bl bg S0 S1 gw0 ga0 gw1 ga1 n a cg x sa pk fl gv gh gl := hC20
            refine W.eq (g2 := F0 m 248 ls [.int (-71)]) rfl ?_
            refine lv_bipush (v := (-71)) hx hb dL_links_248 (by decide) ?_
            refine lv_icmp_ne (tgt := 302) hx hb dL_links_250 (by decide) (fun c9 => absurd (by decide) c9) (fun _ => ?_)
            refine lv_aload_n hx hb dL_links_253 rfl (lv_at hl9 6 rfl) ?_
            refine lv_iload hx hb dL_links_254 (lv_at hl9 5 rfl) ?_
            refine lv_iload hx hb dL_links_256 (lv_at hl9 2 rfl) ?_
            refine lv_sipush (v := 1024) hx hb dL_links_258 (by decide) ?_
            refine hp_SH (As := [.ref xo, .int 1, .int (nI j13), .int 1024]) (rest := []) B0 hw hS (c_V_allow_V1 hl G f19 xo ez eo bu nw0 na0 nq0 nr0 nw1 na1 nq1 nr1 bs bp bh bf bl bg S0 S1 gw0 ga0 gw1 ga1 n a cg x sa pk fl gv gh gl hC20 (Nat.lt_of_le_of_lt hl0 (by decide)) (Nat.lt_of_le_of_lt hl1 (by decide)) j13 (by omega) 1024 (by decide)) mH_L_allow qM_L_100 rfl rfl hl9.1 (Nat.le_of_ble_eq_true rfl) ⟨⟨Nat.le_of_ble_eq_true rfl, Nat.le_of_ble_eq_true rfl⟩, Nat.le_of_ble_eq_true rfl, Nat.le_of_ble_eq_true rfl⟩ dL_links_261 (fun E ce q9 f22 H locs hPX hw hS hce hcv hcl => ?_) (fun v f22 H locs hP hw hS => ?_)
            · exact hPX.elim
            · obtain ⟨ev9, hC23, k24⟩ := hP
              subst ev9
              have hC23 : CXW G f22 xo ez eo bu nw0 na0 nq0 nr0 nw1 na1 nq1 nr1 bs bp bh bf bl bg S0 S1 gw0 ga0 gw1 ga1 n a cg x sa pk fl gv gh gl := hC23
              refine W.eq (g2 := F0 m 264 ls [.int (-72)]) rfl ?_
              refine lv_bipush (v := (-72)) hx hb dL_links_264 (by decide) ?_
              refine lv_icmp_ne (tgt := 302) hx hb dL_links_266 (by decide) (fun c9 => absurd (by decide) c9) (fun _ => ?_)
              refine lv_aload_n hx hb dL_links_269 rfl (lv_at hl9 6 rfl) ?_
              refine lv_iload hx hb dL_links_270 (lv_at hl9 5 rfl) ?_
              refine lv_iload hx hb dL_links_272 (lv_at hl9 2 rfl) ?_
              refine lv_iconst (v := (-1)) hx hb dL_links_274 (by decide) ?_
              refine hp_SH (As := [.ref xo, .int 1, .int (nI j13), .int (-1)]) (rest := []) B0 hw hS (c_V_allow_V1 hl G f22 xo ez eo bu nw0 na0 nq0 nr0 nw1 na1 nq1 nr1 bs bp bh bf bl bg S0 S1 gw0 ga0 gw1 ga1 n a cg x sa pk fl gv gh gl hC23 (Nat.lt_of_le_of_lt hl0 (by decide)) (Nat.lt_of_le_of_lt hl1 (by decide)) j13 (by omega) (-1) (by decide)) mH_L_allow qM_L_100 rfl rfl hl9.1 (Nat.le_of_ble_eq_true rfl) ⟨⟨Nat.le_of_ble_eq_true rfl, Nat.le_of_ble_eq_true rfl⟩, Nat.le_of_ble_eq_true rfl, Nat.le_of_ble_eq_true rfl⟩ dL_links_275 (fun E ce q9 f25 H locs hPX hw hS hce hcv hcl => ?_) (fun v f25 H locs hP hw hS => ?_)
              · exact hPX.elim
              · obtain ⟨ev9, hC26, k27⟩ := hP
                subst ev9
                have hC26 : CXW G f25 xo ez eo bu nw0 na0 nq0 nr0 nw1 na1 nq1 nr1 bs bp bh bf bl bg S0 S1 gw0 ga0 gw1 ga1 n a cg x sa pk fl gv gh gl := hC26
                refine W.eq (g2 := F0 m 278 ls [.int (-72)]) rfl ?_
                refine lv_bipush (v := (-72)) hx hb dL_links_278 (by decide) ?_
                refine lv_icmp_ne (tgt := 302) hx hb dL_links_280 (by decide) (fun c9 => absurd (by decide) c9) (fun _ => ?_)
                refine lv_aload_n hx hb dL_links_283 rfl (lv_at hl9 6 rfl) ?_
                refine lv_iload hx hb dL_links_284 (lv_at hl9 5 rfl) ?_
                refine lv_iload hx hb dL_links_286 (lv_at hl9 2 rfl) ?_
                refine lv_iload hx hb dL_links_288 (lv_at hl9 1 rfl) ?_
                refine hp_SH (As := [.ref xo, .int 1, .int (nI j13), .int (nI j5)]) (rest := []) B0 hw hS (c_V_allow_1 hl G f25 xo ez eo bu nw0 na0 nq0 nr0 nw1 na1 nq1 nr1 bs bp bh bf bl bg S0 S1 gw0 ga0 gw1 ga1 n a cg x sa pk fl gv gh gl hC26 (Nat.lt_of_le_of_lt hl0 (by decide)) (Nat.lt_of_le_of_lt hl1 (by decide)) j13 (by omega) (nI j5) (AOK_nI hj6)) mH_L_allow qM_L_100 rfl rfl hl9.1 (Nat.le_of_ble_eq_true rfl) ⟨⟨Nat.le_of_ble_eq_true rfl, Nat.le_of_ble_eq_true rfl⟩, Nat.le_of_ble_eq_true rfl, Nat.le_of_ble_eq_true rfl⟩ dL_links_290 (fun E ce q9 f28 H locs hPX hw hS hce hcv hcl => ?_) (fun v f28 H locs hP hw hS => ?_)
                · exact hPX.elim
                · obtain ⟨ev9, hC29, k30⟩ := hP
                  subst ev9
                  have hC29 : CXW G f28 xo ez eo bu nw0 na0 nq0 nr0 nw1 na1 nq1 nr1 bs bp bh bf bl bg S0 S1 gw0 ga0 gw1 (upd ga1 j13 (nI j5)) n a cg x sa pk fl gv gh gl := hC29
                  refine W.eq (g2 := F0 m 293 ls [.int ((ga1 j13))]) rfl ?_
                  refine lv_iload hx hb dL_links_293 (lv_at hl9 0 rfl) ?_
                  refine lv_icmp_ne (tgt := 302) hx hb dL_links_295 (by decide) (fun c9 => absurd rfl c9) (fun _ => ?_)
                  refine lv_iconst (v := 1) hx hb dL_links_298 (by decide) ?_
                  refine lv_goto (tgt := 303) hx hb dL_links_299 (by decide) ?_
                  have h31 : f16 lx = some (.inl (cJ G, 64, .inr (.inl xs0))) := k18 _ _ h10 (Nat.ne_of_beq_eq_false rfl) (hdos _ List.mem_cons_self)
                  have h32 : f19 lx = some (.inl (cJ G, 64, .inr (.inl xs0))) := k21 _ _ h31 (Nat.ne_of_beq_eq_false rfl) (hdos _ List.mem_cons_self)
                  have h33 : f22 lx = some (.inl (cJ G, 64, .inr (.inl xs0))) := k24 _ _ h32 (Nat.ne_of_beq_eq_false rfl) (hdos _ List.mem_cons_self)
                  have h34 : f25 lx = some (.inl (cJ G, 64, .inr (.inl xs0))) := k27 _ _ h33 (Nat.ne_of_beq_eq_false rfl) (hdos _ List.mem_cons_self)
                  have h35 : f28 lx = some (.inl (cJ G, 64, .inr (.inl xs0))) := k30 _ _ h34 (Nat.ne_of_beq_eq_false rfl) (hdos _ List.mem_cons_self)
                  have h36 : f16 ly = some (.inl (cJ G, 64, .inr (.inl xs1))) := k18 _ _ h11 (Nat.ne_of_beq_eq_false rfl) (hdos _ (List.mem_cons_of_mem _ List.mem_cons_self))
                  have h37 : f19 ly = some (.inl (cJ G, 64, .inr (.inl xs1))) := k21 _ _ h36 (Nat.ne_of_beq_eq_false rfl) (hdos _ (List.mem_cons_of_mem _ List.mem_cons_self))
                  have h38 : f22 ly = some (.inl (cJ G, 64, .inr (.inl xs1))) := k24 _ _ h37 (Nat.ne_of_beq_eq_false rfl) (hdos _ (List.mem_cons_of_mem _ List.mem_cons_self))
                  have h39 : f25 ly = some (.inl (cJ G, 64, .inr (.inl xs1))) := k27 _ _ h38 (Nat.ne_of_beq_eq_false rfl) (hdos _ (List.mem_cons_of_mem _ List.mem_cons_self))
                  have h40 : f28 ly = some (.inl (cJ G, 64, .inr (.inl xs1))) := k30 _ _ h39 (Nat.ne_of_beq_eq_false rfl) (hdos _ (List.mem_cons_of_mem _ List.mem_cons_self))
                  have h41 : f16 lw = some (.inl (cI G, 12, .inl (j6r gw0 gw1))) := k18 _ _ h12 (Nat.ne_of_beq_eq_false rfl) (hdos _ (List.mem_cons_of_mem _ (List.mem_cons_of_mem _ List.mem_cons_self)))
                  have h42 : f19 lw = some (.inl (cI G, 12, .inl (j6r gw0 gw1))) := k21 _ _ h41 (Nat.ne_of_beq_eq_false rfl) (hdos _ (List.mem_cons_of_mem _ (List.mem_cons_of_mem _ List.mem_cons_self)))
                  have h43 : f22 lw = some (.inl (cI G, 12, .inl (j6r gw0 gw1))) := k24 _ _ h42 (Nat.ne_of_beq_eq_false rfl) (hdos _ (List.mem_cons_of_mem _ (List.mem_cons_of_mem _ List.mem_cons_self)))
                  have h44 : f25 lw = some (.inl (cI G, 12, .inl (j6r gw0 gw1))) := k27 _ _ h43 (Nat.ne_of_beq_eq_false rfl) (hdos _ (List.mem_cons_of_mem _ (List.mem_cons_of_mem _ List.mem_cons_self)))
                  have h45 : f28 lw = some (.inl (cI G, 12, .inl (j6r gw0 gw1))) := k30 _ _ h44 (Nat.ne_of_beq_eq_false rfl) (hdos _ (List.mem_cons_of_mem _ (List.mem_cons_of_mem _ List.mem_cons_self)))
                  have h46 : f16 la = some (.inl (cI G, 12, .inl (j6r ga0 (upd ga1 j13 (nI j5))))) := k18 _ _ h8 (Nat.ne_of_beq_eq_false rfl) (hdos _ (List.mem_cons_of_mem _ (List.mem_cons_of_mem _ (List.mem_cons_of_mem _ List.mem_cons_self))))
                  have h47 : f19 la = some (.inl (cI G, 12, .inl (j6r ga0 (upd ga1 j13 (nI j5))))) := k21 _ _ h46 (Nat.ne_of_beq_eq_false rfl) (hdos _ (List.mem_cons_of_mem _ (List.mem_cons_of_mem _ (List.mem_cons_of_mem _ List.mem_cons_self))))
                  have h48 : f22 la = some (.inl (cI G, 12, .inl (j6r ga0 (upd ga1 j13 (nI j5))))) := k24 _ _ h47 (Nat.ne_of_beq_eq_false rfl) (hdos _ (List.mem_cons_of_mem _ (List.mem_cons_of_mem _ (List.mem_cons_of_mem _ List.mem_cons_self))))
                  have h49 : f25 la = some (.inl (cI G, 12, .inl (j6r ga0 (upd ga1 j13 (nI j5))))) := k27 _ _ h48 (Nat.ne_of_beq_eq_false rfl) (hdos _ (List.mem_cons_of_mem _ (List.mem_cons_of_mem _ (List.mem_cons_of_mem _ List.mem_cons_self))))
                  have h50 : f28 la = some (.inl (cI G, 12, .inl (j6r ga0 (upd ga1 j13 (nI j5))))) := k30 _ _ h49 (Nat.ne_of_beq_eq_false rfl) (hdos _ (List.mem_cons_of_mem _ (List.mem_cons_of_mem _ (List.mem_cons_of_mem _ List.mem_cons_self))))
                  have h51 : f16 lq = some (.inl (cI G, 12, .inl (j6r S0.2.2.2.2.2.2.2.1 S1.2.2.2.2.2.2.2.1))) := k18 _ _ h13 (Nat.ne_of_beq_eq_false rfl) (hdos _ (List.mem_cons_of_mem _ (List.mem_cons_of_mem _ (List.mem_cons_of_mem _ (List.mem_cons_of_mem _ List.mem_cons_self)))))
                  have h52 : f19 lq = some (.inl (cI G, 12, .inl (j6r S0.2.2.2.2.2.2.2.1 S1.2.2.2.2.2.2.2.1))) := k21 _ _ h51 (Nat.ne_of_beq_eq_false rfl) (hdos _ (List.mem_cons_of_mem _ (List.mem_cons_of_mem _ (List.mem_cons_of_mem _ (List.mem_cons_of_mem _ List.mem_cons_self)))))
                  have h53 : f22 lq = some (.inl (cI G, 12, .inl (j6r S0.2.2.2.2.2.2.2.1 S1.2.2.2.2.2.2.2.1))) := k24 _ _ h52 (Nat.ne_of_beq_eq_false rfl) (hdos _ (List.mem_cons_of_mem _ (List.mem_cons_of_mem _ (List.mem_cons_of_mem _ (List.mem_cons_of_mem _ List.mem_cons_self)))))
                  have h54 : f25 lq = some (.inl (cI G, 12, .inl (j6r S0.2.2.2.2.2.2.2.1 S1.2.2.2.2.2.2.2.1))) := k27 _ _ h53 (Nat.ne_of_beq_eq_false rfl) (hdos _ (List.mem_cons_of_mem _ (List.mem_cons_of_mem _ (List.mem_cons_of_mem _ (List.mem_cons_of_mem _ List.mem_cons_self)))))
                  have h55 : f28 lq = some (.inl (cI G, 12, .inl (j6r S0.2.2.2.2.2.2.2.1 S1.2.2.2.2.2.2.2.1))) := k30 _ _ h54 (Nat.ne_of_beq_eq_false rfl) (hdos _ (List.mem_cons_of_mem _ (List.mem_cons_of_mem _ (List.mem_cons_of_mem _ (List.mem_cons_of_mem _ List.mem_cons_self)))))
                  have h56 : f16 le = some (.inl (cI G, 16, .inl (jE (eSt S0) (e8r S1.1 S1.2.1 S1.2.2.1 S1.2.2.2.1 S1.2.2.2.2.1 S1.2.2.2.2.2.1 S1.2.2.2.2.2.2.1 (nI S1.2.2.2.2.2.2.2.2.length))))) := k18 _ _ h14 (Nat.ne_of_beq_eq_false rfl) (hdos _ (List.mem_cons_of_mem _ (List.mem_cons_of_mem _ (List.mem_cons_of_mem _ (List.mem_cons_of_mem _ (List.mem_cons_of_mem _ List.mem_cons_self))))))
                  have h57 : f19 le = some (.inl (cI G, 16, .inl (jE (eSt S0) (e8r S1.1 S1.2.1 S1.2.2.1 S1.2.2.2.1 S1.2.2.2.2.1 S1.2.2.2.2.2.1 S1.2.2.2.2.2.2.1 (nI S1.2.2.2.2.2.2.2.2.length))))) := k21 _ _ h56 (Nat.ne_of_beq_eq_false rfl) (hdos _ (List.mem_cons_of_mem _ (List.mem_cons_of_mem _ (List.mem_cons_of_mem _ (List.mem_cons_of_mem _ (List.mem_cons_of_mem _ List.mem_cons_self))))))
                  have h58 : f22 le = some (.inl (cI G, 16, .inl (jE (eSt S0) (e8r S1.1 S1.2.1 S1.2.2.1 S1.2.2.2.1 S1.2.2.2.2.1 S1.2.2.2.2.2.1 S1.2.2.2.2.2.2.1 (nI S1.2.2.2.2.2.2.2.2.length))))) := k24 _ _ h57 (Nat.ne_of_beq_eq_false rfl) (hdos _ (List.mem_cons_of_mem _ (List.mem_cons_of_mem _ (List.mem_cons_of_mem _ (List.mem_cons_of_mem _ (List.mem_cons_of_mem _ List.mem_cons_self))))))
                  have h59 : f25 le = some (.inl (cI G, 16, .inl (jE (eSt S0) (e8r S1.1 S1.2.1 S1.2.2.1 S1.2.2.2.1 S1.2.2.2.2.1 S1.2.2.2.2.2.1 S1.2.2.2.2.2.2.1 (nI S1.2.2.2.2.2.2.2.2.length))))) := k27 _ _ h58 (Nat.ne_of_beq_eq_false rfl) (hdos _ (List.mem_cons_of_mem _ (List.mem_cons_of_mem _ (List.mem_cons_of_mem _ (List.mem_cons_of_mem _ (List.mem_cons_of_mem _ List.mem_cons_self))))))
                  have h60 : f28 le = some (.inl (cI G, 16, .inl (jE (eSt S0) (e8r S1.1 S1.2.1 S1.2.2.1 S1.2.2.2.1 S1.2.2.2.2.1 S1.2.2.2.2.2.1 S1.2.2.2.2.2.2.1 (nI S1.2.2.2.2.2.2.2.2.length))))) := k30 _ _ h59 (Nat.ne_of_beq_eq_false rfl) (hdos _ (List.mem_cons_of_mem _ (List.mem_cons_of_mem _ (List.mem_cons_of_mem _ (List.mem_cons_of_mem _ (List.mem_cons_of_mem _ List.mem_cons_self))))))
                  exact hp_zret (v := 1) B0 hw hS hr ⟨Nat.le_of_ble_eq_true rfl, Nat.le_of_ble_eq_true rfl⟩ (rfl) dL_links_303 (⟨rfl, S0, S1, gw0, ga0, gw1, (upd ga1 j13 (nI j5)), hC29, ⟨⟨_, h35, hX0⟩, ⟨_, h40, hX1⟩, h45, h50, h55, h60⟩, ⟨SOK.mono hSo0 (by omega), SOK.mono hSo1 (by omega), hgw0, hga0, hgw1, (AOK_upd hga1 (AOK_nI hj6))⟩, hl0, hl1, ((show hKn [lx, ly, lw, la, lq, le, xo, ez, eo, bu, nw0, na0, nq0, nr0, nw1, na1, nq1, nr1, bs, bp, bh, bf, bl, bg] f f7 from (by rw [ef7]; exact hKn.up (List.mem_cons_of_mem _ (List.mem_cons_of_mem _ (List.mem_cons_of_mem _ List.mem_cons_self))))).tr ((show hKn [lx, ly, lw, la, lq, le, xo, ez, eo, bu, nw0, na0, nq0, nr0, nw1, na1, nq1, nr1, bs, bp, bh, bf, bl, bg] f7 f16 from (hKn.mono k18 sbA)).tr ((show hKn [lx, ly, lw, la, lq, le, xo, ez, eo, bu, nw0, na0, nq0, nr0, nw1, na1, nq1, nr1, bs, bp, bh, bf, bl, bg] f16 f19 from (hKn.mono k21 sbA)).tr ((show hKn [lx, ly, lw, la, lq, le, xo, ez, eo, bu, nw0, na0, nq0, nr0, nw1, na1, nq1, nr1, bs, bp, bh, bf, bl, bg] f19 f22 from (hKn.mono k24 sbA)).tr ((show hKn [lx, ly, lw, la, lq, le, xo, ez, eo, bu, nw0, na0, nq0, nr0, nw1, na1, nq1, nr1, bs, bp, bh, bf, bl, bg] f22 f25 from (hKn.mono k27 sbA)).tr (show hKn [lx, ly, lw, la, lq, le, xo, ez, eo, bu, nw0, na0, nq0, nr0, nw1, na1, nq1, nr1, bs, bp, bh, bf, bl, bg] f25 f28 from (hKn.mono k30 sbA)))))))⟩)
    · refine lv_sipush (v := 1023) hx hb dL_links_183 (by decide) ?_
      refine lv_goto (tgt := 199) hx hb dL_links_186 (by decide) ?_
      refine lv_istore (lv' := [(14, .int 1023), (13, .int (nI j13)), (12, .ref ly), (11, .int 8), (10, .int 1), (0, .ref xo), (1, .int (nI ac)), (2, .int u), (3, .int z), (4, .ref lx), (5, .ref ly), (6, .ref lw), (7, .ref la), (8, .ref lq), (9, .ref le)]) hx hb dL_links_199 hl9 (by decide) rfl (fun ls hl9 => ?_)
      refine lv_aload hx hb dL_links_201 (lv_at hl9 12 rfl) ?_
      refine lv_bipush (v := 6) hx hb dL_links_203 (by decide) ?_
      refine lv_iload hx hb dL_links_205 (lv_at hl9 4 rfl) ?_
      refine lv_imul hx hb dL_links_207 ?_
      refine hp_c (v := 6) (by decide) ?_
      refine lv_iload hx hb dL_links_208 (lv_at hl9 1 rfl) ?_
      refine lv_iadd hx hb dL_links_210 ?_
      refine hp_c (v := (nI (6 + j13))) (nI_add 6 j13) ?_
      refine hp_iald B0 hw k_la (vp_in_nI (show 6 + j13 < 12 by omega) (by omega)) dL_links_211 ?_
      refine hp_c (v := (ga1 j13)) ((by rw [nI_clamp (by omega)]; exact j6_1)) ?_
      refine lv_istore (lv' := [(15, .int (ga1 j13)), (14, .int 1023), (13, .int (nI j13)), (12, .ref ly), (11, .int 8), (10, .int 1), (0, .ref xo), (1, .int (nI ac)), (2, .int u), (3, .int z), (4, .ref lx), (5, .ref ly), (6, .ref lw), (7, .ref la), (8, .ref lq), (9, .ref le)]) hx hb dL_links_212 hl9 (by decide) rfl (fun ls hl9 => ?_)
      refine lv_aload hx hb dL_links_214 (lv_at hl9 13 rfl) ?_
      refine lv_bipush (v := 6) hx hb dL_links_216 (by decide) ?_
      refine lv_iload hx hb dL_links_218 (lv_at hl9 5 rfl) ?_
      refine lv_imul hx hb dL_links_220 ?_
      refine hp_c (v := 6) (by decide) ?_
      refine lv_iload hx hb dL_links_221 (lv_at hl9 2 rfl) ?_
      refine lv_iadd hx hb dL_links_223 ?_
      refine hp_c (v := (nI (6 + j13))) (nI_add 6 j13) ?_
      refine lv_iload hx hb dL_links_224 (lv_at hl9 1 rfl) ?_
      refine hp_iast B0 hw hS k_la (vp_in_nI (show 6 + j13 < 12 by omega) (by omega)) dL_links_226 (fun H locs f61 ef61 hw hS => ?_)
      rw [show (upd (j6r ga0 ga1) ((nI (6 + j13)) : Int32).toNatClampNeg 1023 : Nat → Int32) = (j6r ga0 (upd ga1 j13 1023)) from (by rw [nI_clamp (by omega), j6_u1])] at ef61
      have h62 : f61 la = some (.inl (cI G, 12, .inl (j6r ga0 (upd ga1 j13 1023)))) := by rw [ef61, va_up_self]
      refine lv_aload_n hx hb dL_links_227 rfl (lv_at hl9 6 rfl) ?_
      refine lv_iconst (v := (-1)) hx hb dL_links_228 (by decide) ?_
      refine lv_iload hx hb dL_links_229 (lv_at hl9 2 rfl) ?_
      refine lv_iconst (v := 0) hx hb dL_links_231 (by decide) ?_
      have h63 : f61 lx = some (.inl (cJ G, 64, .inr (.inl xs0))) := by rw [ef61, va_up_ne _ _ n_lx_la]; exact k_lx
      have h64 : f61 ly = some (.inl (cJ G, 64, .inr (.inl xs1))) := by rw [ef61, va_up_ne _ _ n_ly_la]; exact k_ly
      have h65 : f61 lw = some (.inl (cI G, 12, .inl (j6r gw0 gw1))) := by rw [ef61, va_up_ne _ _ n_lw_la]; exact k_lw
      have h66 : f61 lq = some (.inl (cI G, 12, .inl (j6r S0.2.2.2.2.2.2.2.1 S1.2.2.2.2.2.2.2.1))) := by rw [ef61, va_up_ne _ _ (Ne.symm n_la_lq)]; exact k_lq
      have h67 : f61 le = some (.inl (cI G, 16, .inl (jE (eSt S0) (e8r S1.1 S1.2.1 S1.2.2.1 S1.2.2.2.1 S1.2.2.2.2.1 S1.2.2.2.2.2.1 S1.2.2.2.2.2.2.1 (nI S1.2.2.2.2.2.2.2.2.length))))) := by rw [ef61, va_up_ne _ _ (Ne.symm n_la_le)]; exact h1
      have hC68 : CXW G f61 xo ez eo bu nw0 na0 nq0 nr0 nw1 na1 nq1 nr1 bs bp bh bf bl bg S0 S1 gw0 ga0 gw1 ga1 n a cg x sa pk fl gv gh gl := CXW.eq hC (show hEq [lx, ly, lw, la, lq, le] f f61 from (by rw [ef61]; exact hEq.up (List.mem_cons_of_mem _ (List.mem_cons_of_mem _ (List.mem_cons_of_mem _ List.mem_cons_self))))) hdis (fun b9 hb9 => by
          simp only [List.mem_cons, List.not_mem_nil, or_false] at hb9
          rcases hb9 with hb9 | hb9 | hb9 | hb9 | hb9 | hb9
          · rw [hb9]; exact ⟨_, _, k_lx, h63, (Nat.ne_of_beq_eq_false rfl), (Nat.ne_of_beq_eq_false rfl)⟩
          · rw [hb9]; exact ⟨_, _, k_ly, h64, (Nat.ne_of_beq_eq_false rfl), (Nat.ne_of_beq_eq_false rfl)⟩
          · rw [hb9]; exact ⟨_, _, k_lw, h65, (Nat.ne_of_beq_eq_false rfl), (Nat.ne_of_beq_eq_false rfl)⟩
          · rw [hb9]; exact ⟨_, _, k_la, h62, (Nat.ne_of_beq_eq_false rfl), (Nat.ne_of_beq_eq_false rfl)⟩
          · rw [hb9]; exact ⟨_, _, k_lq, h66, (Nat.ne_of_beq_eq_false rfl), (Nat.ne_of_beq_eq_false rfl)⟩
          · rw [hb9]; exact ⟨_, _, h1, h67, (Nat.ne_of_beq_eq_false rfl), (Nat.ne_of_beq_eq_false rfl)⟩)
      refine hp_SH (As := [.ref xo, .int (-1), .int (nI j13), .int 0]) (rest := []) B0 hw hS (c_V_allow_E hl G f61 xo ez eo bu nw0 na0 nq0 nr0 nw1 na1 nq1 nr1 bs bp bh bf bl bg S0 S1 gw0 ga0 gw1 ga1 n a cg x sa pk fl gv gh gl hC68 (Nat.lt_of_le_of_lt hl0 (by decide)) (Nat.lt_of_le_of_lt hl1 (by decide)) (-1) (nI j13) 0 (by decide)) mH_L_allow qM_L_100 rfl rfl hl9.1 (Nat.le_of_ble_eq_true rfl) ⟨⟨Nat.le_of_ble_eq_true rfl, Nat.le_of_ble_eq_true rfl⟩, Nat.le_of_ble_eq_true rfl, Nat.le_of_ble_eq_true rfl⟩ dL_links_232 (fun E ce q9 f69 H locs hPX hw hS hce hcv hcl => ?_) (fun v f69 H locs hP hw hS => ?_)
      · exact hPX.elim
      · obtain ⟨ev9, hC70, k71⟩ := hP
        subst ev9
        have hC70 : CXW G f69 xo ez eo bu nw0 na0 nq0 nr0 nw1 na1 nq1 nr1 bs bp bh bf bl bg S0 S1 gw0 ga0 gw1 ga1 n a cg x sa pk fl gv gh gl := hC70
        refine W.eq (g2 := F0 m 235 ls [.int (-71)]) rfl ?_
        refine lv_bipush (v := (-71)) hx hb dL_links_235 (by decide) ?_
        refine lv_icmp_ne (tgt := 302) hx hb dL_links_237 (by decide) (fun c9 => absurd (by decide) c9) (fun _ => ?_)
        refine lv_aload_n hx hb dL_links_240 rfl (lv_at hl9 6 rfl) ?_
        refine lv_iload hx hb dL_links_241 (lv_at hl9 5 rfl) ?_
        refine lv_iconst (v := (-1)) hx hb dL_links_243 (by decide) ?_
        refine lv_iconst (v := 0) hx hb dL_links_244 (by decide) ?_
        refine hp_SH (As := [.ref xo, .int 1, .int (-1), .int 0]) (rest := []) B0 hw hS (c_V_allow_O1 hl G f69 xo ez eo bu nw0 na0 nq0 nr0 nw1 na1 nq1 nr1 bs bp bh bf bl bg S0 S1 gw0 ga0 gw1 ga1 n a cg x sa pk fl gv gh gl hC70 (Nat.lt_of_le_of_lt hl0 (by decide)) (Nat.lt_of_le_of_lt hl1 (by decide)) (-1) 0 (by decide)) mH_L_allow qM_L_100 rfl rfl hl9.1 (Nat.le_of_ble_eq_true rfl) ⟨⟨Nat.le_of_ble_eq_true rfl, Nat.le_of_ble_eq_true rfl⟩, Nat.le_of_ble_eq_true rfl, Nat.le_of_ble_eq_true rfl⟩ dL_links_245 (fun E ce q9 f72 H locs hPX hw hS hce hcv hcl => ?_) (fun v f72 H locs hP hw hS => ?_)
        · exact hPX.elim
        · obtain ⟨ev9, hC73, k74⟩ := hP
          subst ev9
          have hC73 : CXW G f72 xo ez eo bu nw0 na0 nq0 nr0 nw1 na1 nq1 nr1 bs bp bh bf bl bg S0 S1 gw0 ga0 gw1 ga1 n a cg x sa pk fl gv gh gl := hC73
          refine W.eq (g2 := F0 m 248 ls [.int (-71)]) rfl ?_
          refine lv_bipush (v := (-71)) hx hb dL_links_248 (by decide) ?_
          refine lv_icmp_ne (tgt := 302) hx hb dL_links_250 (by decide) (fun c9 => absurd (by decide) c9) (fun _ => ?_)
          refine lv_aload_n hx hb dL_links_253 rfl (lv_at hl9 6 rfl) ?_
          refine lv_iload hx hb dL_links_254 (lv_at hl9 5 rfl) ?_
          refine lv_iload hx hb dL_links_256 (lv_at hl9 2 rfl) ?_
          refine lv_sipush (v := 1024) hx hb dL_links_258 (by decide) ?_
          refine hp_SH (As := [.ref xo, .int 1, .int (nI j13), .int 1024]) (rest := []) B0 hw hS (c_V_allow_V1 hl G f72 xo ez eo bu nw0 na0 nq0 nr0 nw1 na1 nq1 nr1 bs bp bh bf bl bg S0 S1 gw0 ga0 gw1 ga1 n a cg x sa pk fl gv gh gl hC73 (Nat.lt_of_le_of_lt hl0 (by decide)) (Nat.lt_of_le_of_lt hl1 (by decide)) j13 (by omega) 1024 (by decide)) mH_L_allow qM_L_100 rfl rfl hl9.1 (Nat.le_of_ble_eq_true rfl) ⟨⟨Nat.le_of_ble_eq_true rfl, Nat.le_of_ble_eq_true rfl⟩, Nat.le_of_ble_eq_true rfl, Nat.le_of_ble_eq_true rfl⟩ dL_links_261 (fun E ce q9 f75 H locs hPX hw hS hce hcv hcl => ?_) (fun v f75 H locs hP hw hS => ?_)
          · exact hPX.elim
          · obtain ⟨ev9, hC76, k77⟩ := hP
            subst ev9
            have hC76 : CXW G f75 xo ez eo bu nw0 na0 nq0 nr0 nw1 na1 nq1 nr1 bs bp bh bf bl bg S0 S1 gw0 ga0 gw1 ga1 n a cg x sa pk fl gv gh gl := hC76
            refine W.eq (g2 := F0 m 264 ls [.int (-72)]) rfl ?_
            refine lv_bipush (v := (-72)) hx hb dL_links_264 (by decide) ?_
            refine lv_icmp_ne (tgt := 302) hx hb dL_links_266 (by decide) (fun c9 => absurd (by decide) c9) (fun _ => ?_)
            refine lv_aload_n hx hb dL_links_269 rfl (lv_at hl9 6 rfl) ?_
            refine lv_iload hx hb dL_links_270 (lv_at hl9 5 rfl) ?_
            refine lv_iload hx hb dL_links_272 (lv_at hl9 2 rfl) ?_
            refine lv_iconst (v := (-1)) hx hb dL_links_274 (by decide) ?_
            refine hp_SH (As := [.ref xo, .int 1, .int (nI j13), .int (-1)]) (rest := []) B0 hw hS (c_V_allow_V1 hl G f75 xo ez eo bu nw0 na0 nq0 nr0 nw1 na1 nq1 nr1 bs bp bh bf bl bg S0 S1 gw0 ga0 gw1 ga1 n a cg x sa pk fl gv gh gl hC76 (Nat.lt_of_le_of_lt hl0 (by decide)) (Nat.lt_of_le_of_lt hl1 (by decide)) j13 (by omega) (-1) (by decide)) mH_L_allow qM_L_100 rfl rfl hl9.1 (Nat.le_of_ble_eq_true rfl) ⟨⟨Nat.le_of_ble_eq_true rfl, Nat.le_of_ble_eq_true rfl⟩, Nat.le_of_ble_eq_true rfl, Nat.le_of_ble_eq_true rfl⟩ dL_links_275 (fun E ce q9 f78 H locs hPX hw hS hce hcv hcl => ?_) (fun v f78 H locs hP hw hS => ?_)
            · exact hPX.elim
            · obtain ⟨ev9, hC79, k80⟩ := hP
              subst ev9
              have hC79 : CXW G f78 xo ez eo bu nw0 na0 nq0 nr0 nw1 na1 nq1 nr1 bs bp bh bf bl bg S0 S1 gw0 ga0 gw1 ga1 n a cg x sa pk fl gv gh gl := hC79
              refine W.eq (g2 := F0 m 278 ls [.int (-72)]) rfl ?_
              refine lv_bipush (v := (-72)) hx hb dL_links_278 (by decide) ?_
              refine lv_icmp_ne (tgt := 302) hx hb dL_links_280 (by decide) (fun c9 => absurd (by decide) c9) (fun _ => ?_)
              refine lv_aload_n hx hb dL_links_283 rfl (lv_at hl9 6 rfl) ?_
              refine lv_iload hx hb dL_links_284 (lv_at hl9 5 rfl) ?_
              refine lv_iload hx hb dL_links_286 (lv_at hl9 2 rfl) ?_
              refine lv_iload hx hb dL_links_288 (lv_at hl9 1 rfl) ?_
              refine hp_SH (As := [.ref xo, .int 1, .int (nI j13), .int 1023]) (rest := []) B0 hw hS (c_V_allow_1 hl G f78 xo ez eo bu nw0 na0 nq0 nr0 nw1 na1 nq1 nr1 bs bp bh bf bl bg S0 S1 gw0 ga0 gw1 ga1 n a cg x sa pk fl gv gh gl hC79 (Nat.lt_of_le_of_lt hl0 (by decide)) (Nat.lt_of_le_of_lt hl1 (by decide)) j13 (by omega) 1023 ⟨by decide, by decide⟩) mH_L_allow qM_L_100 rfl rfl hl9.1 (Nat.le_of_ble_eq_true rfl) ⟨⟨Nat.le_of_ble_eq_true rfl, Nat.le_of_ble_eq_true rfl⟩, Nat.le_of_ble_eq_true rfl, Nat.le_of_ble_eq_true rfl⟩ dL_links_290 (fun E ce q9 f81 H locs hPX hw hS hce hcv hcl => ?_) (fun v f81 H locs hP hw hS => ?_)
              · exact hPX.elim
              · obtain ⟨ev9, hC82, k83⟩ := hP
                subst ev9
                have hC82 : CXW G f81 xo ez eo bu nw0 na0 nq0 nr0 nw1 na1 nq1 nr1 bs bp bh bf bl bg S0 S1 gw0 ga0 gw1 (upd ga1 j13 1023) n a cg x sa pk fl gv gh gl := hC82
                refine W.eq (g2 := F0 m 293 ls [.int ((ga1 j13))]) rfl ?_
                refine lv_iload hx hb dL_links_293 (lv_at hl9 0 rfl) ?_
                refine lv_icmp_ne (tgt := 302) hx hb dL_links_295 (by decide) (fun c9 => absurd rfl c9) (fun _ => ?_)
                refine lv_iconst (v := 1) hx hb dL_links_298 (by decide) ?_
                refine lv_goto (tgt := 303) hx hb dL_links_299 (by decide) ?_
                have h84 : f69 lx = some (.inl (cJ G, 64, .inr (.inl xs0))) := k71 _ _ h63 (Nat.ne_of_beq_eq_false rfl) (hdos _ List.mem_cons_self)
                have h85 : f72 lx = some (.inl (cJ G, 64, .inr (.inl xs0))) := k74 _ _ h84 (Nat.ne_of_beq_eq_false rfl) (hdos _ List.mem_cons_self)
                have h86 : f75 lx = some (.inl (cJ G, 64, .inr (.inl xs0))) := k77 _ _ h85 (Nat.ne_of_beq_eq_false rfl) (hdos _ List.mem_cons_self)
                have h87 : f78 lx = some (.inl (cJ G, 64, .inr (.inl xs0))) := k80 _ _ h86 (Nat.ne_of_beq_eq_false rfl) (hdos _ List.mem_cons_self)
                have h88 : f81 lx = some (.inl (cJ G, 64, .inr (.inl xs0))) := k83 _ _ h87 (Nat.ne_of_beq_eq_false rfl) (hdos _ List.mem_cons_self)
                have h89 : f69 ly = some (.inl (cJ G, 64, .inr (.inl xs1))) := k71 _ _ h64 (Nat.ne_of_beq_eq_false rfl) (hdos _ (List.mem_cons_of_mem _ List.mem_cons_self))
                have h90 : f72 ly = some (.inl (cJ G, 64, .inr (.inl xs1))) := k74 _ _ h89 (Nat.ne_of_beq_eq_false rfl) (hdos _ (List.mem_cons_of_mem _ List.mem_cons_self))
                have h91 : f75 ly = some (.inl (cJ G, 64, .inr (.inl xs1))) := k77 _ _ h90 (Nat.ne_of_beq_eq_false rfl) (hdos _ (List.mem_cons_of_mem _ List.mem_cons_self))
                have h92 : f78 ly = some (.inl (cJ G, 64, .inr (.inl xs1))) := k80 _ _ h91 (Nat.ne_of_beq_eq_false rfl) (hdos _ (List.mem_cons_of_mem _ List.mem_cons_self))
                have h93 : f81 ly = some (.inl (cJ G, 64, .inr (.inl xs1))) := k83 _ _ h92 (Nat.ne_of_beq_eq_false rfl) (hdos _ (List.mem_cons_of_mem _ List.mem_cons_self))
                have h94 : f69 lw = some (.inl (cI G, 12, .inl (j6r gw0 gw1))) := k71 _ _ h65 (Nat.ne_of_beq_eq_false rfl) (hdos _ (List.mem_cons_of_mem _ (List.mem_cons_of_mem _ List.mem_cons_self)))
                have h95 : f72 lw = some (.inl (cI G, 12, .inl (j6r gw0 gw1))) := k74 _ _ h94 (Nat.ne_of_beq_eq_false rfl) (hdos _ (List.mem_cons_of_mem _ (List.mem_cons_of_mem _ List.mem_cons_self)))
                have h96 : f75 lw = some (.inl (cI G, 12, .inl (j6r gw0 gw1))) := k77 _ _ h95 (Nat.ne_of_beq_eq_false rfl) (hdos _ (List.mem_cons_of_mem _ (List.mem_cons_of_mem _ List.mem_cons_self)))
                have h97 : f78 lw = some (.inl (cI G, 12, .inl (j6r gw0 gw1))) := k80 _ _ h96 (Nat.ne_of_beq_eq_false rfl) (hdos _ (List.mem_cons_of_mem _ (List.mem_cons_of_mem _ List.mem_cons_self)))
                have h98 : f81 lw = some (.inl (cI G, 12, .inl (j6r gw0 gw1))) := k83 _ _ h97 (Nat.ne_of_beq_eq_false rfl) (hdos _ (List.mem_cons_of_mem _ (List.mem_cons_of_mem _ List.mem_cons_self)))
                have h99 : f69 la = some (.inl (cI G, 12, .inl (j6r ga0 (upd ga1 j13 1023)))) := k71 _ _ h62 (Nat.ne_of_beq_eq_false rfl) (hdos _ (List.mem_cons_of_mem _ (List.mem_cons_of_mem _ (List.mem_cons_of_mem _ List.mem_cons_self))))
                have h100 : f72 la = some (.inl (cI G, 12, .inl (j6r ga0 (upd ga1 j13 1023)))) := k74 _ _ h99 (Nat.ne_of_beq_eq_false rfl) (hdos _ (List.mem_cons_of_mem _ (List.mem_cons_of_mem _ (List.mem_cons_of_mem _ List.mem_cons_self))))
                have h101 : f75 la = some (.inl (cI G, 12, .inl (j6r ga0 (upd ga1 j13 1023)))) := k77 _ _ h100 (Nat.ne_of_beq_eq_false rfl) (hdos _ (List.mem_cons_of_mem _ (List.mem_cons_of_mem _ (List.mem_cons_of_mem _ List.mem_cons_self))))
                have h102 : f78 la = some (.inl (cI G, 12, .inl (j6r ga0 (upd ga1 j13 1023)))) := k80 _ _ h101 (Nat.ne_of_beq_eq_false rfl) (hdos _ (List.mem_cons_of_mem _ (List.mem_cons_of_mem _ (List.mem_cons_of_mem _ List.mem_cons_self))))
                have h103 : f81 la = some (.inl (cI G, 12, .inl (j6r ga0 (upd ga1 j13 1023)))) := k83 _ _ h102 (Nat.ne_of_beq_eq_false rfl) (hdos _ (List.mem_cons_of_mem _ (List.mem_cons_of_mem _ (List.mem_cons_of_mem _ List.mem_cons_self))))
                have h104 : f69 lq = some (.inl (cI G, 12, .inl (j6r S0.2.2.2.2.2.2.2.1 S1.2.2.2.2.2.2.2.1))) := k71 _ _ h66 (Nat.ne_of_beq_eq_false rfl) (hdos _ (List.mem_cons_of_mem _ (List.mem_cons_of_mem _ (List.mem_cons_of_mem _ (List.mem_cons_of_mem _ List.mem_cons_self)))))
                have h105 : f72 lq = some (.inl (cI G, 12, .inl (j6r S0.2.2.2.2.2.2.2.1 S1.2.2.2.2.2.2.2.1))) := k74 _ _ h104 (Nat.ne_of_beq_eq_false rfl) (hdos _ (List.mem_cons_of_mem _ (List.mem_cons_of_mem _ (List.mem_cons_of_mem _ (List.mem_cons_of_mem _ List.mem_cons_self)))))
                have h106 : f75 lq = some (.inl (cI G, 12, .inl (j6r S0.2.2.2.2.2.2.2.1 S1.2.2.2.2.2.2.2.1))) := k77 _ _ h105 (Nat.ne_of_beq_eq_false rfl) (hdos _ (List.mem_cons_of_mem _ (List.mem_cons_of_mem _ (List.mem_cons_of_mem _ (List.mem_cons_of_mem _ List.mem_cons_self)))))
                have h107 : f78 lq = some (.inl (cI G, 12, .inl (j6r S0.2.2.2.2.2.2.2.1 S1.2.2.2.2.2.2.2.1))) := k80 _ _ h106 (Nat.ne_of_beq_eq_false rfl) (hdos _ (List.mem_cons_of_mem _ (List.mem_cons_of_mem _ (List.mem_cons_of_mem _ (List.mem_cons_of_mem _ List.mem_cons_self)))))
                have h108 : f81 lq = some (.inl (cI G, 12, .inl (j6r S0.2.2.2.2.2.2.2.1 S1.2.2.2.2.2.2.2.1))) := k83 _ _ h107 (Nat.ne_of_beq_eq_false rfl) (hdos _ (List.mem_cons_of_mem _ (List.mem_cons_of_mem _ (List.mem_cons_of_mem _ (List.mem_cons_of_mem _ List.mem_cons_self)))))
                have h109 : f69 le = some (.inl (cI G, 16, .inl (jE (eSt S0) (e8r S1.1 S1.2.1 S1.2.2.1 S1.2.2.2.1 S1.2.2.2.2.1 S1.2.2.2.2.2.1 S1.2.2.2.2.2.2.1 (nI S1.2.2.2.2.2.2.2.2.length))))) := k71 _ _ h67 (Nat.ne_of_beq_eq_false rfl) (hdos _ (List.mem_cons_of_mem _ (List.mem_cons_of_mem _ (List.mem_cons_of_mem _ (List.mem_cons_of_mem _ (List.mem_cons_of_mem _ List.mem_cons_self))))))
                have h110 : f72 le = some (.inl (cI G, 16, .inl (jE (eSt S0) (e8r S1.1 S1.2.1 S1.2.2.1 S1.2.2.2.1 S1.2.2.2.2.1 S1.2.2.2.2.2.1 S1.2.2.2.2.2.2.1 (nI S1.2.2.2.2.2.2.2.2.length))))) := k74 _ _ h109 (Nat.ne_of_beq_eq_false rfl) (hdos _ (List.mem_cons_of_mem _ (List.mem_cons_of_mem _ (List.mem_cons_of_mem _ (List.mem_cons_of_mem _ (List.mem_cons_of_mem _ List.mem_cons_self))))))
                have h111 : f75 le = some (.inl (cI G, 16, .inl (jE (eSt S0) (e8r S1.1 S1.2.1 S1.2.2.1 S1.2.2.2.1 S1.2.2.2.2.1 S1.2.2.2.2.2.1 S1.2.2.2.2.2.2.1 (nI S1.2.2.2.2.2.2.2.2.length))))) := k77 _ _ h110 (Nat.ne_of_beq_eq_false rfl) (hdos _ (List.mem_cons_of_mem _ (List.mem_cons_of_mem _ (List.mem_cons_of_mem _ (List.mem_cons_of_mem _ (List.mem_cons_of_mem _ List.mem_cons_self))))))
                have h112 : f78 le = some (.inl (cI G, 16, .inl (jE (eSt S0) (e8r S1.1 S1.2.1 S1.2.2.1 S1.2.2.2.1 S1.2.2.2.2.1 S1.2.2.2.2.2.1 S1.2.2.2.2.2.2.1 (nI S1.2.2.2.2.2.2.2.2.length))))) := k80 _ _ h111 (Nat.ne_of_beq_eq_false rfl) (hdos _ (List.mem_cons_of_mem _ (List.mem_cons_of_mem _ (List.mem_cons_of_mem _ (List.mem_cons_of_mem _ (List.mem_cons_of_mem _ List.mem_cons_self))))))
                have h113 : f81 le = some (.inl (cI G, 16, .inl (jE (eSt S0) (e8r S1.1 S1.2.1 S1.2.2.1 S1.2.2.2.1 S1.2.2.2.2.1 S1.2.2.2.2.2.1 S1.2.2.2.2.2.2.1 (nI S1.2.2.2.2.2.2.2.2.length))))) := k83 _ _ h112 (Nat.ne_of_beq_eq_false rfl) (hdos _ (List.mem_cons_of_mem _ (List.mem_cons_of_mem _ (List.mem_cons_of_mem _ (List.mem_cons_of_mem _ (List.mem_cons_of_mem _ List.mem_cons_self))))))
                exact hp_zret (v := 1) B0 hw hS hr ⟨Nat.le_of_ble_eq_true rfl, Nat.le_of_ble_eq_true rfl⟩ (rfl) dL_links_303 (⟨rfl, S0, S1, gw0, ga0, gw1, (upd ga1 j13 1023), hC82, ⟨⟨_, h88, hX0⟩, ⟨_, h93, hX1⟩, h98, h103, h108, h113⟩, ⟨SOK.mono hSo0 (by omega), SOK.mono hSo1 (by omega), hgw0, hga0, hgw1, (AOK_upd hga1 ⟨by decide, by decide⟩)⟩, hl0, hl1, ((show hKn [lx, ly, lw, la, lq, le, xo, ez, eo, bu, nw0, na0, nq0, nr0, nw1, na1, nq1, nr1, bs, bp, bh, bf, bl, bg] f f61 from (by rw [ef61]; exact hKn.up (List.mem_cons_of_mem _ (List.mem_cons_of_mem _ (List.mem_cons_of_mem _ List.mem_cons_self))))).tr ((show hKn [lx, ly, lw, la, lq, le, xo, ez, eo, bu, nw0, na0, nq0, nr0, nw1, na1, nq1, nr1, bs, bp, bh, bf, bl, bg] f61 f69 from (hKn.mono k71 sbA)).tr ((show hKn [lx, ly, lw, la, lq, le, xo, ez, eo, bu, nw0, na0, nq0, nr0, nw1, na1, nq1, nr1, bs, bp, bh, bf, bl, bg] f69 f72 from (hKn.mono k74 sbA)).tr ((show hKn [lx, ly, lw, la, lq, le, xo, ez, eo, bu, nw0, na0, nq0, nr0, nw1, na1, nq1, nr1, bs, bp, bh, bf, bl, bg] f72 f75 from (hKn.mono k77 sbA)).tr ((show hKn [lx, ly, lw, la, lq, le, xo, ez, eo, bu, nw0, na0, nq0, nr0, nw1, na1, nq1, nr1, bs, bp, bh, bf, bl, bg] f75 f78 from (hKn.mono k80 sbA)).tr (show hKn [lx, ly, lw, la, lq, le, xo, ez, eo, bu, nw0, na0, nq0, nr0, nw1, na1, nq1, nr1, bs, bp, bh, bf, bl, bg] f78 f81 from (hKn.mono k83 sbA)))))))⟩)
  · refine lv_iconst (v := 0) hx hb dL_links_170 (by decide) ?_
    refine lv_goto (tgt := 199) hx hb dL_links_171 (by decide) ?_
    refine lv_istore (lv' := [(14, .int 0), (13, .int (nI j13)), (12, .ref ly), (11, .int 8), (10, .int 1), (0, .ref xo), (1, .int (nI ac)), (2, .int u), (3, .int z), (4, .ref lx), (5, .ref ly), (6, .ref lw), (7, .ref la), (8, .ref lq), (9, .ref le)]) hx hb dL_links_199 hl9 (by decide) rfl (fun ls hl9 => ?_)
    refine lv_aload hx hb dL_links_201 (lv_at hl9 12 rfl) ?_
    refine lv_bipush (v := 6) hx hb dL_links_203 (by decide) ?_
    refine lv_iload hx hb dL_links_205 (lv_at hl9 4 rfl) ?_
    refine lv_imul hx hb dL_links_207 ?_
    refine hp_c (v := 6) (by decide) ?_
    refine lv_iload hx hb dL_links_208 (lv_at hl9 1 rfl) ?_
    refine lv_iadd hx hb dL_links_210 ?_
    refine hp_c (v := (nI (6 + j13))) (nI_add 6 j13) ?_
    refine hp_iald B0 hw k_la (vp_in_nI (show 6 + j13 < 12 by omega) (by omega)) dL_links_211 ?_
    refine hp_c (v := (ga1 j13)) ((by rw [nI_clamp (by omega)]; exact j6_1)) ?_
    refine lv_istore (lv' := [(15, .int (ga1 j13)), (14, .int 0), (13, .int (nI j13)), (12, .ref ly), (11, .int 8), (10, .int 1), (0, .ref xo), (1, .int (nI ac)), (2, .int u), (3, .int z), (4, .ref lx), (5, .ref ly), (6, .ref lw), (7, .ref la), (8, .ref lq), (9, .ref le)]) hx hb dL_links_212 hl9 (by decide) rfl (fun ls hl9 => ?_)
    refine lv_aload hx hb dL_links_214 (lv_at hl9 13 rfl) ?_
    refine lv_bipush (v := 6) hx hb dL_links_216 (by decide) ?_
    refine lv_iload hx hb dL_links_218 (lv_at hl9 5 rfl) ?_
    refine lv_imul hx hb dL_links_220 ?_
    refine hp_c (v := 6) (by decide) ?_
    refine lv_iload hx hb dL_links_221 (lv_at hl9 2 rfl) ?_
    refine lv_iadd hx hb dL_links_223 ?_
    refine hp_c (v := (nI (6 + j13))) (nI_add 6 j13) ?_
    refine lv_iload hx hb dL_links_224 (lv_at hl9 1 rfl) ?_
    refine hp_iast B0 hw hS k_la (vp_in_nI (show 6 + j13 < 12 by omega) (by omega)) dL_links_226 (fun H locs f114 ef114 hw hS => ?_)
    rw [show (upd (j6r ga0 ga1) ((nI (6 + j13)) : Int32).toNatClampNeg 0 : Nat → Int32) = (j6r ga0 (upd ga1 j13 0)) from (by rw [nI_clamp (by omega), j6_u1])] at ef114
    have h115 : f114 la = some (.inl (cI G, 12, .inl (j6r ga0 (upd ga1 j13 0)))) := by rw [ef114, va_up_self]
    refine lv_aload_n hx hb dL_links_227 rfl (lv_at hl9 6 rfl) ?_
    refine lv_iconst (v := (-1)) hx hb dL_links_228 (by decide) ?_
    refine lv_iload hx hb dL_links_229 (lv_at hl9 2 rfl) ?_
    refine lv_iconst (v := 0) hx hb dL_links_231 (by decide) ?_
    have h116 : f114 lx = some (.inl (cJ G, 64, .inr (.inl xs0))) := by rw [ef114, va_up_ne _ _ n_lx_la]; exact k_lx
    have h117 : f114 ly = some (.inl (cJ G, 64, .inr (.inl xs1))) := by rw [ef114, va_up_ne _ _ n_ly_la]; exact k_ly
    have h118 : f114 lw = some (.inl (cI G, 12, .inl (j6r gw0 gw1))) := by rw [ef114, va_up_ne _ _ n_lw_la]; exact k_lw
    have h119 : f114 lq = some (.inl (cI G, 12, .inl (j6r S0.2.2.2.2.2.2.2.1 S1.2.2.2.2.2.2.2.1))) := by rw [ef114, va_up_ne _ _ (Ne.symm n_la_lq)]; exact k_lq
    have h120 : f114 le = some (.inl (cI G, 16, .inl (jE (eSt S0) (e8r S1.1 S1.2.1 S1.2.2.1 S1.2.2.2.1 S1.2.2.2.2.1 S1.2.2.2.2.2.1 S1.2.2.2.2.2.2.1 (nI S1.2.2.2.2.2.2.2.2.length))))) := by rw [ef114, va_up_ne _ _ (Ne.symm n_la_le)]; exact h1
    have hC121 : CXW G f114 xo ez eo bu nw0 na0 nq0 nr0 nw1 na1 nq1 nr1 bs bp bh bf bl bg S0 S1 gw0 ga0 gw1 ga1 n a cg x sa pk fl gv gh gl := CXW.eq hC (show hEq [lx, ly, lw, la, lq, le] f f114 from (by rw [ef114]; exact hEq.up (List.mem_cons_of_mem _ (List.mem_cons_of_mem _ (List.mem_cons_of_mem _ List.mem_cons_self))))) hdis (fun b9 hb9 => by
        simp only [List.mem_cons, List.not_mem_nil, or_false] at hb9
        rcases hb9 with hb9 | hb9 | hb9 | hb9 | hb9 | hb9
        · rw [hb9]; exact ⟨_, _, k_lx, h116, (Nat.ne_of_beq_eq_false rfl), (Nat.ne_of_beq_eq_false rfl)⟩
        · rw [hb9]; exact ⟨_, _, k_ly, h117, (Nat.ne_of_beq_eq_false rfl), (Nat.ne_of_beq_eq_false rfl)⟩
        · rw [hb9]; exact ⟨_, _, k_lw, h118, (Nat.ne_of_beq_eq_false rfl), (Nat.ne_of_beq_eq_false rfl)⟩
        · rw [hb9]; exact ⟨_, _, k_la, h115, (Nat.ne_of_beq_eq_false rfl), (Nat.ne_of_beq_eq_false rfl)⟩
        · rw [hb9]; exact ⟨_, _, k_lq, h119, (Nat.ne_of_beq_eq_false rfl), (Nat.ne_of_beq_eq_false rfl)⟩
        · rw [hb9]; exact ⟨_, _, h1, h120, (Nat.ne_of_beq_eq_false rfl), (Nat.ne_of_beq_eq_false rfl)⟩)
    refine hp_SH (As := [.ref xo, .int (-1), .int (nI j13), .int 0]) (rest := []) B0 hw hS (c_V_allow_E hl G f114 xo ez eo bu nw0 na0 nq0 nr0 nw1 na1 nq1 nr1 bs bp bh bf bl bg S0 S1 gw0 ga0 gw1 ga1 n a cg x sa pk fl gv gh gl hC121 (Nat.lt_of_le_of_lt hl0 (by decide)) (Nat.lt_of_le_of_lt hl1 (by decide)) (-1) (nI j13) 0 (by decide)) mH_L_allow qM_L_100 rfl rfl hl9.1 (Nat.le_of_ble_eq_true rfl) ⟨⟨Nat.le_of_ble_eq_true rfl, Nat.le_of_ble_eq_true rfl⟩, Nat.le_of_ble_eq_true rfl, Nat.le_of_ble_eq_true rfl⟩ dL_links_232 (fun E ce q9 f122 H locs hPX hw hS hce hcv hcl => ?_) (fun v f122 H locs hP hw hS => ?_)
    · exact hPX.elim
    · obtain ⟨ev9, hC123, k124⟩ := hP
      subst ev9
      have hC123 : CXW G f122 xo ez eo bu nw0 na0 nq0 nr0 nw1 na1 nq1 nr1 bs bp bh bf bl bg S0 S1 gw0 ga0 gw1 ga1 n a cg x sa pk fl gv gh gl := hC123
      refine W.eq (g2 := F0 m 235 ls [.int (-71)]) rfl ?_
      refine lv_bipush (v := (-71)) hx hb dL_links_235 (by decide) ?_
      refine lv_icmp_ne (tgt := 302) hx hb dL_links_237 (by decide) (fun c9 => absurd (by decide) c9) (fun _ => ?_)
      refine lv_aload_n hx hb dL_links_240 rfl (lv_at hl9 6 rfl) ?_
      refine lv_iload hx hb dL_links_241 (lv_at hl9 5 rfl) ?_
      refine lv_iconst (v := (-1)) hx hb dL_links_243 (by decide) ?_
      refine lv_iconst (v := 0) hx hb dL_links_244 (by decide) ?_
      refine hp_SH (As := [.ref xo, .int 1, .int (-1), .int 0]) (rest := []) B0 hw hS (c_V_allow_O1 hl G f122 xo ez eo bu nw0 na0 nq0 nr0 nw1 na1 nq1 nr1 bs bp bh bf bl bg S0 S1 gw0 ga0 gw1 ga1 n a cg x sa pk fl gv gh gl hC123 (Nat.lt_of_le_of_lt hl0 (by decide)) (Nat.lt_of_le_of_lt hl1 (by decide)) (-1) 0 (by decide)) mH_L_allow qM_L_100 rfl rfl hl9.1 (Nat.le_of_ble_eq_true rfl) ⟨⟨Nat.le_of_ble_eq_true rfl, Nat.le_of_ble_eq_true rfl⟩, Nat.le_of_ble_eq_true rfl, Nat.le_of_ble_eq_true rfl⟩ dL_links_245 (fun E ce q9 f125 H locs hPX hw hS hce hcv hcl => ?_) (fun v f125 H locs hP hw hS => ?_)
      · exact hPX.elim
      · obtain ⟨ev9, hC126, k127⟩ := hP
        subst ev9
        have hC126 : CXW G f125 xo ez eo bu nw0 na0 nq0 nr0 nw1 na1 nq1 nr1 bs bp bh bf bl bg S0 S1 gw0 ga0 gw1 ga1 n a cg x sa pk fl gv gh gl := hC126
        refine W.eq (g2 := F0 m 248 ls [.int (-71)]) rfl ?_
        refine lv_bipush (v := (-71)) hx hb dL_links_248 (by decide) ?_
        refine lv_icmp_ne (tgt := 302) hx hb dL_links_250 (by decide) (fun c9 => absurd (by decide) c9) (fun _ => ?_)
        refine lv_aload_n hx hb dL_links_253 rfl (lv_at hl9 6 rfl) ?_
        refine lv_iload hx hb dL_links_254 (lv_at hl9 5 rfl) ?_
        refine lv_iload hx hb dL_links_256 (lv_at hl9 2 rfl) ?_
        refine lv_sipush (v := 1024) hx hb dL_links_258 (by decide) ?_
        refine hp_SH (As := [.ref xo, .int 1, .int (nI j13), .int 1024]) (rest := []) B0 hw hS (c_V_allow_V1 hl G f125 xo ez eo bu nw0 na0 nq0 nr0 nw1 na1 nq1 nr1 bs bp bh bf bl bg S0 S1 gw0 ga0 gw1 ga1 n a cg x sa pk fl gv gh gl hC126 (Nat.lt_of_le_of_lt hl0 (by decide)) (Nat.lt_of_le_of_lt hl1 (by decide)) j13 (by omega) 1024 (by decide)) mH_L_allow qM_L_100 rfl rfl hl9.1 (Nat.le_of_ble_eq_true rfl) ⟨⟨Nat.le_of_ble_eq_true rfl, Nat.le_of_ble_eq_true rfl⟩, Nat.le_of_ble_eq_true rfl, Nat.le_of_ble_eq_true rfl⟩ dL_links_261 (fun E ce q9 f128 H locs hPX hw hS hce hcv hcl => ?_) (fun v f128 H locs hP hw hS => ?_)
        · exact hPX.elim
        · obtain ⟨ev9, hC129, k130⟩ := hP
          subst ev9
          have hC129 : CXW G f128 xo ez eo bu nw0 na0 nq0 nr0 nw1 na1 nq1 nr1 bs bp bh bf bl bg S0 S1 gw0 ga0 gw1 ga1 n a cg x sa pk fl gv gh gl := hC129
          refine W.eq (g2 := F0 m 264 ls [.int (-72)]) rfl ?_
          refine lv_bipush (v := (-72)) hx hb dL_links_264 (by decide) ?_
          refine lv_icmp_ne (tgt := 302) hx hb dL_links_266 (by decide) (fun c9 => absurd (by decide) c9) (fun _ => ?_)
          refine lv_aload_n hx hb dL_links_269 rfl (lv_at hl9 6 rfl) ?_
          refine lv_iload hx hb dL_links_270 (lv_at hl9 5 rfl) ?_
          refine lv_iload hx hb dL_links_272 (lv_at hl9 2 rfl) ?_
          refine lv_iconst (v := (-1)) hx hb dL_links_274 (by decide) ?_
          refine hp_SH (As := [.ref xo, .int 1, .int (nI j13), .int (-1)]) (rest := []) B0 hw hS (c_V_allow_V1 hl G f128 xo ez eo bu nw0 na0 nq0 nr0 nw1 na1 nq1 nr1 bs bp bh bf bl bg S0 S1 gw0 ga0 gw1 ga1 n a cg x sa pk fl gv gh gl hC129 (Nat.lt_of_le_of_lt hl0 (by decide)) (Nat.lt_of_le_of_lt hl1 (by decide)) j13 (by omega) (-1) (by decide)) mH_L_allow qM_L_100 rfl rfl hl9.1 (Nat.le_of_ble_eq_true rfl) ⟨⟨Nat.le_of_ble_eq_true rfl, Nat.le_of_ble_eq_true rfl⟩, Nat.le_of_ble_eq_true rfl, Nat.le_of_ble_eq_true rfl⟩ dL_links_275 (fun E ce q9 f131 H locs hPX hw hS hce hcv hcl => ?_) (fun v f131 H locs hP hw hS => ?_)
          · exact hPX.elim
          · obtain ⟨ev9, hC132, k133⟩ := hP
            subst ev9
            have hC132 : CXW G f131 xo ez eo bu nw0 na0 nq0 nr0 nw1 na1 nq1 nr1 bs bp bh bf bl bg S0 S1 gw0 ga0 gw1 ga1 n a cg x sa pk fl gv gh gl := hC132
            refine W.eq (g2 := F0 m 278 ls [.int (-72)]) rfl ?_
            refine lv_bipush (v := (-72)) hx hb dL_links_278 (by decide) ?_
            refine lv_icmp_ne (tgt := 302) hx hb dL_links_280 (by decide) (fun c9 => absurd (by decide) c9) (fun _ => ?_)
            refine lv_aload_n hx hb dL_links_283 rfl (lv_at hl9 6 rfl) ?_
            refine lv_iload hx hb dL_links_284 (lv_at hl9 5 rfl) ?_
            refine lv_iload hx hb dL_links_286 (lv_at hl9 2 rfl) ?_
            refine lv_iload hx hb dL_links_288 (lv_at hl9 1 rfl) ?_
            refine hp_SH (As := [.ref xo, .int 1, .int (nI j13), .int 0]) (rest := []) B0 hw hS (c_V_allow_1 hl G f131 xo ez eo bu nw0 na0 nq0 nr0 nw1 na1 nq1 nr1 bs bp bh bf bl bg S0 S1 gw0 ga0 gw1 ga1 n a cg x sa pk fl gv gh gl hC132 (Nat.lt_of_le_of_lt hl0 (by decide)) (Nat.lt_of_le_of_lt hl1 (by decide)) j13 (by omega) 0 ⟨by decide, by decide⟩) mH_L_allow qM_L_100 rfl rfl hl9.1 (Nat.le_of_ble_eq_true rfl) ⟨⟨Nat.le_of_ble_eq_true rfl, Nat.le_of_ble_eq_true rfl⟩, Nat.le_of_ble_eq_true rfl, Nat.le_of_ble_eq_true rfl⟩ dL_links_290 (fun E ce q9 f134 H locs hPX hw hS hce hcv hcl => ?_) (fun v f134 H locs hP hw hS => ?_)
            · exact hPX.elim
            · obtain ⟨ev9, hC135, k136⟩ := hP
              subst ev9
              have hC135 : CXW G f134 xo ez eo bu nw0 na0 nq0 nr0 nw1 na1 nq1 nr1 bs bp bh bf bl bg S0 S1 gw0 ga0 gw1 (upd ga1 j13 0) n a cg x sa pk fl gv gh gl := hC135
              refine W.eq (g2 := F0 m 293 ls [.int ((ga1 j13))]) rfl ?_
              refine lv_iload hx hb dL_links_293 (lv_at hl9 0 rfl) ?_
              refine lv_icmp_ne (tgt := 302) hx hb dL_links_295 (by decide) (fun c9 => absurd rfl c9) (fun _ => ?_)
              refine lv_iconst (v := 1) hx hb dL_links_298 (by decide) ?_
              refine lv_goto (tgt := 303) hx hb dL_links_299 (by decide) ?_
              have h137 : f122 lx = some (.inl (cJ G, 64, .inr (.inl xs0))) := k124 _ _ h116 (Nat.ne_of_beq_eq_false rfl) (hdos _ List.mem_cons_self)
              have h138 : f125 lx = some (.inl (cJ G, 64, .inr (.inl xs0))) := k127 _ _ h137 (Nat.ne_of_beq_eq_false rfl) (hdos _ List.mem_cons_self)
              have h139 : f128 lx = some (.inl (cJ G, 64, .inr (.inl xs0))) := k130 _ _ h138 (Nat.ne_of_beq_eq_false rfl) (hdos _ List.mem_cons_self)
              have h140 : f131 lx = some (.inl (cJ G, 64, .inr (.inl xs0))) := k133 _ _ h139 (Nat.ne_of_beq_eq_false rfl) (hdos _ List.mem_cons_self)
              have h141 : f134 lx = some (.inl (cJ G, 64, .inr (.inl xs0))) := k136 _ _ h140 (Nat.ne_of_beq_eq_false rfl) (hdos _ List.mem_cons_self)
              have h142 : f122 ly = some (.inl (cJ G, 64, .inr (.inl xs1))) := k124 _ _ h117 (Nat.ne_of_beq_eq_false rfl) (hdos _ (List.mem_cons_of_mem _ List.mem_cons_self))
              have h143 : f125 ly = some (.inl (cJ G, 64, .inr (.inl xs1))) := k127 _ _ h142 (Nat.ne_of_beq_eq_false rfl) (hdos _ (List.mem_cons_of_mem _ List.mem_cons_self))
              have h144 : f128 ly = some (.inl (cJ G, 64, .inr (.inl xs1))) := k130 _ _ h143 (Nat.ne_of_beq_eq_false rfl) (hdos _ (List.mem_cons_of_mem _ List.mem_cons_self))
              have h145 : f131 ly = some (.inl (cJ G, 64, .inr (.inl xs1))) := k133 _ _ h144 (Nat.ne_of_beq_eq_false rfl) (hdos _ (List.mem_cons_of_mem _ List.mem_cons_self))
              have h146 : f134 ly = some (.inl (cJ G, 64, .inr (.inl xs1))) := k136 _ _ h145 (Nat.ne_of_beq_eq_false rfl) (hdos _ (List.mem_cons_of_mem _ List.mem_cons_self))
              have h147 : f122 lw = some (.inl (cI G, 12, .inl (j6r gw0 gw1))) := k124 _ _ h118 (Nat.ne_of_beq_eq_false rfl) (hdos _ (List.mem_cons_of_mem _ (List.mem_cons_of_mem _ List.mem_cons_self)))
              have h148 : f125 lw = some (.inl (cI G, 12, .inl (j6r gw0 gw1))) := k127 _ _ h147 (Nat.ne_of_beq_eq_false rfl) (hdos _ (List.mem_cons_of_mem _ (List.mem_cons_of_mem _ List.mem_cons_self)))
              have h149 : f128 lw = some (.inl (cI G, 12, .inl (j6r gw0 gw1))) := k130 _ _ h148 (Nat.ne_of_beq_eq_false rfl) (hdos _ (List.mem_cons_of_mem _ (List.mem_cons_of_mem _ List.mem_cons_self)))
              have h150 : f131 lw = some (.inl (cI G, 12, .inl (j6r gw0 gw1))) := k133 _ _ h149 (Nat.ne_of_beq_eq_false rfl) (hdos _ (List.mem_cons_of_mem _ (List.mem_cons_of_mem _ List.mem_cons_self)))
              have h151 : f134 lw = some (.inl (cI G, 12, .inl (j6r gw0 gw1))) := k136 _ _ h150 (Nat.ne_of_beq_eq_false rfl) (hdos _ (List.mem_cons_of_mem _ (List.mem_cons_of_mem _ List.mem_cons_self)))
              have h152 : f122 la = some (.inl (cI G, 12, .inl (j6r ga0 (upd ga1 j13 0)))) := k124 _ _ h115 (Nat.ne_of_beq_eq_false rfl) (hdos _ (List.mem_cons_of_mem _ (List.mem_cons_of_mem _ (List.mem_cons_of_mem _ List.mem_cons_self))))
              have h153 : f125 la = some (.inl (cI G, 12, .inl (j6r ga0 (upd ga1 j13 0)))) := k127 _ _ h152 (Nat.ne_of_beq_eq_false rfl) (hdos _ (List.mem_cons_of_mem _ (List.mem_cons_of_mem _ (List.mem_cons_of_mem _ List.mem_cons_self))))
              have h154 : f128 la = some (.inl (cI G, 12, .inl (j6r ga0 (upd ga1 j13 0)))) := k130 _ _ h153 (Nat.ne_of_beq_eq_false rfl) (hdos _ (List.mem_cons_of_mem _ (List.mem_cons_of_mem _ (List.mem_cons_of_mem _ List.mem_cons_self))))
              have h155 : f131 la = some (.inl (cI G, 12, .inl (j6r ga0 (upd ga1 j13 0)))) := k133 _ _ h154 (Nat.ne_of_beq_eq_false rfl) (hdos _ (List.mem_cons_of_mem _ (List.mem_cons_of_mem _ (List.mem_cons_of_mem _ List.mem_cons_self))))
              have h156 : f134 la = some (.inl (cI G, 12, .inl (j6r ga0 (upd ga1 j13 0)))) := k136 _ _ h155 (Nat.ne_of_beq_eq_false rfl) (hdos _ (List.mem_cons_of_mem _ (List.mem_cons_of_mem _ (List.mem_cons_of_mem _ List.mem_cons_self))))
              have h157 : f122 lq = some (.inl (cI G, 12, .inl (j6r S0.2.2.2.2.2.2.2.1 S1.2.2.2.2.2.2.2.1))) := k124 _ _ h119 (Nat.ne_of_beq_eq_false rfl) (hdos _ (List.mem_cons_of_mem _ (List.mem_cons_of_mem _ (List.mem_cons_of_mem _ (List.mem_cons_of_mem _ List.mem_cons_self)))))
              have h158 : f125 lq = some (.inl (cI G, 12, .inl (j6r S0.2.2.2.2.2.2.2.1 S1.2.2.2.2.2.2.2.1))) := k127 _ _ h157 (Nat.ne_of_beq_eq_false rfl) (hdos _ (List.mem_cons_of_mem _ (List.mem_cons_of_mem _ (List.mem_cons_of_mem _ (List.mem_cons_of_mem _ List.mem_cons_self)))))
              have h159 : f128 lq = some (.inl (cI G, 12, .inl (j6r S0.2.2.2.2.2.2.2.1 S1.2.2.2.2.2.2.2.1))) := k130 _ _ h158 (Nat.ne_of_beq_eq_false rfl) (hdos _ (List.mem_cons_of_mem _ (List.mem_cons_of_mem _ (List.mem_cons_of_mem _ (List.mem_cons_of_mem _ List.mem_cons_self)))))
              have h160 : f131 lq = some (.inl (cI G, 12, .inl (j6r S0.2.2.2.2.2.2.2.1 S1.2.2.2.2.2.2.2.1))) := k133 _ _ h159 (Nat.ne_of_beq_eq_false rfl) (hdos _ (List.mem_cons_of_mem _ (List.mem_cons_of_mem _ (List.mem_cons_of_mem _ (List.mem_cons_of_mem _ List.mem_cons_self)))))
              have h161 : f134 lq = some (.inl (cI G, 12, .inl (j6r S0.2.2.2.2.2.2.2.1 S1.2.2.2.2.2.2.2.1))) := k136 _ _ h160 (Nat.ne_of_beq_eq_false rfl) (hdos _ (List.mem_cons_of_mem _ (List.mem_cons_of_mem _ (List.mem_cons_of_mem _ (List.mem_cons_of_mem _ List.mem_cons_self)))))
              have h162 : f122 le = some (.inl (cI G, 16, .inl (jE (eSt S0) (e8r S1.1 S1.2.1 S1.2.2.1 S1.2.2.2.1 S1.2.2.2.2.1 S1.2.2.2.2.2.1 S1.2.2.2.2.2.2.1 (nI S1.2.2.2.2.2.2.2.2.length))))) := k124 _ _ h120 (Nat.ne_of_beq_eq_false rfl) (hdos _ (List.mem_cons_of_mem _ (List.mem_cons_of_mem _ (List.mem_cons_of_mem _ (List.mem_cons_of_mem _ (List.mem_cons_of_mem _ List.mem_cons_self))))))
              have h163 : f125 le = some (.inl (cI G, 16, .inl (jE (eSt S0) (e8r S1.1 S1.2.1 S1.2.2.1 S1.2.2.2.1 S1.2.2.2.2.1 S1.2.2.2.2.2.1 S1.2.2.2.2.2.2.1 (nI S1.2.2.2.2.2.2.2.2.length))))) := k127 _ _ h162 (Nat.ne_of_beq_eq_false rfl) (hdos _ (List.mem_cons_of_mem _ (List.mem_cons_of_mem _ (List.mem_cons_of_mem _ (List.mem_cons_of_mem _ (List.mem_cons_of_mem _ List.mem_cons_self))))))
              have h164 : f128 le = some (.inl (cI G, 16, .inl (jE (eSt S0) (e8r S1.1 S1.2.1 S1.2.2.1 S1.2.2.2.1 S1.2.2.2.2.1 S1.2.2.2.2.2.1 S1.2.2.2.2.2.2.1 (nI S1.2.2.2.2.2.2.2.2.length))))) := k130 _ _ h163 (Nat.ne_of_beq_eq_false rfl) (hdos _ (List.mem_cons_of_mem _ (List.mem_cons_of_mem _ (List.mem_cons_of_mem _ (List.mem_cons_of_mem _ (List.mem_cons_of_mem _ List.mem_cons_self))))))
              have h165 : f131 le = some (.inl (cI G, 16, .inl (jE (eSt S0) (e8r S1.1 S1.2.1 S1.2.2.1 S1.2.2.2.1 S1.2.2.2.2.1 S1.2.2.2.2.2.1 S1.2.2.2.2.2.2.1 (nI S1.2.2.2.2.2.2.2.2.length))))) := k133 _ _ h164 (Nat.ne_of_beq_eq_false rfl) (hdos _ (List.mem_cons_of_mem _ (List.mem_cons_of_mem _ (List.mem_cons_of_mem _ (List.mem_cons_of_mem _ (List.mem_cons_of_mem _ List.mem_cons_self))))))
              have h166 : f134 le = some (.inl (cI G, 16, .inl (jE (eSt S0) (e8r S1.1 S1.2.1 S1.2.2.1 S1.2.2.2.1 S1.2.2.2.2.1 S1.2.2.2.2.2.1 S1.2.2.2.2.2.2.1 (nI S1.2.2.2.2.2.2.2.2.length))))) := k136 _ _ h165 (Nat.ne_of_beq_eq_false rfl) (hdos _ (List.mem_cons_of_mem _ (List.mem_cons_of_mem _ (List.mem_cons_of_mem _ (List.mem_cons_of_mem _ (List.mem_cons_of_mem _ List.mem_cons_self))))))
              exact hp_zret (v := 1) B0 hw hS hr ⟨Nat.le_of_ble_eq_true rfl, Nat.le_of_ble_eq_true rfl⟩ (rfl) dL_links_303 (⟨rfl, S0, S1, gw0, ga0, gw1, (upd ga1 j13 0), hC135, ⟨⟨_, h141, hX0⟩, ⟨_, h146, hX1⟩, h151, h156, h161, h166⟩, ⟨SOK.mono hSo0 (by omega), SOK.mono hSo1 (by omega), hgw0, hga0, hgw1, (AOK_upd hga1 ⟨by decide, by decide⟩)⟩, hl0, hl1, ((show hKn [lx, ly, lw, la, lq, le, xo, ez, eo, bu, nw0, na0, nq0, nr0, nw1, na1, nq1, nr1, bs, bp, bh, bf, bl, bg] f f114 from (by rw [ef114]; exact hKn.up (List.mem_cons_of_mem _ (List.mem_cons_of_mem _ (List.mem_cons_of_mem _ List.mem_cons_self))))).tr ((show hKn [lx, ly, lw, la, lq, le, xo, ez, eo, bu, nw0, na0, nq0, nr0, nw1, na1, nq1, nr1, bs, bp, bh, bf, bl, bg] f114 f122 from (hKn.mono k124 sbA)).tr ((show hKn [lx, ly, lw, la, lq, le, xo, ez, eo, bu, nw0, na0, nq0, nr0, nw1, na1, nq1, nr1, bs, bp, bh, bf, bl, bg] f122 f125 from (hKn.mono k127 sbA)).tr ((show hKn [lx, ly, lw, la, lq, le, xo, ez, eo, bu, nw0, na0, nq0, nr0, nw1, na1, nq1, nr1, bs, bp, bh, bf, bl, bg] f125 f128 from (hKn.mono k130 sbA)).tr ((show hKn [lx, ly, lw, la, lq, le, xo, ez, eo, bu, nw0, na0, nq0, nr0, nw1, na1, nq1, nr1, bs, bp, bh, bf, bl, bg] f128 f131 from (hKn.mono k133 sbA)).tr (show hKn [lx, ly, lw, la, lq, le, xo, ez, eo, bu, nw0, na0, nq0, nr0, nw1, na1, nq1, nr1, bs, bp, bh, bf, bl, bg] f131 f134 from (hKn.mono k136 sbA)))))))⟩)

set_option maxHeartbeats 4000000 in
set_option maxRecDepth 100000 in
theorem lk_m_0 {l : Launch} (hl : l.stackTraces = false) (G : hG) (f : hM) (xo ez eo bu nw0 na0 nq0 nr0 nw1 na1 nq1 nr1 bs bp bh bf bl bg : Nat) (S0 : ES) (S1 : ES) (gw0 : Nat → Int32) (ga0 : Nat → Int32) (gw1 : Nat → Int32) (ga1 : Nat → Int32) (n : Nat) (a : Nat) (cg : Nat) (x : Nat) (sa : Nat → Nat) (pk : Nat → Nat) (fl : Nat → Nat) (gv : Nat → Nat) (gh : Nat → Int32) (gl : Nat → Int32) (hC : CXW G f xo ez eo bu nw0 na0 nq0 nr0 nw1 na1 nq1 nr1 bs bp bh bf bl bg S0 S1 gw0 ga0 gw1 ga1 n a cg x sa pk fl gv gh gl) (lx ly lw la lq le : Nat) (hdis : ∀ p, p ∈ [xo, ez, eo, bu, nw0, na0, nq0, nr0, nw1, na1, nq1, nr1, bs, bp, bh, bf, bl, bg] → p ∉ [lx, ly, lw, la, lq, le]) (hdos : ∀ p, p ∈ [lx, ly, lw, la, lq, le] → p ∉ [xo, ez, eo, bu, nw0, na0, nq0, nr0, nw1, na1, nq1, nr1, bs, bp, bh, bf, bl, bg]) (n_lx_ly : lx ≠ ly) (n_lw_la : lw ≠ la) (n_lw_lq : lw ≠ lq) (n_la_lq : la ≠ lq) (hLX : LX G f lx ly lw la lq le S0 S1 gw0 ga0 gw1 ga1) (b : Nat) (hInv : INV b S0 S1 gw0 ga0 gw1 ga1) (hbb : b + 200 ≤ 1000000) (hl0 : S0.2.2.2.2.2.2.2.2.length ≤ 52) (hl1 : S1.2.2.2.2.2.2.2.2.length ≤ 52) (ac : Nat) (hac : ac < 24) (hact : ac ≠ 22 → S0.2.2.2.2.2.2.2.2.length ≤ 40 ∧ S1.2.2.2.2.2.2.2.2.length ≤ 40) (u z : Int32) {p : Program} {e : Env} {s : State} {m : MethodId} {args : Array Value} {below : List Frame} {meth : Method} {c : Code} (B0 : hB p l s m args meth c cL_links 17 RL G) (hr : meth.sig.returnType = some .boolean) {H : Heap} {locs : List Loc} {ls : Array Slot} (hw : hW G f H) (hS : va_S (hFr G) s.heap H locs) (j13 : Nat) (hj13 : j13 < 6) (hl9 : lv_has ls 17 [(13, .int (nI j13)), (12, .ref lx), (11, .int 0), (10, .int 0), (0, .ref xo), (1, .int (nI ac)), (2, .int u), (3, .int z), (4, .ref lx), (5, .ref ly), (6, .ref lw), (7, .ref la), (8, .ref lq), (9, .ref le)]) : W p l e { frames := 9, cells := 203, slots := 1118, locals := 178 } s m args below meth c H locs 0 0 (vx_MQ below (hQ G (fun v f1 => v = some (.int 1) ∧ ∃ (S2 S3 : ES) (w0 a0 w1 a1 : Nat → Int32), CXW G f1 xo ez eo bu nw0 na0 nq0 nr0 nw1 na1 nq1 nr1 bs bp bh bf bl bg S2 S3 w0 a0 w1 a1 n a cg x sa pk fl gv gh gl ∧ LX G f1 lx ly lw la lq le S2 S3 w0 a0 w1 a1 ∧ INV (b + 100) S2 S3 w0 a0 w1 a1 ∧ S2.2.2.2.2.2.2.2.2.length ≤ 52 ∧ S3.2.2.2.2.2.2.2.2.length ≤ 52 ∧ hKn [lx, ly, lw, la, lq, le, xo, ez, eo, bu, nw0, na0, nq0, nr0, nw1, na1, nq1, nr1, bs, bp, bh, bf, bl, bg] f f1)) (hX G (fun E f1 => False)) args s 203 1118 (hFr G)) (F0 m 310 ls []) := by
  have hx := B0.1
  have hb := B0.2.1
  obtain ⟨⟨xs0, k_lx, hX0⟩, ⟨xs1, k_ly, hX1⟩, k_lw, k_la, k_lq, k_le⟩ := hLX
  obtain ⟨hSo0, hSo1, hgw0, hga0, hgw1, hga1⟩ := id hInv
  have n_lx_lw : lx ≠ lw := hneL k_lx k_lw (Nat.ne_of_beq_eq_false rfl)
  have n_lx_la : lx ≠ la := hneL k_lx k_la (Nat.ne_of_beq_eq_false rfl)
  have n_lx_lq : lx ≠ lq := hneL k_lx k_lq (Nat.ne_of_beq_eq_false rfl)
  have n_lx_le : lx ≠ le := hneL k_lx k_le (Nat.ne_of_beq_eq_false rfl)
  have n_ly_lw : ly ≠ lw := hneL k_ly k_lw (Nat.ne_of_beq_eq_false rfl)
  have n_ly_la : ly ≠ la := hneL k_ly k_la (Nat.ne_of_beq_eq_false rfl)
  have n_ly_lq : ly ≠ lq := hneL k_ly k_lq (Nat.ne_of_beq_eq_false rfl)
  have n_ly_le : ly ≠ le := hneL k_ly k_le (Nat.ne_of_beq_eq_false rfl)
  have n_lw_le : lw ≠ le := hneL k_lw k_le (Nat.ne_of_beq_eq_false rfl)
  have n_la_le : la ≠ le := hneL k_la k_le (Nat.ne_of_beq_eq_false rfl)
  have n_lq_le : lq ≠ le := hneL k_lq k_le (Nat.ne_of_beq_eq_false rfl)
  have sbA : ∀ x9, x9 ∈ [xo, ez, eo, bu, nw0, na0, nq0, nr0, nw1, na1, nq1, nr1, bs, bp, bh, bf, bl, bg] → x9 ∈ [lx, ly, lw, la, lq, le, xo, ez, eo, bu, nw0, na0, nq0, nr0, nw1, na1, nq1, nr1, bs, bp, bh, bf, bl, bg] := (sub_cons (List.mem_cons_of_mem _ (List.mem_cons_of_mem _ (List.mem_cons_of_mem _ (List.mem_cons_of_mem _ (List.mem_cons_of_mem _ (List.mem_cons_of_mem _ List.mem_cons_self)))))) (sub_cons (List.mem_cons_of_mem _ (List.mem_cons_of_mem _ (List.mem_cons_of_mem _ (List.mem_cons_of_mem _ (List.mem_cons_of_mem _ (List.mem_cons_of_mem _ (List.mem_cons_of_mem _ List.mem_cons_self))))))) (sub_cons (List.mem_cons_of_mem _ (List.mem_cons_of_mem _ (List.mem_cons_of_mem _ (List.mem_cons_of_mem _ (List.mem_cons_of_mem _ (List.mem_cons_of_mem _ (List.mem_cons_of_mem _ (List.mem_cons_of_mem _ List.mem_cons_self)))))))) (sub_cons (List.mem_cons_of_mem _ (List.mem_cons_of_mem _ (List.mem_cons_of_mem _ (List.mem_cons_of_mem _ (List.mem_cons_of_mem _ (List.mem_cons_of_mem _ (List.mem_cons_of_mem _ (List.mem_cons_of_mem _ (List.mem_cons_of_mem _ List.mem_cons_self))))))))) (sub_cons (List.mem_cons_of_mem _ (List.mem_cons_of_mem _ (List.mem_cons_of_mem _ (List.mem_cons_of_mem _ (List.mem_cons_of_mem _ (List.mem_cons_of_mem _ (List.mem_cons_of_mem _ (List.mem_cons_of_mem _ (List.mem_cons_of_mem _ (List.mem_cons_of_mem _ List.mem_cons_self)))))))))) (sub_cons (List.mem_cons_of_mem _ (List.mem_cons_of_mem _ (List.mem_cons_of_mem _ (List.mem_cons_of_mem _ (List.mem_cons_of_mem _ (List.mem_cons_of_mem _ (List.mem_cons_of_mem _ (List.mem_cons_of_mem _ (List.mem_cons_of_mem _ (List.mem_cons_of_mem _ (List.mem_cons_of_mem _ List.mem_cons_self))))))))))) (sub_cons (List.mem_cons_of_mem _ (List.mem_cons_of_mem _ (List.mem_cons_of_mem _ (List.mem_cons_of_mem _ (List.mem_cons_of_mem _ (List.mem_cons_of_mem _ (List.mem_cons_of_mem _ (List.mem_cons_of_mem _ (List.mem_cons_of_mem _ (List.mem_cons_of_mem _ (List.mem_cons_of_mem _ (List.mem_cons_of_mem _ List.mem_cons_self)))))))))))) (sub_cons (List.mem_cons_of_mem _ (List.mem_cons_of_mem _ (List.mem_cons_of_mem _ (List.mem_cons_of_mem _ (List.mem_cons_of_mem _ (List.mem_cons_of_mem _ (List.mem_cons_of_mem _ (List.mem_cons_of_mem _ (List.mem_cons_of_mem _ (List.mem_cons_of_mem _ (List.mem_cons_of_mem _ (List.mem_cons_of_mem _ (List.mem_cons_of_mem _ List.mem_cons_self))))))))))))) (sub_cons (List.mem_cons_of_mem _ (List.mem_cons_of_mem _ (List.mem_cons_of_mem _ (List.mem_cons_of_mem _ (List.mem_cons_of_mem _ (List.mem_cons_of_mem _ (List.mem_cons_of_mem _ (List.mem_cons_of_mem _ (List.mem_cons_of_mem _ (List.mem_cons_of_mem _ (List.mem_cons_of_mem _ (List.mem_cons_of_mem _ (List.mem_cons_of_mem _ (List.mem_cons_of_mem _ List.mem_cons_self)))))))))))))) (sub_cons (List.mem_cons_of_mem _ (List.mem_cons_of_mem _ (List.mem_cons_of_mem _ (List.mem_cons_of_mem _ (List.mem_cons_of_mem _ (List.mem_cons_of_mem _ (List.mem_cons_of_mem _ (List.mem_cons_of_mem _ (List.mem_cons_of_mem _ (List.mem_cons_of_mem _ (List.mem_cons_of_mem _ (List.mem_cons_of_mem _ (List.mem_cons_of_mem _ (List.mem_cons_of_mem _ (List.mem_cons_of_mem _ List.mem_cons_self))))))))))))))) (sub_cons (List.mem_cons_of_mem _ (List.mem_cons_of_mem _ (List.mem_cons_of_mem _ (List.mem_cons_of_mem _ (List.mem_cons_of_mem _ (List.mem_cons_of_mem _ (List.mem_cons_of_mem _ (List.mem_cons_of_mem _ (List.mem_cons_of_mem _ (List.mem_cons_of_mem _ (List.mem_cons_of_mem _ (List.mem_cons_of_mem _ (List.mem_cons_of_mem _ (List.mem_cons_of_mem _ (List.mem_cons_of_mem _ (List.mem_cons_of_mem _ List.mem_cons_self)))))))))))))))) (sub_cons (List.mem_cons_of_mem _ (List.mem_cons_of_mem _ (List.mem_cons_of_mem _ (List.mem_cons_of_mem _ (List.mem_cons_of_mem _ (List.mem_cons_of_mem _ (List.mem_cons_of_mem _ (List.mem_cons_of_mem _ (List.mem_cons_of_mem _ (List.mem_cons_of_mem _ (List.mem_cons_of_mem _ (List.mem_cons_of_mem _ (List.mem_cons_of_mem _ (List.mem_cons_of_mem _ (List.mem_cons_of_mem _ (List.mem_cons_of_mem _ (List.mem_cons_of_mem _ List.mem_cons_self))))))))))))))))) (sub_cons (List.mem_cons_of_mem _ (List.mem_cons_of_mem _ (List.mem_cons_of_mem _ (List.mem_cons_of_mem _ (List.mem_cons_of_mem _ (List.mem_cons_of_mem _ (List.mem_cons_of_mem _ (List.mem_cons_of_mem _ (List.mem_cons_of_mem _ (List.mem_cons_of_mem _ (List.mem_cons_of_mem _ (List.mem_cons_of_mem _ (List.mem_cons_of_mem _ (List.mem_cons_of_mem _ (List.mem_cons_of_mem _ (List.mem_cons_of_mem _ (List.mem_cons_of_mem _ (List.mem_cons_of_mem _ List.mem_cons_self)))))))))))))))))) (sub_cons (List.mem_cons_of_mem _ (List.mem_cons_of_mem _ (List.mem_cons_of_mem _ (List.mem_cons_of_mem _ (List.mem_cons_of_mem _ (List.mem_cons_of_mem _ (List.mem_cons_of_mem _ (List.mem_cons_of_mem _ (List.mem_cons_of_mem _ (List.mem_cons_of_mem _ (List.mem_cons_of_mem _ (List.mem_cons_of_mem _ (List.mem_cons_of_mem _ (List.mem_cons_of_mem _ (List.mem_cons_of_mem _ (List.mem_cons_of_mem _ (List.mem_cons_of_mem _ (List.mem_cons_of_mem _ (List.mem_cons_of_mem _ List.mem_cons_self))))))))))))))))))) (sub_cons (List.mem_cons_of_mem _ (List.mem_cons_of_mem _ (List.mem_cons_of_mem _ (List.mem_cons_of_mem _ (List.mem_cons_of_mem _ (List.mem_cons_of_mem _ (List.mem_cons_of_mem _ (List.mem_cons_of_mem _ (List.mem_cons_of_mem _ (List.mem_cons_of_mem _ (List.mem_cons_of_mem _ (List.mem_cons_of_mem _ (List.mem_cons_of_mem _ (List.mem_cons_of_mem _ (List.mem_cons_of_mem _ (List.mem_cons_of_mem _ (List.mem_cons_of_mem _ (List.mem_cons_of_mem _ (List.mem_cons_of_mem _ (List.mem_cons_of_mem _ List.mem_cons_self)))))))))))))))))))) (sub_cons (List.mem_cons_of_mem _ (List.mem_cons_of_mem _ (List.mem_cons_of_mem _ (List.mem_cons_of_mem _ (List.mem_cons_of_mem _ (List.mem_cons_of_mem _ (List.mem_cons_of_mem _ (List.mem_cons_of_mem _ (List.mem_cons_of_mem _ (List.mem_cons_of_mem _ (List.mem_cons_of_mem _ (List.mem_cons_of_mem _ (List.mem_cons_of_mem _ (List.mem_cons_of_mem _ (List.mem_cons_of_mem _ (List.mem_cons_of_mem _ (List.mem_cons_of_mem _ (List.mem_cons_of_mem _ (List.mem_cons_of_mem _ (List.mem_cons_of_mem _ (List.mem_cons_of_mem _ List.mem_cons_self))))))))))))))))))))) (sub_cons (List.mem_cons_of_mem _ (List.mem_cons_of_mem _ (List.mem_cons_of_mem _ (List.mem_cons_of_mem _ (List.mem_cons_of_mem _ (List.mem_cons_of_mem _ (List.mem_cons_of_mem _ (List.mem_cons_of_mem _ (List.mem_cons_of_mem _ (List.mem_cons_of_mem _ (List.mem_cons_of_mem _ (List.mem_cons_of_mem _ (List.mem_cons_of_mem _ (List.mem_cons_of_mem _ (List.mem_cons_of_mem _ (List.mem_cons_of_mem _ (List.mem_cons_of_mem _ (List.mem_cons_of_mem _ (List.mem_cons_of_mem _ (List.mem_cons_of_mem _ (List.mem_cons_of_mem _ (List.mem_cons_of_mem _ List.mem_cons_self)))))))))))))))))))))) (sub_cons (List.mem_cons_of_mem _ (List.mem_cons_of_mem _ (List.mem_cons_of_mem _ (List.mem_cons_of_mem _ (List.mem_cons_of_mem _ (List.mem_cons_of_mem _ (List.mem_cons_of_mem _ (List.mem_cons_of_mem _ (List.mem_cons_of_mem _ (List.mem_cons_of_mem _ (List.mem_cons_of_mem _ (List.mem_cons_of_mem _ (List.mem_cons_of_mem _ (List.mem_cons_of_mem _ (List.mem_cons_of_mem _ (List.mem_cons_of_mem _ (List.mem_cons_of_mem _ (List.mem_cons_of_mem _ (List.mem_cons_of_mem _ (List.mem_cons_of_mem _ (List.mem_cons_of_mem _ (List.mem_cons_of_mem _ (List.mem_cons_of_mem _ List.mem_cons_self))))))))))))))))))))))) sub_nil))))))))))))))))))
  obtain ⟨xx, hxx, hx4⟩ := hSo0.2.2.2.2.1
  have h1 : f le = some (.inl (cI G, 16, .inl (jE (e8r S0.1 S0.2.1 S0.2.2.1 S0.2.2.2.1 S0.2.2.2.2.1 S0.2.2.2.2.2.1 S0.2.2.2.2.2.2.1 (nI S0.2.2.2.2.2.2.2.2.length)) (eSt S1)))) := k_le
  refine lv_iload_n hx hb dL_links_310 rfl (lv_at hl9 6 rfl) ?_
  refine lv_bipush (v := 48) hx hb dL_links_311 (by decide) ?_
  refine lv_iand hx hb dL_links_313 ?_
  refine lv_if_ne (tgt := 325) hx hb dL_links_314 (by decide) (fun c2 => ?_) (fun c2 => ?_)
  · refine lv_iload hx hb dL_links_325 (lv_at hl9 3 rfl) ?_
    refine lv_istore (lv' := [(14, .int 0), (13, .int (nI j13)), (12, .ref lx), (11, .int 0), (10, .int 0), (0, .ref xo), (1, .int (nI ac)), (2, .int u), (3, .int z), (4, .ref lx), (5, .ref ly), (6, .ref lw), (7, .ref la), (8, .ref lq), (9, .ref le)]) hx hb dL_links_327 hl9 (by decide) rfl (fun ls hl9 => ?_)
    refine lv_aload hx hb dL_links_329 (lv_at hl9 14 rfl) ?_
    refine lv_iload hx hb dL_links_331 (lv_at hl9 3 rfl) ?_
    refine lv_bipush (v := 6) hx hb dL_links_333 (by decide) ?_
    refine lv_iadd hx hb dL_links_335 ?_
    refine hp_c (v := 6) (by decide) ?_
    refine hp_iald B0 hw h1 (by unfold vp_in; decide) dL_links_336 ?_
    refine hp_c (v := (nI xx)) (hxx) ?_
    refine hp_S (As := [.int (nI xx)]) (rest := []) B0 hw hS (c_L_number hl G f xx (by omega)) mS_L_number qM_L_83 rfl rfl hl9.1 (Nat.le_of_ble_eq_true rfl) ⟨⟨Nat.le_of_ble_eq_true rfl, Nat.le_of_ble_eq_true rfl⟩, Nat.le_of_ble_eq_true rfl, Nat.le_of_ble_eq_true rfl⟩ dL_links_337 (fun E ce q9 f3 H locs hPX hw hS hce hcv hcl => ?_) (fun v f3 H locs hP hw hS => ?_)
    · exact hPX.elim
    · obtain ⟨ef9, ev9⟩ := hP
      rw [ef9] at hw
      rw [← hxx] at ev9
      subst ev9
      refine W.eq (g2 := F0 m 340 ls [.int (num S0.2.2.2.2.2.2.1)]) rfl ?_
      refine lv_istore (lv' := [(15, .int (num S0.2.2.2.2.2.2.1)), (14, .int 0), (13, .int (nI j13)), (12, .ref lx), (11, .int 0), (10, .int 0), (0, .ref xo), (1, .int (nI ac)), (2, .int u), (3, .int z), (4, .ref lx), (5, .ref ly), (6, .ref lw), (7, .ref la), (8, .ref lq), (9, .ref le)]) hx hb dL_links_340 hl9 (by decide) rfl (fun ls hl9 => ?_)
      refine lv_aload hx hb dL_links_342 (lv_at hl9 15 rfl) ?_
      refine lv_iload hx hb dL_links_344 (lv_at hl9 4 rfl) ?_
      refine lv_bipush (v := 6) hx hb dL_links_346 (by decide) ?_
      refine lv_iadd hx hb dL_links_348 ?_
      refine hp_c (v := 6) (by decide) ?_
      refine lv_iload hx hb dL_links_349 (lv_at hl9 1 rfl) ?_
      refine hp_iast B0 hw hS h1 (by unfold vp_in; decide) dL_links_351 (fun H locs f4 ef4 hw hS => ?_)
      rw [show (upd (jE (e8r S0.1 S0.2.1 S0.2.2.1 S0.2.2.2.1 S0.2.2.2.2.1 S0.2.2.2.2.2.1 S0.2.2.2.2.2.2.1 (nI S0.2.2.2.2.2.2.2.2.length)) (eSt S1)) (6 : Int32).toNatClampNeg 0 : Nat → Int32) = (jE (e8r S0.1 S0.2.1 S0.2.2.1 S0.2.2.2.1 S0.2.2.2.2.1 S0.2.2.2.2.2.1 0 (nI S0.2.2.2.2.2.2.2.2.length)) (eSt S1)) from (by rw [show (6 : Int32).toNatClampNeg = 6 from rfl, jE_u0 (by omega), e8_u6])] at ef4
      have h5 : f4 le = some (.inl (cI G, 16, .inl (jE (e8r S0.1 S0.2.1 S0.2.2.1 S0.2.2.2.1 S0.2.2.2.2.1 S0.2.2.2.2.2.1 0 (nI S0.2.2.2.2.2.2.2.2.length)) (eSt S1)))) := by rw [ef4, va_up_self]
      have h6 : f4 le = some (.inl (cI G, 16, .inl (jE (e8r ((ixS S0 (nI 0)).1) ((ixS S0 (nI 0)).2.1) ((ixS S0 (nI 0)).2.2.1) ((ixS S0 (nI 0)).2.2.2.1) ((ixS S0 (nI 0)).2.2.2.2.1) ((ixS S0 (nI 0)).2.2.2.2.2.1) ((ixS S0 (nI 0)).2.2.2.2.2.2.1) (nI (ixS S0 (nI 0)).2.2.2.2.2.2.2.2.length)) (eSt S1)))) := h5
      refine lv_aload_n hx hb dL_links_352 rfl (lv_at hl9 6 rfl) ?_
      refine lv_iconst (v := 2) hx hb dL_links_353 (by decide) ?_
      refine lv_iconst (v := 5) hx hb dL_links_354 (by decide) ?_
      refine lv_iconst (v := 5) hx hb dL_links_355 (by decide) ?_
      have h7 : f4 lx = some (.inl (cJ G, 64, .inr (.inl xs0))) := by rw [ef4, va_up_ne _ _ n_lx_le]; exact k_lx
      have h8 : f4 ly = some (.inl (cJ G, 64, .inr (.inl xs1))) := by rw [ef4, va_up_ne _ _ n_ly_le]; exact k_ly
      have h10 : f4 lw = some (.inl (cI G, 12, .inl (j6r gw0 gw1))) := by rw [ef4, va_up_ne _ _ n_lw_le]; exact k_lw
      have h11 : f4 la = some (.inl (cI G, 12, .inl (j6r ga0 ga1))) := by rw [ef4, va_up_ne _ _ n_la_le]; exact k_la
      have h12 : f4 lq = some (.inl (cI G, 12, .inl (j6r S0.2.2.2.2.2.2.2.1 S1.2.2.2.2.2.2.2.1))) := by rw [ef4, va_up_ne _ _ n_lq_le]; exact k_lq
      have hC13 : CXW G f4 xo ez eo bu nw0 na0 nq0 nr0 nw1 na1 nq1 nr1 bs bp bh bf bl bg S0 S1 gw0 ga0 gw1 ga1 n a cg x sa pk fl gv gh gl := CXW.eq hC (show hEq [lx, ly, lw, la, lq, le] f f4 from (by rw [ef4]; exact hEq.up (List.mem_cons_of_mem _ (List.mem_cons_of_mem _ (List.mem_cons_of_mem _ (List.mem_cons_of_mem _ (List.mem_cons_of_mem _ List.mem_cons_self))))))) hdis (fun b9 hb9 => by
          simp only [List.mem_cons, List.not_mem_nil, or_false] at hb9
          rcases hb9 with hb9 | hb9 | hb9 | hb9 | hb9 | hb9
          · rw [hb9]; exact ⟨_, _, k_lx, h7, (Nat.ne_of_beq_eq_false rfl), (Nat.ne_of_beq_eq_false rfl)⟩
          · rw [hb9]; exact ⟨_, _, k_ly, h8, (Nat.ne_of_beq_eq_false rfl), (Nat.ne_of_beq_eq_false rfl)⟩
          · rw [hb9]; exact ⟨_, _, k_lw, h10, (Nat.ne_of_beq_eq_false rfl), (Nat.ne_of_beq_eq_false rfl)⟩
          · rw [hb9]; exact ⟨_, _, k_la, h11, (Nat.ne_of_beq_eq_false rfl), (Nat.ne_of_beq_eq_false rfl)⟩
          · rw [hb9]; exact ⟨_, _, k_lq, h12, (Nat.ne_of_beq_eq_false rfl), (Nat.ne_of_beq_eq_false rfl)⟩
          · rw [hb9]; exact ⟨_, _, h1, h6, (Nat.ne_of_beq_eq_false rfl), (Nat.ne_of_beq_eq_false rfl)⟩)
      refine hp_SH (As := [.ref xo, .int 2, .int 5, .int 5]) (rest := []) B0 hw hS (c_V_setMagic_E hl G f4 xo ez eo bu nw0 na0 nq0 nr0 nw1 na1 nq1 nr1 bs bp bh bf bl bg S0 S1 gw0 ga0 gw1 ga1 n a cg x sa pk fl gv gh gl hC13 (Nat.lt_of_le_of_lt hl0 (by decide)) (Nat.lt_of_le_of_lt hl1 (by decide)) 2 5 (by decide)) mH_L_setsMagic qM_L_102 rfl rfl hl9.1 (Nat.le_of_ble_eq_true rfl) ⟨⟨Nat.le_of_ble_eq_true rfl, Nat.le_of_ble_eq_true rfl⟩, Nat.le_of_ble_eq_true rfl, Nat.le_of_ble_eq_true rfl⟩ dL_links_356 (fun E ce q9 f14 H locs hPX hw hS hce hcv hcl => ?_) (fun v f14 H locs hP hw hS => ?_)
      · exact hPX.elim
      · obtain ⟨ev9, hC15, k16⟩ := hP
        subst ev9
        have hC15 : CXW G f14 xo ez eo bu nw0 na0 nq0 nr0 nw1 na1 nq1 nr1 bs bp bh bf bl bg S0 S1 gw0 ga0 gw1 ga1 n a cg x sa pk fl gv gh gl := hC15
        refine W.eq (g2 := F0 m 359 ls [.int 0]) rfl ?_
        refine lv_if_ne (tgt := 382) hx hb dL_links_359 (by decide) (fun c9 => absurd (by decide) c9) (fun _ => ?_)
        refine lv_aload_n hx hb dL_links_362 rfl (lv_at hl9 6 rfl) ?_
        refine lv_iload hx hb dL_links_363 (lv_at hl9 5 rfl) ?_
        refine lv_iload hx hb dL_links_365 (lv_at hl9 1 rfl) ?_
        refine hp_S (As := [.int 0]) (rest := [.int 0, .ref xo]) B0 hw hS (c_L_number hl G f14 0 (by omega)) mS_L_number qM_L_83 rfl rfl hl9.1 (Nat.le_of_ble_eq_true rfl) ⟨⟨Nat.le_of_ble_eq_true rfl, Nat.le_of_ble_eq_true rfl⟩, Nat.le_of_ble_eq_true rfl, Nat.le_of_ble_eq_true rfl⟩ dL_links_367 (fun E ce q9 f17 H locs hPX hw hS hce hcv hcl => ?_) (fun v f17 H locs hP hw hS => ?_)
        · exact hPX.elim
        · obtain ⟨ef9, ev9⟩ := hP
          rw [ef9] at hw
          subst ev9
          refine W.eq (g2 := F0 m 370 ls [.int (num (nI 0)), .int 0, .ref xo]) rfl ?_
          refine lv_iload hx hb dL_links_370 (lv_at hl9 0 rfl) ?_
          refine hp_SH (As := [.ref xo, .int 0, .int (num (nI 0)), .int (num S0.2.2.2.2.2.2.1)]) (rest := []) B0 hw hS (c_V_setMagic_0 hl G f14 xo ez eo bu nw0 na0 nq0 nr0 nw1 na1 nq1 nr1 bs bp bh bf bl bg S0 S1 gw0 ga0 gw1 ga1 n a cg x sa pk fl gv gh gl hC15 (Nat.lt_of_le_of_lt hl0 (by decide)) (Nat.lt_of_le_of_lt hl1 (by decide)) (nI 0)) mH_L_setsMagic qM_L_102 rfl rfl hl9.1 (Nat.le_of_ble_eq_true rfl) ⟨⟨Nat.le_of_ble_eq_true rfl, Nat.le_of_ble_eq_true rfl⟩, Nat.le_of_ble_eq_true rfl, Nat.le_of_ble_eq_true rfl⟩ dL_links_372 (fun E ce q9 f18 H locs hPX hw hS hce hcv hcl => ?_) (fun v f18 H locs hP hw hS => ?_)
          · exact hPX.elim
          · obtain ⟨ev9, hC19, k20⟩ := hP
            subst ev9
            have hC19 : CXW G f18 xo ez eo bu nw0 na0 nq0 nr0 nw1 na1 nq1 nr1 bs bp bh bf bl bg (ixS S0 (nI 0)) S1 gw0 ga0 gw1 ga1 n a cg x sa pk fl gv gh gl := hC19
            refine W.eq (g2 := F0 m 375 ls [.int 1]) rfl ?_
            refine lv_if_eq (tgt := 382) hx hb dL_links_375 (by decide) (fun c9 => absurd c9 (by decide)) (fun _ => ?_)
            refine lv_iconst (v := 1) hx hb dL_links_378 (by decide) ?_
            refine lv_goto (tgt := 383) hx hb dL_links_379 (by decide) ?_
            have h21 : f14 lx = some (.inl (cJ G, 64, .inr (.inl xs0))) := k16 _ _ h7 (Nat.ne_of_beq_eq_false rfl) (hdos _ List.mem_cons_self)
            have h22 : f18 lx = some (.inl (cJ G, 64, .inr (.inl xs0))) := k20 _ _ h21 (Nat.ne_of_beq_eq_false rfl) (hdos _ List.mem_cons_self)
            have h23 : f14 ly = some (.inl (cJ G, 64, .inr (.inl xs1))) := k16 _ _ h8 (Nat.ne_of_beq_eq_false rfl) (hdos _ (List.mem_cons_of_mem _ List.mem_cons_self))
            have h24 : f18 ly = some (.inl (cJ G, 64, .inr (.inl xs1))) := k20 _ _ h23 (Nat.ne_of_beq_eq_false rfl) (hdos _ (List.mem_cons_of_mem _ List.mem_cons_self))
            have h25 : f14 lw = some (.inl (cI G, 12, .inl (j6r gw0 gw1))) := k16 _ _ h10 (Nat.ne_of_beq_eq_false rfl) (hdos _ (List.mem_cons_of_mem _ (List.mem_cons_of_mem _ List.mem_cons_self)))
            have h26 : f18 lw = some (.inl (cI G, 12, .inl (j6r gw0 gw1))) := k20 _ _ h25 (Nat.ne_of_beq_eq_false rfl) (hdos _ (List.mem_cons_of_mem _ (List.mem_cons_of_mem _ List.mem_cons_self)))
            have h27 : f14 la = some (.inl (cI G, 12, .inl (j6r ga0 ga1))) := k16 _ _ h11 (Nat.ne_of_beq_eq_false rfl) (hdos _ (List.mem_cons_of_mem _ (List.mem_cons_of_mem _ (List.mem_cons_of_mem _ List.mem_cons_self))))
            have h28 : f18 la = some (.inl (cI G, 12, .inl (j6r ga0 ga1))) := k20 _ _ h27 (Nat.ne_of_beq_eq_false rfl) (hdos _ (List.mem_cons_of_mem _ (List.mem_cons_of_mem _ (List.mem_cons_of_mem _ List.mem_cons_self))))
            have h29 : f14 lq = some (.inl (cI G, 12, .inl (j6r S0.2.2.2.2.2.2.2.1 S1.2.2.2.2.2.2.2.1))) := k16 _ _ h12 (Nat.ne_of_beq_eq_false rfl) (hdos _ (List.mem_cons_of_mem _ (List.mem_cons_of_mem _ (List.mem_cons_of_mem _ (List.mem_cons_of_mem _ List.mem_cons_self)))))
            have h30 : f18 lq = some (.inl (cI G, 12, .inl (j6r S0.2.2.2.2.2.2.2.1 S1.2.2.2.2.2.2.2.1))) := k20 _ _ h29 (Nat.ne_of_beq_eq_false rfl) (hdos _ (List.mem_cons_of_mem _ (List.mem_cons_of_mem _ (List.mem_cons_of_mem _ (List.mem_cons_of_mem _ List.mem_cons_self)))))
            have h31 : f14 le = some (.inl (cI G, 16, .inl (jE (e8r ((ixS S0 (nI 0)).1) ((ixS S0 (nI 0)).2.1) ((ixS S0 (nI 0)).2.2.1) ((ixS S0 (nI 0)).2.2.2.1) ((ixS S0 (nI 0)).2.2.2.2.1) ((ixS S0 (nI 0)).2.2.2.2.2.1) ((ixS S0 (nI 0)).2.2.2.2.2.2.1) (nI (ixS S0 (nI 0)).2.2.2.2.2.2.2.2.length)) (eSt S1)))) := k16 _ _ h6 (Nat.ne_of_beq_eq_false rfl) (hdos _ (List.mem_cons_of_mem _ (List.mem_cons_of_mem _ (List.mem_cons_of_mem _ (List.mem_cons_of_mem _ (List.mem_cons_of_mem _ List.mem_cons_self))))))
            have h32 : f18 le = some (.inl (cI G, 16, .inl (jE (e8r ((ixS S0 (nI 0)).1) ((ixS S0 (nI 0)).2.1) ((ixS S0 (nI 0)).2.2.1) ((ixS S0 (nI 0)).2.2.2.1) ((ixS S0 (nI 0)).2.2.2.2.1) ((ixS S0 (nI 0)).2.2.2.2.2.1) ((ixS S0 (nI 0)).2.2.2.2.2.2.1) (nI (ixS S0 (nI 0)).2.2.2.2.2.2.2.2.length)) (eSt S1)))) := k20 _ _ h31 (Nat.ne_of_beq_eq_false rfl) (hdos _ (List.mem_cons_of_mem _ (List.mem_cons_of_mem _ (List.mem_cons_of_mem _ (List.mem_cons_of_mem _ (List.mem_cons_of_mem _ List.mem_cons_self))))))
            exact hp_zret (v := 1) B0 hw hS hr ⟨Nat.le_of_ble_eq_true rfl, Nat.le_of_ble_eq_true rfl⟩ (rfl) dL_links_383 (⟨rfl, (ixS S0 (nI 0)), S1, gw0, ga0, gw1, ga1, hC19, ⟨⟨_, h22, hX0⟩, ⟨_, h24, hX1⟩, h26, h28, h30, h32⟩, ⟨SOK.mono (SOK.ix hSo0 (x := 0) (by omega)) (by omega), SOK.mono hSo1 (by omega), hgw0, hga0, hgw1, hga1⟩, hl0, hl1, ((show hKn [lx, ly, lw, la, lq, le, xo, ez, eo, bu, nw0, na0, nq0, nr0, nw1, na1, nq1, nr1, bs, bp, bh, bf, bl, bg] f f4 from (by rw [ef4]; exact hKn.up (List.mem_cons_of_mem _ (List.mem_cons_of_mem _ (List.mem_cons_of_mem _ (List.mem_cons_of_mem _ (List.mem_cons_of_mem _ List.mem_cons_self))))))).tr ((show hKn [lx, ly, lw, la, lq, le, xo, ez, eo, bu, nw0, na0, nq0, nr0, nw1, na1, nq1, nr1, bs, bp, bh, bf, bl, bg] f4 f14 from (hKn.mono k16 sbA)).tr (show hKn [lx, ly, lw, la, lq, le, xo, ez, eo, bu, nw0, na0, nq0, nr0, nw1, na1, nq1, nr1, bs, bp, bh, bf, bl, bg] f14 f18 from (hKn.mono k20 sbA))))⟩)
  · refine lv_iload_n hx hb dL_links_317 rfl (lv_at hl9 7 rfl) ?_
    refine lv_iconst (v := 5) hx hb dL_links_318 (by decide) ?_
    refine hp_S (As := [.int z, .int 5]) (rest := []) B0 hw hS (c_L_low hl G f z 5 (by omega) (by omega)) mS_L_low qM_L_94 rfl rfl hl9.1 (Nat.le_of_ble_eq_true rfl) ⟨⟨Nat.le_of_ble_eq_true rfl, Nat.le_of_ble_eq_true rfl⟩, Nat.le_of_ble_eq_true rfl, Nat.le_of_ble_eq_true rfl⟩ dL_links_319 (fun E ce q9 f33 H locs hPX hw hS hce hcv hcl => ?_) (fun v f33 H locs hP hw hS => ?_)
    · exact hPX.elim
    · obtain ⟨ef9, j34, hj35, ev9⟩ := hP
      rw [ef9] at hw
      subst ev9
      refine W.eq (g2 := F0 m 322 ls [.int (nI j34)]) rfl ?_
      refine lv_goto (tgt := 327) hx hb dL_links_322 (by decide) ?_
      refine lv_istore (lv' := [(14, .int (nI j34)), (13, .int (nI j13)), (12, .ref lx), (11, .int 0), (10, .int 0), (0, .ref xo), (1, .int (nI ac)), (2, .int u), (3, .int z), (4, .ref lx), (5, .ref ly), (6, .ref lw), (7, .ref la), (8, .ref lq), (9, .ref le)]) hx hb dL_links_327 hl9 (by decide) rfl (fun ls hl9 => ?_)
      refine lv_aload hx hb dL_links_329 (lv_at hl9 14 rfl) ?_
      refine lv_iload hx hb dL_links_331 (lv_at hl9 3 rfl) ?_
      refine lv_bipush (v := 6) hx hb dL_links_333 (by decide) ?_
      refine lv_iadd hx hb dL_links_335 ?_
      refine hp_c (v := 6) (by decide) ?_
      refine hp_iald B0 hw h1 (by unfold vp_in; decide) dL_links_336 ?_
      refine hp_c (v := (nI xx)) (hxx) ?_
      refine hp_S (As := [.int (nI xx)]) (rest := []) B0 hw hS (c_L_number hl G f xx (by omega)) mS_L_number qM_L_83 rfl rfl hl9.1 (Nat.le_of_ble_eq_true rfl) ⟨⟨Nat.le_of_ble_eq_true rfl, Nat.le_of_ble_eq_true rfl⟩, Nat.le_of_ble_eq_true rfl, Nat.le_of_ble_eq_true rfl⟩ dL_links_337 (fun E ce q9 f36 H locs hPX hw hS hce hcv hcl => ?_) (fun v f36 H locs hP hw hS => ?_)
      · exact hPX.elim
      · obtain ⟨ef9, ev9⟩ := hP
        rw [ef9] at hw
        rw [← hxx] at ev9
        subst ev9
        refine W.eq (g2 := F0 m 340 ls [.int (num S0.2.2.2.2.2.2.1)]) rfl ?_
        refine lv_istore (lv' := [(15, .int (num S0.2.2.2.2.2.2.1)), (14, .int (nI j34)), (13, .int (nI j13)), (12, .ref lx), (11, .int 0), (10, .int 0), (0, .ref xo), (1, .int (nI ac)), (2, .int u), (3, .int z), (4, .ref lx), (5, .ref ly), (6, .ref lw), (7, .ref la), (8, .ref lq), (9, .ref le)]) hx hb dL_links_340 hl9 (by decide) rfl (fun ls hl9 => ?_)
        refine lv_aload hx hb dL_links_342 (lv_at hl9 15 rfl) ?_
        refine lv_iload hx hb dL_links_344 (lv_at hl9 4 rfl) ?_
        refine lv_bipush (v := 6) hx hb dL_links_346 (by decide) ?_
        refine lv_iadd hx hb dL_links_348 ?_
        refine hp_c (v := 6) (by decide) ?_
        refine lv_iload hx hb dL_links_349 (lv_at hl9 1 rfl) ?_
        refine hp_iast B0 hw hS h1 (by unfold vp_in; decide) dL_links_351 (fun H locs f37 ef37 hw hS => ?_)
        rw [show (upd (jE (e8r S0.1 S0.2.1 S0.2.2.1 S0.2.2.2.1 S0.2.2.2.2.1 S0.2.2.2.2.2.1 S0.2.2.2.2.2.2.1 (nI S0.2.2.2.2.2.2.2.2.length)) (eSt S1)) (6 : Int32).toNatClampNeg (nI j34) : Nat → Int32) = (jE (e8r S0.1 S0.2.1 S0.2.2.1 S0.2.2.2.1 S0.2.2.2.2.1 S0.2.2.2.2.2.1 (nI j34) (nI S0.2.2.2.2.2.2.2.2.length)) (eSt S1)) from (by rw [show (6 : Int32).toNatClampNeg = 6 from rfl, jE_u0 (by omega), e8_u6])] at ef37
        have h38 : f37 le = some (.inl (cI G, 16, .inl (jE (e8r S0.1 S0.2.1 S0.2.2.1 S0.2.2.2.1 S0.2.2.2.2.1 S0.2.2.2.2.2.1 (nI j34) (nI S0.2.2.2.2.2.2.2.2.length)) (eSt S1)))) := by rw [ef37, va_up_self]
        have h39 : f37 le = some (.inl (cI G, 16, .inl (jE (e8r ((ixS S0 (nI j34)).1) ((ixS S0 (nI j34)).2.1) ((ixS S0 (nI j34)).2.2.1) ((ixS S0 (nI j34)).2.2.2.1) ((ixS S0 (nI j34)).2.2.2.2.1) ((ixS S0 (nI j34)).2.2.2.2.2.1) ((ixS S0 (nI j34)).2.2.2.2.2.2.1) (nI (ixS S0 (nI j34)).2.2.2.2.2.2.2.2.length)) (eSt S1)))) := h38
        refine lv_aload_n hx hb dL_links_352 rfl (lv_at hl9 6 rfl) ?_
        refine lv_iconst (v := 2) hx hb dL_links_353 (by decide) ?_
        refine lv_iconst (v := 5) hx hb dL_links_354 (by decide) ?_
        refine lv_iconst (v := 5) hx hb dL_links_355 (by decide) ?_
        have h40 : f37 lx = some (.inl (cJ G, 64, .inr (.inl xs0))) := by rw [ef37, va_up_ne _ _ n_lx_le]; exact k_lx
        have h41 : f37 ly = some (.inl (cJ G, 64, .inr (.inl xs1))) := by rw [ef37, va_up_ne _ _ n_ly_le]; exact k_ly
        have h42 : f37 lw = some (.inl (cI G, 12, .inl (j6r gw0 gw1))) := by rw [ef37, va_up_ne _ _ n_lw_le]; exact k_lw
        have h43 : f37 la = some (.inl (cI G, 12, .inl (j6r ga0 ga1))) := by rw [ef37, va_up_ne _ _ n_la_le]; exact k_la
        have h44 : f37 lq = some (.inl (cI G, 12, .inl (j6r S0.2.2.2.2.2.2.2.1 S1.2.2.2.2.2.2.2.1))) := by rw [ef37, va_up_ne _ _ n_lq_le]; exact k_lq
        have hC45 : CXW G f37 xo ez eo bu nw0 na0 nq0 nr0 nw1 na1 nq1 nr1 bs bp bh bf bl bg S0 S1 gw0 ga0 gw1 ga1 n a cg x sa pk fl gv gh gl := CXW.eq hC (show hEq [lx, ly, lw, la, lq, le] f f37 from (by rw [ef37]; exact hEq.up (List.mem_cons_of_mem _ (List.mem_cons_of_mem _ (List.mem_cons_of_mem _ (List.mem_cons_of_mem _ (List.mem_cons_of_mem _ List.mem_cons_self))))))) hdis (fun b9 hb9 => by
            simp only [List.mem_cons, List.not_mem_nil, or_false] at hb9
            rcases hb9 with hb9 | hb9 | hb9 | hb9 | hb9 | hb9
            · rw [hb9]; exact ⟨_, _, k_lx, h40, (Nat.ne_of_beq_eq_false rfl), (Nat.ne_of_beq_eq_false rfl)⟩
            · rw [hb9]; exact ⟨_, _, k_ly, h41, (Nat.ne_of_beq_eq_false rfl), (Nat.ne_of_beq_eq_false rfl)⟩
            · rw [hb9]; exact ⟨_, _, k_lw, h42, (Nat.ne_of_beq_eq_false rfl), (Nat.ne_of_beq_eq_false rfl)⟩
            · rw [hb9]; exact ⟨_, _, k_la, h43, (Nat.ne_of_beq_eq_false rfl), (Nat.ne_of_beq_eq_false rfl)⟩
            · rw [hb9]; exact ⟨_, _, k_lq, h44, (Nat.ne_of_beq_eq_false rfl), (Nat.ne_of_beq_eq_false rfl)⟩
            · rw [hb9]; exact ⟨_, _, h1, h39, (Nat.ne_of_beq_eq_false rfl), (Nat.ne_of_beq_eq_false rfl)⟩)
        refine hp_SH (As := [.ref xo, .int 2, .int 5, .int 5]) (rest := []) B0 hw hS (c_V_setMagic_E hl G f37 xo ez eo bu nw0 na0 nq0 nr0 nw1 na1 nq1 nr1 bs bp bh bf bl bg S0 S1 gw0 ga0 gw1 ga1 n a cg x sa pk fl gv gh gl hC45 (Nat.lt_of_le_of_lt hl0 (by decide)) (Nat.lt_of_le_of_lt hl1 (by decide)) 2 5 (by decide)) mH_L_setsMagic qM_L_102 rfl rfl hl9.1 (Nat.le_of_ble_eq_true rfl) ⟨⟨Nat.le_of_ble_eq_true rfl, Nat.le_of_ble_eq_true rfl⟩, Nat.le_of_ble_eq_true rfl, Nat.le_of_ble_eq_true rfl⟩ dL_links_356 (fun E ce q9 f46 H locs hPX hw hS hce hcv hcl => ?_) (fun v f46 H locs hP hw hS => ?_)
        · exact hPX.elim
        · obtain ⟨ev9, hC47, k48⟩ := hP
          subst ev9
          have hC47 : CXW G f46 xo ez eo bu nw0 na0 nq0 nr0 nw1 na1 nq1 nr1 bs bp bh bf bl bg S0 S1 gw0 ga0 gw1 ga1 n a cg x sa pk fl gv gh gl := hC47
          refine W.eq (g2 := F0 m 359 ls [.int 0]) rfl ?_
          refine lv_if_ne (tgt := 382) hx hb dL_links_359 (by decide) (fun c9 => absurd (by decide) c9) (fun _ => ?_)
          refine lv_aload_n hx hb dL_links_362 rfl (lv_at hl9 6 rfl) ?_
          refine lv_iload hx hb dL_links_363 (lv_at hl9 5 rfl) ?_
          refine lv_iload hx hb dL_links_365 (lv_at hl9 1 rfl) ?_
          refine hp_S (As := [.int (nI j34)]) (rest := [.int 0, .ref xo]) B0 hw hS (c_L_number hl G f46 j34 (by omega)) mS_L_number qM_L_83 rfl rfl hl9.1 (Nat.le_of_ble_eq_true rfl) ⟨⟨Nat.le_of_ble_eq_true rfl, Nat.le_of_ble_eq_true rfl⟩, Nat.le_of_ble_eq_true rfl, Nat.le_of_ble_eq_true rfl⟩ dL_links_367 (fun E ce q9 f49 H locs hPX hw hS hce hcv hcl => ?_) (fun v f49 H locs hP hw hS => ?_)
          · exact hPX.elim
          · obtain ⟨ef9, ev9⟩ := hP
            rw [ef9] at hw
            subst ev9
            refine W.eq (g2 := F0 m 370 ls [.int (num (nI j34)), .int 0, .ref xo]) rfl ?_
            refine lv_iload hx hb dL_links_370 (lv_at hl9 0 rfl) ?_
            refine hp_SH (As := [.ref xo, .int 0, .int (num (nI j34)), .int (num S0.2.2.2.2.2.2.1)]) (rest := []) B0 hw hS (c_V_setMagic_0 hl G f46 xo ez eo bu nw0 na0 nq0 nr0 nw1 na1 nq1 nr1 bs bp bh bf bl bg S0 S1 gw0 ga0 gw1 ga1 n a cg x sa pk fl gv gh gl hC47 (Nat.lt_of_le_of_lt hl0 (by decide)) (Nat.lt_of_le_of_lt hl1 (by decide)) (nI j34)) mH_L_setsMagic qM_L_102 rfl rfl hl9.1 (Nat.le_of_ble_eq_true rfl) ⟨⟨Nat.le_of_ble_eq_true rfl, Nat.le_of_ble_eq_true rfl⟩, Nat.le_of_ble_eq_true rfl, Nat.le_of_ble_eq_true rfl⟩ dL_links_372 (fun E ce q9 f50 H locs hPX hw hS hce hcv hcl => ?_) (fun v f50 H locs hP hw hS => ?_)
            · exact hPX.elim
            · obtain ⟨ev9, hC51, k52⟩ := hP
              subst ev9
              have hC51 : CXW G f50 xo ez eo bu nw0 na0 nq0 nr0 nw1 na1 nq1 nr1 bs bp bh bf bl bg (ixS S0 (nI j34)) S1 gw0 ga0 gw1 ga1 n a cg x sa pk fl gv gh gl := hC51
              refine W.eq (g2 := F0 m 375 ls [.int 1]) rfl ?_
              refine lv_if_eq (tgt := 382) hx hb dL_links_375 (by decide) (fun c9 => absurd c9 (by decide)) (fun _ => ?_)
              refine lv_iconst (v := 1) hx hb dL_links_378 (by decide) ?_
              refine lv_goto (tgt := 383) hx hb dL_links_379 (by decide) ?_
              have h53 : f46 lx = some (.inl (cJ G, 64, .inr (.inl xs0))) := k48 _ _ h40 (Nat.ne_of_beq_eq_false rfl) (hdos _ List.mem_cons_self)
              have h54 : f50 lx = some (.inl (cJ G, 64, .inr (.inl xs0))) := k52 _ _ h53 (Nat.ne_of_beq_eq_false rfl) (hdos _ List.mem_cons_self)
              have h55 : f46 ly = some (.inl (cJ G, 64, .inr (.inl xs1))) := k48 _ _ h41 (Nat.ne_of_beq_eq_false rfl) (hdos _ (List.mem_cons_of_mem _ List.mem_cons_self))
              have h56 : f50 ly = some (.inl (cJ G, 64, .inr (.inl xs1))) := k52 _ _ h55 (Nat.ne_of_beq_eq_false rfl) (hdos _ (List.mem_cons_of_mem _ List.mem_cons_self))
              have h57 : f46 lw = some (.inl (cI G, 12, .inl (j6r gw0 gw1))) := k48 _ _ h42 (Nat.ne_of_beq_eq_false rfl) (hdos _ (List.mem_cons_of_mem _ (List.mem_cons_of_mem _ List.mem_cons_self)))
              have h58 : f50 lw = some (.inl (cI G, 12, .inl (j6r gw0 gw1))) := k52 _ _ h57 (Nat.ne_of_beq_eq_false rfl) (hdos _ (List.mem_cons_of_mem _ (List.mem_cons_of_mem _ List.mem_cons_self)))
              have h59 : f46 la = some (.inl (cI G, 12, .inl (j6r ga0 ga1))) := k48 _ _ h43 (Nat.ne_of_beq_eq_false rfl) (hdos _ (List.mem_cons_of_mem _ (List.mem_cons_of_mem _ (List.mem_cons_of_mem _ List.mem_cons_self))))
              have h60 : f50 la = some (.inl (cI G, 12, .inl (j6r ga0 ga1))) := k52 _ _ h59 (Nat.ne_of_beq_eq_false rfl) (hdos _ (List.mem_cons_of_mem _ (List.mem_cons_of_mem _ (List.mem_cons_of_mem _ List.mem_cons_self))))
              have h61 : f46 lq = some (.inl (cI G, 12, .inl (j6r S0.2.2.2.2.2.2.2.1 S1.2.2.2.2.2.2.2.1))) := k48 _ _ h44 (Nat.ne_of_beq_eq_false rfl) (hdos _ (List.mem_cons_of_mem _ (List.mem_cons_of_mem _ (List.mem_cons_of_mem _ (List.mem_cons_of_mem _ List.mem_cons_self)))))
              have h62 : f50 lq = some (.inl (cI G, 12, .inl (j6r S0.2.2.2.2.2.2.2.1 S1.2.2.2.2.2.2.2.1))) := k52 _ _ h61 (Nat.ne_of_beq_eq_false rfl) (hdos _ (List.mem_cons_of_mem _ (List.mem_cons_of_mem _ (List.mem_cons_of_mem _ (List.mem_cons_of_mem _ List.mem_cons_self)))))
              have h63 : f46 le = some (.inl (cI G, 16, .inl (jE (e8r ((ixS S0 (nI j34)).1) ((ixS S0 (nI j34)).2.1) ((ixS S0 (nI j34)).2.2.1) ((ixS S0 (nI j34)).2.2.2.1) ((ixS S0 (nI j34)).2.2.2.2.1) ((ixS S0 (nI j34)).2.2.2.2.2.1) ((ixS S0 (nI j34)).2.2.2.2.2.2.1) (nI (ixS S0 (nI j34)).2.2.2.2.2.2.2.2.length)) (eSt S1)))) := k48 _ _ h39 (Nat.ne_of_beq_eq_false rfl) (hdos _ (List.mem_cons_of_mem _ (List.mem_cons_of_mem _ (List.mem_cons_of_mem _ (List.mem_cons_of_mem _ (List.mem_cons_of_mem _ List.mem_cons_self))))))
              have h64 : f50 le = some (.inl (cI G, 16, .inl (jE (e8r ((ixS S0 (nI j34)).1) ((ixS S0 (nI j34)).2.1) ((ixS S0 (nI j34)).2.2.1) ((ixS S0 (nI j34)).2.2.2.1) ((ixS S0 (nI j34)).2.2.2.2.1) ((ixS S0 (nI j34)).2.2.2.2.2.1) ((ixS S0 (nI j34)).2.2.2.2.2.2.1) (nI (ixS S0 (nI j34)).2.2.2.2.2.2.2.2.length)) (eSt S1)))) := k52 _ _ h63 (Nat.ne_of_beq_eq_false rfl) (hdos _ (List.mem_cons_of_mem _ (List.mem_cons_of_mem _ (List.mem_cons_of_mem _ (List.mem_cons_of_mem _ (List.mem_cons_of_mem _ List.mem_cons_self))))))
              exact hp_zret (v := 1) B0 hw hS hr ⟨Nat.le_of_ble_eq_true rfl, Nat.le_of_ble_eq_true rfl⟩ (rfl) dL_links_383 (⟨rfl, (ixS S0 (nI j34)), S1, gw0, ga0, gw1, ga1, hC51, ⟨⟨_, h54, hX0⟩, ⟨_, h56, hX1⟩, h58, h60, h62, h64⟩, ⟨SOK.mono (SOK.ix hSo0 (x := j34) (by omega)) (by omega), SOK.mono hSo1 (by omega), hgw0, hga0, hgw1, hga1⟩, hl0, hl1, ((show hKn [lx, ly, lw, la, lq, le, xo, ez, eo, bu, nw0, na0, nq0, nr0, nw1, na1, nq1, nr1, bs, bp, bh, bf, bl, bg] f f37 from (by rw [ef37]; exact hKn.up (List.mem_cons_of_mem _ (List.mem_cons_of_mem _ (List.mem_cons_of_mem _ (List.mem_cons_of_mem _ (List.mem_cons_of_mem _ List.mem_cons_self))))))).tr ((show hKn [lx, ly, lw, la, lq, le, xo, ez, eo, bu, nw0, na0, nq0, nr0, nw1, na1, nq1, nr1, bs, bp, bh, bf, bl, bg] f37 f46 from (hKn.mono k48 sbA)).tr (show hKn [lx, ly, lw, la, lq, le, xo, ez, eo, bu, nw0, na0, nq0, nr0, nw1, na1, nq1, nr1, bs, bp, bh, bf, bl, bg] f46 f50 from (hKn.mono k52 sbA))))⟩)

set_option maxHeartbeats 4000000 in
set_option maxRecDepth 100000 in
theorem lk_m_1 {l : Launch} (hl : l.stackTraces = false) (G : hG) (f : hM) (xo ez eo bu nw0 na0 nq0 nr0 nw1 na1 nq1 nr1 bs bp bh bf bl bg : Nat) (S0 : ES) (S1 : ES) (gw0 : Nat → Int32) (ga0 : Nat → Int32) (gw1 : Nat → Int32) (ga1 : Nat → Int32) (n : Nat) (a : Nat) (cg : Nat) (x : Nat) (sa : Nat → Nat) (pk : Nat → Nat) (fl : Nat → Nat) (gv : Nat → Nat) (gh : Nat → Int32) (gl : Nat → Int32) (hC : CXW G f xo ez eo bu nw0 na0 nq0 nr0 nw1 na1 nq1 nr1 bs bp bh bf bl bg S0 S1 gw0 ga0 gw1 ga1 n a cg x sa pk fl gv gh gl) (lx ly lw la lq le : Nat) (hdis : ∀ p, p ∈ [xo, ez, eo, bu, nw0, na0, nq0, nr0, nw1, na1, nq1, nr1, bs, bp, bh, bf, bl, bg] → p ∉ [lx, ly, lw, la, lq, le]) (hdos : ∀ p, p ∈ [lx, ly, lw, la, lq, le] → p ∉ [xo, ez, eo, bu, nw0, na0, nq0, nr0, nw1, na1, nq1, nr1, bs, bp, bh, bf, bl, bg]) (n_lx_ly : lx ≠ ly) (n_lw_la : lw ≠ la) (n_lw_lq : lw ≠ lq) (n_la_lq : la ≠ lq) (hLX : LX G f lx ly lw la lq le S0 S1 gw0 ga0 gw1 ga1) (b : Nat) (hInv : INV b S0 S1 gw0 ga0 gw1 ga1) (hbb : b + 200 ≤ 1000000) (hl0 : S0.2.2.2.2.2.2.2.2.length ≤ 52) (hl1 : S1.2.2.2.2.2.2.2.2.length ≤ 52) (ac : Nat) (hac : ac < 24) (hact : ac ≠ 22 → S0.2.2.2.2.2.2.2.2.length ≤ 40 ∧ S1.2.2.2.2.2.2.2.2.length ≤ 40) (u z : Int32) {p : Program} {e : Env} {s : State} {m : MethodId} {args : Array Value} {below : List Frame} {meth : Method} {c : Code} (B0 : hB p l s m args meth c cL_links 17 RL G) (hr : meth.sig.returnType = some .boolean) {H : Heap} {locs : List Loc} {ls : Array Slot} (hw : hW G f H) (hS : va_S (hFr G) s.heap H locs) (j13 : Nat) (hj13 : j13 < 6) (hl9 : lv_has ls 17 [(13, .int (nI j13)), (12, .ref ly), (11, .int 8), (10, .int 1), (0, .ref xo), (1, .int (nI ac)), (2, .int u), (3, .int z), (4, .ref lx), (5, .ref ly), (6, .ref lw), (7, .ref la), (8, .ref lq), (9, .ref le)]) : W p l e { frames := 9, cells := 203, slots := 1118, locals := 178 } s m args below meth c H locs 0 0 (vx_MQ below (hQ G (fun v f1 => v = some (.int 1) ∧ ∃ (S2 S3 : ES) (w0 a0 w1 a1 : Nat → Int32), CXW G f1 xo ez eo bu nw0 na0 nq0 nr0 nw1 na1 nq1 nr1 bs bp bh bf bl bg S2 S3 w0 a0 w1 a1 n a cg x sa pk fl gv gh gl ∧ LX G f1 lx ly lw la lq le S2 S3 w0 a0 w1 a1 ∧ INV (b + 100) S2 S3 w0 a0 w1 a1 ∧ S2.2.2.2.2.2.2.2.2.length ≤ 52 ∧ S3.2.2.2.2.2.2.2.2.length ≤ 52 ∧ hKn [lx, ly, lw, la, lq, le, xo, ez, eo, bu, nw0, na0, nq0, nr0, nw1, na1, nq1, nr1, bs, bp, bh, bf, bl, bg] f f1)) (hX G (fun E f1 => False)) args s 203 1118 (hFr G)) (F0 m 310 ls []) := by
  have hx := B0.1
  have hb := B0.2.1
  obtain ⟨⟨xs0, k_lx, hX0⟩, ⟨xs1, k_ly, hX1⟩, k_lw, k_la, k_lq, k_le⟩ := hLX
  obtain ⟨hSo0, hSo1, hgw0, hga0, hgw1, hga1⟩ := id hInv
  have n_lx_lw : lx ≠ lw := hneL k_lx k_lw (Nat.ne_of_beq_eq_false rfl)
  have n_lx_la : lx ≠ la := hneL k_lx k_la (Nat.ne_of_beq_eq_false rfl)
  have n_lx_lq : lx ≠ lq := hneL k_lx k_lq (Nat.ne_of_beq_eq_false rfl)
  have n_lx_le : lx ≠ le := hneL k_lx k_le (Nat.ne_of_beq_eq_false rfl)
  have n_ly_lw : ly ≠ lw := hneL k_ly k_lw (Nat.ne_of_beq_eq_false rfl)
  have n_ly_la : ly ≠ la := hneL k_ly k_la (Nat.ne_of_beq_eq_false rfl)
  have n_ly_lq : ly ≠ lq := hneL k_ly k_lq (Nat.ne_of_beq_eq_false rfl)
  have n_ly_le : ly ≠ le := hneL k_ly k_le (Nat.ne_of_beq_eq_false rfl)
  have n_lw_le : lw ≠ le := hneL k_lw k_le (Nat.ne_of_beq_eq_false rfl)
  have n_la_le : la ≠ le := hneL k_la k_le (Nat.ne_of_beq_eq_false rfl)
  have n_lq_le : lq ≠ le := hneL k_lq k_le (Nat.ne_of_beq_eq_false rfl)
  have sbA : ∀ x9, x9 ∈ [xo, ez, eo, bu, nw0, na0, nq0, nr0, nw1, na1, nq1, nr1, bs, bp, bh, bf, bl, bg] → x9 ∈ [lx, ly, lw, la, lq, le, xo, ez, eo, bu, nw0, na0, nq0, nr0, nw1, na1, nq1, nr1, bs, bp, bh, bf, bl, bg] := (sub_cons (List.mem_cons_of_mem _ (List.mem_cons_of_mem _ (List.mem_cons_of_mem _ (List.mem_cons_of_mem _ (List.mem_cons_of_mem _ (List.mem_cons_of_mem _ List.mem_cons_self)))))) (sub_cons (List.mem_cons_of_mem _ (List.mem_cons_of_mem _ (List.mem_cons_of_mem _ (List.mem_cons_of_mem _ (List.mem_cons_of_mem _ (List.mem_cons_of_mem _ (List.mem_cons_of_mem _ List.mem_cons_self))))))) (sub_cons (List.mem_cons_of_mem _ (List.mem_cons_of_mem _ (List.mem_cons_of_mem _ (List.mem_cons_of_mem _ (List.mem_cons_of_mem _ (List.mem_cons_of_mem _ (List.mem_cons_of_mem _ (List.mem_cons_of_mem _ List.mem_cons_self)))))))) (sub_cons (List.mem_cons_of_mem _ (List.mem_cons_of_mem _ (List.mem_cons_of_mem _ (List.mem_cons_of_mem _ (List.mem_cons_of_mem _ (List.mem_cons_of_mem _ (List.mem_cons_of_mem _ (List.mem_cons_of_mem _ (List.mem_cons_of_mem _ List.mem_cons_self))))))))) (sub_cons (List.mem_cons_of_mem _ (List.mem_cons_of_mem _ (List.mem_cons_of_mem _ (List.mem_cons_of_mem _ (List.mem_cons_of_mem _ (List.mem_cons_of_mem _ (List.mem_cons_of_mem _ (List.mem_cons_of_mem _ (List.mem_cons_of_mem _ (List.mem_cons_of_mem _ List.mem_cons_self)))))))))) (sub_cons (List.mem_cons_of_mem _ (List.mem_cons_of_mem _ (List.mem_cons_of_mem _ (List.mem_cons_of_mem _ (List.mem_cons_of_mem _ (List.mem_cons_of_mem _ (List.mem_cons_of_mem _ (List.mem_cons_of_mem _ (List.mem_cons_of_mem _ (List.mem_cons_of_mem _ (List.mem_cons_of_mem _ List.mem_cons_self))))))))))) (sub_cons (List.mem_cons_of_mem _ (List.mem_cons_of_mem _ (List.mem_cons_of_mem _ (List.mem_cons_of_mem _ (List.mem_cons_of_mem _ (List.mem_cons_of_mem _ (List.mem_cons_of_mem _ (List.mem_cons_of_mem _ (List.mem_cons_of_mem _ (List.mem_cons_of_mem _ (List.mem_cons_of_mem _ (List.mem_cons_of_mem _ List.mem_cons_self)))))))))))) (sub_cons (List.mem_cons_of_mem _ (List.mem_cons_of_mem _ (List.mem_cons_of_mem _ (List.mem_cons_of_mem _ (List.mem_cons_of_mem _ (List.mem_cons_of_mem _ (List.mem_cons_of_mem _ (List.mem_cons_of_mem _ (List.mem_cons_of_mem _ (List.mem_cons_of_mem _ (List.mem_cons_of_mem _ (List.mem_cons_of_mem _ (List.mem_cons_of_mem _ List.mem_cons_self))))))))))))) (sub_cons (List.mem_cons_of_mem _ (List.mem_cons_of_mem _ (List.mem_cons_of_mem _ (List.mem_cons_of_mem _ (List.mem_cons_of_mem _ (List.mem_cons_of_mem _ (List.mem_cons_of_mem _ (List.mem_cons_of_mem _ (List.mem_cons_of_mem _ (List.mem_cons_of_mem _ (List.mem_cons_of_mem _ (List.mem_cons_of_mem _ (List.mem_cons_of_mem _ (List.mem_cons_of_mem _ List.mem_cons_self)))))))))))))) (sub_cons (List.mem_cons_of_mem _ (List.mem_cons_of_mem _ (List.mem_cons_of_mem _ (List.mem_cons_of_mem _ (List.mem_cons_of_mem _ (List.mem_cons_of_mem _ (List.mem_cons_of_mem _ (List.mem_cons_of_mem _ (List.mem_cons_of_mem _ (List.mem_cons_of_mem _ (List.mem_cons_of_mem _ (List.mem_cons_of_mem _ (List.mem_cons_of_mem _ (List.mem_cons_of_mem _ (List.mem_cons_of_mem _ List.mem_cons_self))))))))))))))) (sub_cons (List.mem_cons_of_mem _ (List.mem_cons_of_mem _ (List.mem_cons_of_mem _ (List.mem_cons_of_mem _ (List.mem_cons_of_mem _ (List.mem_cons_of_mem _ (List.mem_cons_of_mem _ (List.mem_cons_of_mem _ (List.mem_cons_of_mem _ (List.mem_cons_of_mem _ (List.mem_cons_of_mem _ (List.mem_cons_of_mem _ (List.mem_cons_of_mem _ (List.mem_cons_of_mem _ (List.mem_cons_of_mem _ (List.mem_cons_of_mem _ List.mem_cons_self)))))))))))))))) (sub_cons (List.mem_cons_of_mem _ (List.mem_cons_of_mem _ (List.mem_cons_of_mem _ (List.mem_cons_of_mem _ (List.mem_cons_of_mem _ (List.mem_cons_of_mem _ (List.mem_cons_of_mem _ (List.mem_cons_of_mem _ (List.mem_cons_of_mem _ (List.mem_cons_of_mem _ (List.mem_cons_of_mem _ (List.mem_cons_of_mem _ (List.mem_cons_of_mem _ (List.mem_cons_of_mem _ (List.mem_cons_of_mem _ (List.mem_cons_of_mem _ (List.mem_cons_of_mem _ List.mem_cons_self))))))))))))))))) (sub_cons (List.mem_cons_of_mem _ (List.mem_cons_of_mem _ (List.mem_cons_of_mem _ (List.mem_cons_of_mem _ (List.mem_cons_of_mem _ (List.mem_cons_of_mem _ (List.mem_cons_of_mem _ (List.mem_cons_of_mem _ (List.mem_cons_of_mem _ (List.mem_cons_of_mem _ (List.mem_cons_of_mem _ (List.mem_cons_of_mem _ (List.mem_cons_of_mem _ (List.mem_cons_of_mem _ (List.mem_cons_of_mem _ (List.mem_cons_of_mem _ (List.mem_cons_of_mem _ (List.mem_cons_of_mem _ List.mem_cons_self)))))))))))))))))) (sub_cons (List.mem_cons_of_mem _ (List.mem_cons_of_mem _ (List.mem_cons_of_mem _ (List.mem_cons_of_mem _ (List.mem_cons_of_mem _ (List.mem_cons_of_mem _ (List.mem_cons_of_mem _ (List.mem_cons_of_mem _ (List.mem_cons_of_mem _ (List.mem_cons_of_mem _ (List.mem_cons_of_mem _ (List.mem_cons_of_mem _ (List.mem_cons_of_mem _ (List.mem_cons_of_mem _ (List.mem_cons_of_mem _ (List.mem_cons_of_mem _ (List.mem_cons_of_mem _ (List.mem_cons_of_mem _ (List.mem_cons_of_mem _ List.mem_cons_self))))))))))))))))))) (sub_cons (List.mem_cons_of_mem _ (List.mem_cons_of_mem _ (List.mem_cons_of_mem _ (List.mem_cons_of_mem _ (List.mem_cons_of_mem _ (List.mem_cons_of_mem _ (List.mem_cons_of_mem _ (List.mem_cons_of_mem _ (List.mem_cons_of_mem _ (List.mem_cons_of_mem _ (List.mem_cons_of_mem _ (List.mem_cons_of_mem _ (List.mem_cons_of_mem _ (List.mem_cons_of_mem _ (List.mem_cons_of_mem _ (List.mem_cons_of_mem _ (List.mem_cons_of_mem _ (List.mem_cons_of_mem _ (List.mem_cons_of_mem _ (List.mem_cons_of_mem _ List.mem_cons_self)))))))))))))))))))) (sub_cons (List.mem_cons_of_mem _ (List.mem_cons_of_mem _ (List.mem_cons_of_mem _ (List.mem_cons_of_mem _ (List.mem_cons_of_mem _ (List.mem_cons_of_mem _ (List.mem_cons_of_mem _ (List.mem_cons_of_mem _ (List.mem_cons_of_mem _ (List.mem_cons_of_mem _ (List.mem_cons_of_mem _ (List.mem_cons_of_mem _ (List.mem_cons_of_mem _ (List.mem_cons_of_mem _ (List.mem_cons_of_mem _ (List.mem_cons_of_mem _ (List.mem_cons_of_mem _ (List.mem_cons_of_mem _ (List.mem_cons_of_mem _ (List.mem_cons_of_mem _ (List.mem_cons_of_mem _ List.mem_cons_self))))))))))))))))))))) (sub_cons (List.mem_cons_of_mem _ (List.mem_cons_of_mem _ (List.mem_cons_of_mem _ (List.mem_cons_of_mem _ (List.mem_cons_of_mem _ (List.mem_cons_of_mem _ (List.mem_cons_of_mem _ (List.mem_cons_of_mem _ (List.mem_cons_of_mem _ (List.mem_cons_of_mem _ (List.mem_cons_of_mem _ (List.mem_cons_of_mem _ (List.mem_cons_of_mem _ (List.mem_cons_of_mem _ (List.mem_cons_of_mem _ (List.mem_cons_of_mem _ (List.mem_cons_of_mem _ (List.mem_cons_of_mem _ (List.mem_cons_of_mem _ (List.mem_cons_of_mem _ (List.mem_cons_of_mem _ (List.mem_cons_of_mem _ List.mem_cons_self)))))))))))))))))))))) (sub_cons (List.mem_cons_of_mem _ (List.mem_cons_of_mem _ (List.mem_cons_of_mem _ (List.mem_cons_of_mem _ (List.mem_cons_of_mem _ (List.mem_cons_of_mem _ (List.mem_cons_of_mem _ (List.mem_cons_of_mem _ (List.mem_cons_of_mem _ (List.mem_cons_of_mem _ (List.mem_cons_of_mem _ (List.mem_cons_of_mem _ (List.mem_cons_of_mem _ (List.mem_cons_of_mem _ (List.mem_cons_of_mem _ (List.mem_cons_of_mem _ (List.mem_cons_of_mem _ (List.mem_cons_of_mem _ (List.mem_cons_of_mem _ (List.mem_cons_of_mem _ (List.mem_cons_of_mem _ (List.mem_cons_of_mem _ (List.mem_cons_of_mem _ List.mem_cons_self))))))))))))))))))))))) sub_nil))))))))))))))))))
  obtain ⟨xx, hxx, hx4⟩ := hSo1.2.2.2.2.1
  have h1 : f le = some (.inl (cI G, 16, .inl (jE (eSt S0) (e8r S1.1 S1.2.1 S1.2.2.1 S1.2.2.2.1 S1.2.2.2.2.1 S1.2.2.2.2.2.1 S1.2.2.2.2.2.2.1 (nI S1.2.2.2.2.2.2.2.2.length))))) := k_le
  refine lv_iload_n hx hb dL_links_310 rfl (lv_at hl9 6 rfl) ?_
  refine lv_bipush (v := 48) hx hb dL_links_311 (by decide) ?_
  refine lv_iand hx hb dL_links_313 ?_
  refine lv_if_ne (tgt := 325) hx hb dL_links_314 (by decide) (fun c2 => ?_) (fun c2 => ?_)
  · refine lv_iload hx hb dL_links_325 (lv_at hl9 3 rfl) ?_
    refine lv_istore (lv' := [(14, .int 1), (13, .int (nI j13)), (12, .ref ly), (11, .int 8), (10, .int 1), (0, .ref xo), (1, .int (nI ac)), (2, .int u), (3, .int z), (4, .ref lx), (5, .ref ly), (6, .ref lw), (7, .ref la), (8, .ref lq), (9, .ref le)]) hx hb dL_links_327 hl9 (by decide) rfl (fun ls hl9 => ?_)
    refine lv_aload hx hb dL_links_329 (lv_at hl9 14 rfl) ?_
    refine lv_iload hx hb dL_links_331 (lv_at hl9 3 rfl) ?_
    refine lv_bipush (v := 6) hx hb dL_links_333 (by decide) ?_
    refine lv_iadd hx hb dL_links_335 ?_
    refine hp_c (v := 14) (by decide) ?_
    refine hp_iald B0 hw h1 (by unfold vp_in; decide) dL_links_336 ?_
    refine hp_c (v := (nI xx)) (hxx) ?_
    refine hp_S (As := [.int (nI xx)]) (rest := []) B0 hw hS (c_L_number hl G f xx (by omega)) mS_L_number qM_L_83 rfl rfl hl9.1 (Nat.le_of_ble_eq_true rfl) ⟨⟨Nat.le_of_ble_eq_true rfl, Nat.le_of_ble_eq_true rfl⟩, Nat.le_of_ble_eq_true rfl, Nat.le_of_ble_eq_true rfl⟩ dL_links_337 (fun E ce q9 f3 H locs hPX hw hS hce hcv hcl => ?_) (fun v f3 H locs hP hw hS => ?_)
    · exact hPX.elim
    · obtain ⟨ef9, ev9⟩ := hP
      rw [ef9] at hw
      rw [← hxx] at ev9
      subst ev9
      refine W.eq (g2 := F0 m 340 ls [.int (num S1.2.2.2.2.2.2.1)]) rfl ?_
      refine lv_istore (lv' := [(15, .int (num S1.2.2.2.2.2.2.1)), (14, .int 1), (13, .int (nI j13)), (12, .ref ly), (11, .int 8), (10, .int 1), (0, .ref xo), (1, .int (nI ac)), (2, .int u), (3, .int z), (4, .ref lx), (5, .ref ly), (6, .ref lw), (7, .ref la), (8, .ref lq), (9, .ref le)]) hx hb dL_links_340 hl9 (by decide) rfl (fun ls hl9 => ?_)
      refine lv_aload hx hb dL_links_342 (lv_at hl9 15 rfl) ?_
      refine lv_iload hx hb dL_links_344 (lv_at hl9 4 rfl) ?_
      refine lv_bipush (v := 6) hx hb dL_links_346 (by decide) ?_
      refine lv_iadd hx hb dL_links_348 ?_
      refine hp_c (v := 14) (by decide) ?_
      refine lv_iload hx hb dL_links_349 (lv_at hl9 1 rfl) ?_
      refine hp_iast B0 hw hS h1 (by unfold vp_in; decide) dL_links_351 (fun H locs f4 ef4 hw hS => ?_)
      rw [show (upd (jE (eSt S0) (e8r S1.1 S1.2.1 S1.2.2.1 S1.2.2.2.1 S1.2.2.2.2.1 S1.2.2.2.2.2.1 S1.2.2.2.2.2.2.1 (nI S1.2.2.2.2.2.2.2.2.length))) (14 : Int32).toNatClampNeg 1 : Nat → Int32) = (jE (eSt S0) (e8r S1.1 S1.2.1 S1.2.2.1 S1.2.2.2.1 S1.2.2.2.2.1 S1.2.2.2.2.2.1 1 (nI S1.2.2.2.2.2.2.2.2.length))) from (by rw [show (14 : Int32).toNatClampNeg = 8 + 6 from rfl, jE_u1, e8_u6])] at ef4
      have h5 : f4 le = some (.inl (cI G, 16, .inl (jE (eSt S0) (e8r S1.1 S1.2.1 S1.2.2.1 S1.2.2.2.1 S1.2.2.2.2.1 S1.2.2.2.2.2.1 1 (nI S1.2.2.2.2.2.2.2.2.length))))) := by rw [ef4, va_up_self]
      have h6 : f4 le = some (.inl (cI G, 16, .inl (jE (eSt S0) (e8r ((ixS S1 (nI 1)).1) ((ixS S1 (nI 1)).2.1) ((ixS S1 (nI 1)).2.2.1) ((ixS S1 (nI 1)).2.2.2.1) ((ixS S1 (nI 1)).2.2.2.2.1) ((ixS S1 (nI 1)).2.2.2.2.2.1) ((ixS S1 (nI 1)).2.2.2.2.2.2.1) (nI (ixS S1 (nI 1)).2.2.2.2.2.2.2.2.length))))) := h5
      refine lv_aload_n hx hb dL_links_352 rfl (lv_at hl9 6 rfl) ?_
      refine lv_iconst (v := 2) hx hb dL_links_353 (by decide) ?_
      refine lv_iconst (v := 5) hx hb dL_links_354 (by decide) ?_
      refine lv_iconst (v := 5) hx hb dL_links_355 (by decide) ?_
      have h7 : f4 lx = some (.inl (cJ G, 64, .inr (.inl xs0))) := by rw [ef4, va_up_ne _ _ n_lx_le]; exact k_lx
      have h8 : f4 ly = some (.inl (cJ G, 64, .inr (.inl xs1))) := by rw [ef4, va_up_ne _ _ n_ly_le]; exact k_ly
      have h10 : f4 lw = some (.inl (cI G, 12, .inl (j6r gw0 gw1))) := by rw [ef4, va_up_ne _ _ n_lw_le]; exact k_lw
      have h11 : f4 la = some (.inl (cI G, 12, .inl (j6r ga0 ga1))) := by rw [ef4, va_up_ne _ _ n_la_le]; exact k_la
      have h12 : f4 lq = some (.inl (cI G, 12, .inl (j6r S0.2.2.2.2.2.2.2.1 S1.2.2.2.2.2.2.2.1))) := by rw [ef4, va_up_ne _ _ n_lq_le]; exact k_lq
      have hC13 : CXW G f4 xo ez eo bu nw0 na0 nq0 nr0 nw1 na1 nq1 nr1 bs bp bh bf bl bg S0 S1 gw0 ga0 gw1 ga1 n a cg x sa pk fl gv gh gl := CXW.eq hC (show hEq [lx, ly, lw, la, lq, le] f f4 from (by rw [ef4]; exact hEq.up (List.mem_cons_of_mem _ (List.mem_cons_of_mem _ (List.mem_cons_of_mem _ (List.mem_cons_of_mem _ (List.mem_cons_of_mem _ List.mem_cons_self))))))) hdis (fun b9 hb9 => by
          simp only [List.mem_cons, List.not_mem_nil, or_false] at hb9
          rcases hb9 with hb9 | hb9 | hb9 | hb9 | hb9 | hb9
          · rw [hb9]; exact ⟨_, _, k_lx, h7, (Nat.ne_of_beq_eq_false rfl), (Nat.ne_of_beq_eq_false rfl)⟩
          · rw [hb9]; exact ⟨_, _, k_ly, h8, (Nat.ne_of_beq_eq_false rfl), (Nat.ne_of_beq_eq_false rfl)⟩
          · rw [hb9]; exact ⟨_, _, k_lw, h10, (Nat.ne_of_beq_eq_false rfl), (Nat.ne_of_beq_eq_false rfl)⟩
          · rw [hb9]; exact ⟨_, _, k_la, h11, (Nat.ne_of_beq_eq_false rfl), (Nat.ne_of_beq_eq_false rfl)⟩
          · rw [hb9]; exact ⟨_, _, k_lq, h12, (Nat.ne_of_beq_eq_false rfl), (Nat.ne_of_beq_eq_false rfl)⟩
          · rw [hb9]; exact ⟨_, _, h1, h6, (Nat.ne_of_beq_eq_false rfl), (Nat.ne_of_beq_eq_false rfl)⟩)
      refine hp_SH (As := [.ref xo, .int 2, .int 5, .int 5]) (rest := []) B0 hw hS (c_V_setMagic_E hl G f4 xo ez eo bu nw0 na0 nq0 nr0 nw1 na1 nq1 nr1 bs bp bh bf bl bg S0 S1 gw0 ga0 gw1 ga1 n a cg x sa pk fl gv gh gl hC13 (Nat.lt_of_le_of_lt hl0 (by decide)) (Nat.lt_of_le_of_lt hl1 (by decide)) 2 5 (by decide)) mH_L_setsMagic qM_L_102 rfl rfl hl9.1 (Nat.le_of_ble_eq_true rfl) ⟨⟨Nat.le_of_ble_eq_true rfl, Nat.le_of_ble_eq_true rfl⟩, Nat.le_of_ble_eq_true rfl, Nat.le_of_ble_eq_true rfl⟩ dL_links_356 (fun E ce q9 f14 H locs hPX hw hS hce hcv hcl => ?_) (fun v f14 H locs hP hw hS => ?_)
      · exact hPX.elim
      · obtain ⟨ev9, hC15, k16⟩ := hP
        subst ev9
        have hC15 : CXW G f14 xo ez eo bu nw0 na0 nq0 nr0 nw1 na1 nq1 nr1 bs bp bh bf bl bg S0 S1 gw0 ga0 gw1 ga1 n a cg x sa pk fl gv gh gl := hC15
        refine W.eq (g2 := F0 m 359 ls [.int 0]) rfl ?_
        refine lv_if_ne (tgt := 382) hx hb dL_links_359 (by decide) (fun c9 => absurd (by decide) c9) (fun _ => ?_)
        refine lv_aload_n hx hb dL_links_362 rfl (lv_at hl9 6 rfl) ?_
        refine lv_iload hx hb dL_links_363 (lv_at hl9 5 rfl) ?_
        refine lv_iload hx hb dL_links_365 (lv_at hl9 1 rfl) ?_
        refine hp_S (As := [.int 1]) (rest := [.int 1, .ref xo]) B0 hw hS (c_L_number hl G f14 1 (by omega)) mS_L_number qM_L_83 rfl rfl hl9.1 (Nat.le_of_ble_eq_true rfl) ⟨⟨Nat.le_of_ble_eq_true rfl, Nat.le_of_ble_eq_true rfl⟩, Nat.le_of_ble_eq_true rfl, Nat.le_of_ble_eq_true rfl⟩ dL_links_367 (fun E ce q9 f17 H locs hPX hw hS hce hcv hcl => ?_) (fun v f17 H locs hP hw hS => ?_)
        · exact hPX.elim
        · obtain ⟨ef9, ev9⟩ := hP
          rw [ef9] at hw
          subst ev9
          refine W.eq (g2 := F0 m 370 ls [.int (num (nI 1)), .int 1, .ref xo]) rfl ?_
          refine lv_iload hx hb dL_links_370 (lv_at hl9 0 rfl) ?_
          refine hp_SH (As := [.ref xo, .int 1, .int (num (nI 1)), .int (num S1.2.2.2.2.2.2.1)]) (rest := []) B0 hw hS (c_V_setMagic_1 hl G f14 xo ez eo bu nw0 na0 nq0 nr0 nw1 na1 nq1 nr1 bs bp bh bf bl bg S0 S1 gw0 ga0 gw1 ga1 n a cg x sa pk fl gv gh gl hC15 (Nat.lt_of_le_of_lt hl0 (by decide)) (Nat.lt_of_le_of_lt hl1 (by decide)) (nI 1)) mH_L_setsMagic qM_L_102 rfl rfl hl9.1 (Nat.le_of_ble_eq_true rfl) ⟨⟨Nat.le_of_ble_eq_true rfl, Nat.le_of_ble_eq_true rfl⟩, Nat.le_of_ble_eq_true rfl, Nat.le_of_ble_eq_true rfl⟩ dL_links_372 (fun E ce q9 f18 H locs hPX hw hS hce hcv hcl => ?_) (fun v f18 H locs hP hw hS => ?_)
          · exact hPX.elim
          · obtain ⟨ev9, hC19, k20⟩ := hP
            subst ev9
            have hC19 : CXW G f18 xo ez eo bu nw0 na0 nq0 nr0 nw1 na1 nq1 nr1 bs bp bh bf bl bg S0 (ixS S1 (nI 1)) gw0 ga0 gw1 ga1 n a cg x sa pk fl gv gh gl := hC19
            refine W.eq (g2 := F0 m 375 ls [.int 1]) rfl ?_
            refine lv_if_eq (tgt := 382) hx hb dL_links_375 (by decide) (fun c9 => absurd c9 (by decide)) (fun _ => ?_)
            refine lv_iconst (v := 1) hx hb dL_links_378 (by decide) ?_
            refine lv_goto (tgt := 383) hx hb dL_links_379 (by decide) ?_
            have h21 : f14 lx = some (.inl (cJ G, 64, .inr (.inl xs0))) := k16 _ _ h7 (Nat.ne_of_beq_eq_false rfl) (hdos _ List.mem_cons_self)
            have h22 : f18 lx = some (.inl (cJ G, 64, .inr (.inl xs0))) := k20 _ _ h21 (Nat.ne_of_beq_eq_false rfl) (hdos _ List.mem_cons_self)
            have h23 : f14 ly = some (.inl (cJ G, 64, .inr (.inl xs1))) := k16 _ _ h8 (Nat.ne_of_beq_eq_false rfl) (hdos _ (List.mem_cons_of_mem _ List.mem_cons_self))
            have h24 : f18 ly = some (.inl (cJ G, 64, .inr (.inl xs1))) := k20 _ _ h23 (Nat.ne_of_beq_eq_false rfl) (hdos _ (List.mem_cons_of_mem _ List.mem_cons_self))
            have h25 : f14 lw = some (.inl (cI G, 12, .inl (j6r gw0 gw1))) := k16 _ _ h10 (Nat.ne_of_beq_eq_false rfl) (hdos _ (List.mem_cons_of_mem _ (List.mem_cons_of_mem _ List.mem_cons_self)))
            have h26 : f18 lw = some (.inl (cI G, 12, .inl (j6r gw0 gw1))) := k20 _ _ h25 (Nat.ne_of_beq_eq_false rfl) (hdos _ (List.mem_cons_of_mem _ (List.mem_cons_of_mem _ List.mem_cons_self)))
            have h27 : f14 la = some (.inl (cI G, 12, .inl (j6r ga0 ga1))) := k16 _ _ h11 (Nat.ne_of_beq_eq_false rfl) (hdos _ (List.mem_cons_of_mem _ (List.mem_cons_of_mem _ (List.mem_cons_of_mem _ List.mem_cons_self))))
            have h28 : f18 la = some (.inl (cI G, 12, .inl (j6r ga0 ga1))) := k20 _ _ h27 (Nat.ne_of_beq_eq_false rfl) (hdos _ (List.mem_cons_of_mem _ (List.mem_cons_of_mem _ (List.mem_cons_of_mem _ List.mem_cons_self))))
            have h29 : f14 lq = some (.inl (cI G, 12, .inl (j6r S0.2.2.2.2.2.2.2.1 S1.2.2.2.2.2.2.2.1))) := k16 _ _ h12 (Nat.ne_of_beq_eq_false rfl) (hdos _ (List.mem_cons_of_mem _ (List.mem_cons_of_mem _ (List.mem_cons_of_mem _ (List.mem_cons_of_mem _ List.mem_cons_self)))))
            have h30 : f18 lq = some (.inl (cI G, 12, .inl (j6r S0.2.2.2.2.2.2.2.1 S1.2.2.2.2.2.2.2.1))) := k20 _ _ h29 (Nat.ne_of_beq_eq_false rfl) (hdos _ (List.mem_cons_of_mem _ (List.mem_cons_of_mem _ (List.mem_cons_of_mem _ (List.mem_cons_of_mem _ List.mem_cons_self)))))
            have h31 : f14 le = some (.inl (cI G, 16, .inl (jE (eSt S0) (e8r ((ixS S1 (nI 1)).1) ((ixS S1 (nI 1)).2.1) ((ixS S1 (nI 1)).2.2.1) ((ixS S1 (nI 1)).2.2.2.1) ((ixS S1 (nI 1)).2.2.2.2.1) ((ixS S1 (nI 1)).2.2.2.2.2.1) ((ixS S1 (nI 1)).2.2.2.2.2.2.1) (nI (ixS S1 (nI 1)).2.2.2.2.2.2.2.2.length))))) := k16 _ _ h6 (Nat.ne_of_beq_eq_false rfl) (hdos _ (List.mem_cons_of_mem _ (List.mem_cons_of_mem _ (List.mem_cons_of_mem _ (List.mem_cons_of_mem _ (List.mem_cons_of_mem _ List.mem_cons_self))))))
            have h32 : f18 le = some (.inl (cI G, 16, .inl (jE (eSt S0) (e8r ((ixS S1 (nI 1)).1) ((ixS S1 (nI 1)).2.1) ((ixS S1 (nI 1)).2.2.1) ((ixS S1 (nI 1)).2.2.2.1) ((ixS S1 (nI 1)).2.2.2.2.1) ((ixS S1 (nI 1)).2.2.2.2.2.1) ((ixS S1 (nI 1)).2.2.2.2.2.2.1) (nI (ixS S1 (nI 1)).2.2.2.2.2.2.2.2.length))))) := k20 _ _ h31 (Nat.ne_of_beq_eq_false rfl) (hdos _ (List.mem_cons_of_mem _ (List.mem_cons_of_mem _ (List.mem_cons_of_mem _ (List.mem_cons_of_mem _ (List.mem_cons_of_mem _ List.mem_cons_self))))))
            exact hp_zret (v := 1) B0 hw hS hr ⟨Nat.le_of_ble_eq_true rfl, Nat.le_of_ble_eq_true rfl⟩ (rfl) dL_links_383 (⟨rfl, S0, (ixS S1 (nI 1)), gw0, ga0, gw1, ga1, hC19, ⟨⟨_, h22, hX0⟩, ⟨_, h24, hX1⟩, h26, h28, h30, h32⟩, ⟨SOK.mono hSo0 (by omega), SOK.mono (SOK.ix hSo1 (x := 1) (by omega)) (by omega), hgw0, hga0, hgw1, hga1⟩, hl0, hl1, ((show hKn [lx, ly, lw, la, lq, le, xo, ez, eo, bu, nw0, na0, nq0, nr0, nw1, na1, nq1, nr1, bs, bp, bh, bf, bl, bg] f f4 from (by rw [ef4]; exact hKn.up (List.mem_cons_of_mem _ (List.mem_cons_of_mem _ (List.mem_cons_of_mem _ (List.mem_cons_of_mem _ (List.mem_cons_of_mem _ List.mem_cons_self))))))).tr ((show hKn [lx, ly, lw, la, lq, le, xo, ez, eo, bu, nw0, na0, nq0, nr0, nw1, na1, nq1, nr1, bs, bp, bh, bf, bl, bg] f4 f14 from (hKn.mono k16 sbA)).tr (show hKn [lx, ly, lw, la, lq, le, xo, ez, eo, bu, nw0, na0, nq0, nr0, nw1, na1, nq1, nr1, bs, bp, bh, bf, bl, bg] f14 f18 from (hKn.mono k20 sbA))))⟩)
  · refine lv_iload_n hx hb dL_links_317 rfl (lv_at hl9 7 rfl) ?_
    refine lv_iconst (v := 5) hx hb dL_links_318 (by decide) ?_
    refine hp_S (As := [.int z, .int 5]) (rest := []) B0 hw hS (c_L_low hl G f z 5 (by omega) (by omega)) mS_L_low qM_L_94 rfl rfl hl9.1 (Nat.le_of_ble_eq_true rfl) ⟨⟨Nat.le_of_ble_eq_true rfl, Nat.le_of_ble_eq_true rfl⟩, Nat.le_of_ble_eq_true rfl, Nat.le_of_ble_eq_true rfl⟩ dL_links_319 (fun E ce q9 f33 H locs hPX hw hS hce hcv hcl => ?_) (fun v f33 H locs hP hw hS => ?_)
    · exact hPX.elim
    · obtain ⟨ef9, j34, hj35, ev9⟩ := hP
      rw [ef9] at hw
      subst ev9
      refine W.eq (g2 := F0 m 322 ls [.int (nI j34)]) rfl ?_
      refine lv_goto (tgt := 327) hx hb dL_links_322 (by decide) ?_
      refine lv_istore (lv' := [(14, .int (nI j34)), (13, .int (nI j13)), (12, .ref ly), (11, .int 8), (10, .int 1), (0, .ref xo), (1, .int (nI ac)), (2, .int u), (3, .int z), (4, .ref lx), (5, .ref ly), (6, .ref lw), (7, .ref la), (8, .ref lq), (9, .ref le)]) hx hb dL_links_327 hl9 (by decide) rfl (fun ls hl9 => ?_)
      refine lv_aload hx hb dL_links_329 (lv_at hl9 14 rfl) ?_
      refine lv_iload hx hb dL_links_331 (lv_at hl9 3 rfl) ?_
      refine lv_bipush (v := 6) hx hb dL_links_333 (by decide) ?_
      refine lv_iadd hx hb dL_links_335 ?_
      refine hp_c (v := 14) (by decide) ?_
      refine hp_iald B0 hw h1 (by unfold vp_in; decide) dL_links_336 ?_
      refine hp_c (v := (nI xx)) (hxx) ?_
      refine hp_S (As := [.int (nI xx)]) (rest := []) B0 hw hS (c_L_number hl G f xx (by omega)) mS_L_number qM_L_83 rfl rfl hl9.1 (Nat.le_of_ble_eq_true rfl) ⟨⟨Nat.le_of_ble_eq_true rfl, Nat.le_of_ble_eq_true rfl⟩, Nat.le_of_ble_eq_true rfl, Nat.le_of_ble_eq_true rfl⟩ dL_links_337 (fun E ce q9 f36 H locs hPX hw hS hce hcv hcl => ?_) (fun v f36 H locs hP hw hS => ?_)
      · exact hPX.elim
      · obtain ⟨ef9, ev9⟩ := hP
        rw [ef9] at hw
        rw [← hxx] at ev9
        subst ev9
        refine W.eq (g2 := F0 m 340 ls [.int (num S1.2.2.2.2.2.2.1)]) rfl ?_
        refine lv_istore (lv' := [(15, .int (num S1.2.2.2.2.2.2.1)), (14, .int (nI j34)), (13, .int (nI j13)), (12, .ref ly), (11, .int 8), (10, .int 1), (0, .ref xo), (1, .int (nI ac)), (2, .int u), (3, .int z), (4, .ref lx), (5, .ref ly), (6, .ref lw), (7, .ref la), (8, .ref lq), (9, .ref le)]) hx hb dL_links_340 hl9 (by decide) rfl (fun ls hl9 => ?_)
        refine lv_aload hx hb dL_links_342 (lv_at hl9 15 rfl) ?_
        refine lv_iload hx hb dL_links_344 (lv_at hl9 4 rfl) ?_
        refine lv_bipush (v := 6) hx hb dL_links_346 (by decide) ?_
        refine lv_iadd hx hb dL_links_348 ?_
        refine hp_c (v := 14) (by decide) ?_
        refine lv_iload hx hb dL_links_349 (lv_at hl9 1 rfl) ?_
        refine hp_iast B0 hw hS h1 (by unfold vp_in; decide) dL_links_351 (fun H locs f37 ef37 hw hS => ?_)
        rw [show (upd (jE (eSt S0) (e8r S1.1 S1.2.1 S1.2.2.1 S1.2.2.2.1 S1.2.2.2.2.1 S1.2.2.2.2.2.1 S1.2.2.2.2.2.2.1 (nI S1.2.2.2.2.2.2.2.2.length))) (14 : Int32).toNatClampNeg (nI j34) : Nat → Int32) = (jE (eSt S0) (e8r S1.1 S1.2.1 S1.2.2.1 S1.2.2.2.1 S1.2.2.2.2.1 S1.2.2.2.2.2.1 (nI j34) (nI S1.2.2.2.2.2.2.2.2.length))) from (by rw [show (14 : Int32).toNatClampNeg = 8 + 6 from rfl, jE_u1, e8_u6])] at ef37
        have h38 : f37 le = some (.inl (cI G, 16, .inl (jE (eSt S0) (e8r S1.1 S1.2.1 S1.2.2.1 S1.2.2.2.1 S1.2.2.2.2.1 S1.2.2.2.2.2.1 (nI j34) (nI S1.2.2.2.2.2.2.2.2.length))))) := by rw [ef37, va_up_self]
        have h39 : f37 le = some (.inl (cI G, 16, .inl (jE (eSt S0) (e8r ((ixS S1 (nI j34)).1) ((ixS S1 (nI j34)).2.1) ((ixS S1 (nI j34)).2.2.1) ((ixS S1 (nI j34)).2.2.2.1) ((ixS S1 (nI j34)).2.2.2.2.1) ((ixS S1 (nI j34)).2.2.2.2.2.1) ((ixS S1 (nI j34)).2.2.2.2.2.2.1) (nI (ixS S1 (nI j34)).2.2.2.2.2.2.2.2.length))))) := h38
        refine lv_aload_n hx hb dL_links_352 rfl (lv_at hl9 6 rfl) ?_
        refine lv_iconst (v := 2) hx hb dL_links_353 (by decide) ?_
        refine lv_iconst (v := 5) hx hb dL_links_354 (by decide) ?_
        refine lv_iconst (v := 5) hx hb dL_links_355 (by decide) ?_
        have h40 : f37 lx = some (.inl (cJ G, 64, .inr (.inl xs0))) := by rw [ef37, va_up_ne _ _ n_lx_le]; exact k_lx
        have h41 : f37 ly = some (.inl (cJ G, 64, .inr (.inl xs1))) := by rw [ef37, va_up_ne _ _ n_ly_le]; exact k_ly
        have h42 : f37 lw = some (.inl (cI G, 12, .inl (j6r gw0 gw1))) := by rw [ef37, va_up_ne _ _ n_lw_le]; exact k_lw
        have h43 : f37 la = some (.inl (cI G, 12, .inl (j6r ga0 ga1))) := by rw [ef37, va_up_ne _ _ n_la_le]; exact k_la
        have h44 : f37 lq = some (.inl (cI G, 12, .inl (j6r S0.2.2.2.2.2.2.2.1 S1.2.2.2.2.2.2.2.1))) := by rw [ef37, va_up_ne _ _ n_lq_le]; exact k_lq
        have hC45 : CXW G f37 xo ez eo bu nw0 na0 nq0 nr0 nw1 na1 nq1 nr1 bs bp bh bf bl bg S0 S1 gw0 ga0 gw1 ga1 n a cg x sa pk fl gv gh gl := CXW.eq hC (show hEq [lx, ly, lw, la, lq, le] f f37 from (by rw [ef37]; exact hEq.up (List.mem_cons_of_mem _ (List.mem_cons_of_mem _ (List.mem_cons_of_mem _ (List.mem_cons_of_mem _ (List.mem_cons_of_mem _ List.mem_cons_self))))))) hdis (fun b9 hb9 => by
            simp only [List.mem_cons, List.not_mem_nil, or_false] at hb9
            rcases hb9 with hb9 | hb9 | hb9 | hb9 | hb9 | hb9
            · rw [hb9]; exact ⟨_, _, k_lx, h40, (Nat.ne_of_beq_eq_false rfl), (Nat.ne_of_beq_eq_false rfl)⟩
            · rw [hb9]; exact ⟨_, _, k_ly, h41, (Nat.ne_of_beq_eq_false rfl), (Nat.ne_of_beq_eq_false rfl)⟩
            · rw [hb9]; exact ⟨_, _, k_lw, h42, (Nat.ne_of_beq_eq_false rfl), (Nat.ne_of_beq_eq_false rfl)⟩
            · rw [hb9]; exact ⟨_, _, k_la, h43, (Nat.ne_of_beq_eq_false rfl), (Nat.ne_of_beq_eq_false rfl)⟩
            · rw [hb9]; exact ⟨_, _, k_lq, h44, (Nat.ne_of_beq_eq_false rfl), (Nat.ne_of_beq_eq_false rfl)⟩
            · rw [hb9]; exact ⟨_, _, h1, h39, (Nat.ne_of_beq_eq_false rfl), (Nat.ne_of_beq_eq_false rfl)⟩)
        refine hp_SH (As := [.ref xo, .int 2, .int 5, .int 5]) (rest := []) B0 hw hS (c_V_setMagic_E hl G f37 xo ez eo bu nw0 na0 nq0 nr0 nw1 na1 nq1 nr1 bs bp bh bf bl bg S0 S1 gw0 ga0 gw1 ga1 n a cg x sa pk fl gv gh gl hC45 (Nat.lt_of_le_of_lt hl0 (by decide)) (Nat.lt_of_le_of_lt hl1 (by decide)) 2 5 (by decide)) mH_L_setsMagic qM_L_102 rfl rfl hl9.1 (Nat.le_of_ble_eq_true rfl) ⟨⟨Nat.le_of_ble_eq_true rfl, Nat.le_of_ble_eq_true rfl⟩, Nat.le_of_ble_eq_true rfl, Nat.le_of_ble_eq_true rfl⟩ dL_links_356 (fun E ce q9 f46 H locs hPX hw hS hce hcv hcl => ?_) (fun v f46 H locs hP hw hS => ?_)
        · exact hPX.elim
        · obtain ⟨ev9, hC47, k48⟩ := hP
          subst ev9
          have hC47 : CXW G f46 xo ez eo bu nw0 na0 nq0 nr0 nw1 na1 nq1 nr1 bs bp bh bf bl bg S0 S1 gw0 ga0 gw1 ga1 n a cg x sa pk fl gv gh gl := hC47
          refine W.eq (g2 := F0 m 359 ls [.int 0]) rfl ?_
          refine lv_if_ne (tgt := 382) hx hb dL_links_359 (by decide) (fun c9 => absurd (by decide) c9) (fun _ => ?_)
          refine lv_aload_n hx hb dL_links_362 rfl (lv_at hl9 6 rfl) ?_
          refine lv_iload hx hb dL_links_363 (lv_at hl9 5 rfl) ?_
          refine lv_iload hx hb dL_links_365 (lv_at hl9 1 rfl) ?_
          refine hp_S (As := [.int (nI j34)]) (rest := [.int 1, .ref xo]) B0 hw hS (c_L_number hl G f46 j34 (by omega)) mS_L_number qM_L_83 rfl rfl hl9.1 (Nat.le_of_ble_eq_true rfl) ⟨⟨Nat.le_of_ble_eq_true rfl, Nat.le_of_ble_eq_true rfl⟩, Nat.le_of_ble_eq_true rfl, Nat.le_of_ble_eq_true rfl⟩ dL_links_367 (fun E ce q9 f49 H locs hPX hw hS hce hcv hcl => ?_) (fun v f49 H locs hP hw hS => ?_)
          · exact hPX.elim
          · obtain ⟨ef9, ev9⟩ := hP
            rw [ef9] at hw
            subst ev9
            refine W.eq (g2 := F0 m 370 ls [.int (num (nI j34)), .int 1, .ref xo]) rfl ?_
            refine lv_iload hx hb dL_links_370 (lv_at hl9 0 rfl) ?_
            refine hp_SH (As := [.ref xo, .int 1, .int (num (nI j34)), .int (num S1.2.2.2.2.2.2.1)]) (rest := []) B0 hw hS (c_V_setMagic_1 hl G f46 xo ez eo bu nw0 na0 nq0 nr0 nw1 na1 nq1 nr1 bs bp bh bf bl bg S0 S1 gw0 ga0 gw1 ga1 n a cg x sa pk fl gv gh gl hC47 (Nat.lt_of_le_of_lt hl0 (by decide)) (Nat.lt_of_le_of_lt hl1 (by decide)) (nI j34)) mH_L_setsMagic qM_L_102 rfl rfl hl9.1 (Nat.le_of_ble_eq_true rfl) ⟨⟨Nat.le_of_ble_eq_true rfl, Nat.le_of_ble_eq_true rfl⟩, Nat.le_of_ble_eq_true rfl, Nat.le_of_ble_eq_true rfl⟩ dL_links_372 (fun E ce q9 f50 H locs hPX hw hS hce hcv hcl => ?_) (fun v f50 H locs hP hw hS => ?_)
            · exact hPX.elim
            · obtain ⟨ev9, hC51, k52⟩ := hP
              subst ev9
              have hC51 : CXW G f50 xo ez eo bu nw0 na0 nq0 nr0 nw1 na1 nq1 nr1 bs bp bh bf bl bg S0 (ixS S1 (nI j34)) gw0 ga0 gw1 ga1 n a cg x sa pk fl gv gh gl := hC51
              refine W.eq (g2 := F0 m 375 ls [.int 1]) rfl ?_
              refine lv_if_eq (tgt := 382) hx hb dL_links_375 (by decide) (fun c9 => absurd c9 (by decide)) (fun _ => ?_)
              refine lv_iconst (v := 1) hx hb dL_links_378 (by decide) ?_
              refine lv_goto (tgt := 383) hx hb dL_links_379 (by decide) ?_
              have h53 : f46 lx = some (.inl (cJ G, 64, .inr (.inl xs0))) := k48 _ _ h40 (Nat.ne_of_beq_eq_false rfl) (hdos _ List.mem_cons_self)
              have h54 : f50 lx = some (.inl (cJ G, 64, .inr (.inl xs0))) := k52 _ _ h53 (Nat.ne_of_beq_eq_false rfl) (hdos _ List.mem_cons_self)
              have h55 : f46 ly = some (.inl (cJ G, 64, .inr (.inl xs1))) := k48 _ _ h41 (Nat.ne_of_beq_eq_false rfl) (hdos _ (List.mem_cons_of_mem _ List.mem_cons_self))
              have h56 : f50 ly = some (.inl (cJ G, 64, .inr (.inl xs1))) := k52 _ _ h55 (Nat.ne_of_beq_eq_false rfl) (hdos _ (List.mem_cons_of_mem _ List.mem_cons_self))
              have h57 : f46 lw = some (.inl (cI G, 12, .inl (j6r gw0 gw1))) := k48 _ _ h42 (Nat.ne_of_beq_eq_false rfl) (hdos _ (List.mem_cons_of_mem _ (List.mem_cons_of_mem _ List.mem_cons_self)))
              have h58 : f50 lw = some (.inl (cI G, 12, .inl (j6r gw0 gw1))) := k52 _ _ h57 (Nat.ne_of_beq_eq_false rfl) (hdos _ (List.mem_cons_of_mem _ (List.mem_cons_of_mem _ List.mem_cons_self)))
              have h59 : f46 la = some (.inl (cI G, 12, .inl (j6r ga0 ga1))) := k48 _ _ h43 (Nat.ne_of_beq_eq_false rfl) (hdos _ (List.mem_cons_of_mem _ (List.mem_cons_of_mem _ (List.mem_cons_of_mem _ List.mem_cons_self))))
              have h60 : f50 la = some (.inl (cI G, 12, .inl (j6r ga0 ga1))) := k52 _ _ h59 (Nat.ne_of_beq_eq_false rfl) (hdos _ (List.mem_cons_of_mem _ (List.mem_cons_of_mem _ (List.mem_cons_of_mem _ List.mem_cons_self))))
              have h61 : f46 lq = some (.inl (cI G, 12, .inl (j6r S0.2.2.2.2.2.2.2.1 S1.2.2.2.2.2.2.2.1))) := k48 _ _ h44 (Nat.ne_of_beq_eq_false rfl) (hdos _ (List.mem_cons_of_mem _ (List.mem_cons_of_mem _ (List.mem_cons_of_mem _ (List.mem_cons_of_mem _ List.mem_cons_self)))))
              have h62 : f50 lq = some (.inl (cI G, 12, .inl (j6r S0.2.2.2.2.2.2.2.1 S1.2.2.2.2.2.2.2.1))) := k52 _ _ h61 (Nat.ne_of_beq_eq_false rfl) (hdos _ (List.mem_cons_of_mem _ (List.mem_cons_of_mem _ (List.mem_cons_of_mem _ (List.mem_cons_of_mem _ List.mem_cons_self)))))
              have h63 : f46 le = some (.inl (cI G, 16, .inl (jE (eSt S0) (e8r ((ixS S1 (nI j34)).1) ((ixS S1 (nI j34)).2.1) ((ixS S1 (nI j34)).2.2.1) ((ixS S1 (nI j34)).2.2.2.1) ((ixS S1 (nI j34)).2.2.2.2.1) ((ixS S1 (nI j34)).2.2.2.2.2.1) ((ixS S1 (nI j34)).2.2.2.2.2.2.1) (nI (ixS S1 (nI j34)).2.2.2.2.2.2.2.2.length))))) := k48 _ _ h39 (Nat.ne_of_beq_eq_false rfl) (hdos _ (List.mem_cons_of_mem _ (List.mem_cons_of_mem _ (List.mem_cons_of_mem _ (List.mem_cons_of_mem _ (List.mem_cons_of_mem _ List.mem_cons_self))))))
              have h64 : f50 le = some (.inl (cI G, 16, .inl (jE (eSt S0) (e8r ((ixS S1 (nI j34)).1) ((ixS S1 (nI j34)).2.1) ((ixS S1 (nI j34)).2.2.1) ((ixS S1 (nI j34)).2.2.2.1) ((ixS S1 (nI j34)).2.2.2.2.1) ((ixS S1 (nI j34)).2.2.2.2.2.1) ((ixS S1 (nI j34)).2.2.2.2.2.2.1) (nI (ixS S1 (nI j34)).2.2.2.2.2.2.2.2.length))))) := k52 _ _ h63 (Nat.ne_of_beq_eq_false rfl) (hdos _ (List.mem_cons_of_mem _ (List.mem_cons_of_mem _ (List.mem_cons_of_mem _ (List.mem_cons_of_mem _ (List.mem_cons_of_mem _ List.mem_cons_self))))))
              exact hp_zret (v := 1) B0 hw hS hr ⟨Nat.le_of_ble_eq_true rfl, Nat.le_of_ble_eq_true rfl⟩ (rfl) dL_links_383 (⟨rfl, S0, (ixS S1 (nI j34)), gw0, ga0, gw1, ga1, hC51, ⟨⟨_, h54, hX0⟩, ⟨_, h56, hX1⟩, h58, h60, h62, h64⟩, ⟨SOK.mono hSo0 (by omega), SOK.mono (SOK.ix hSo1 (x := j34) (by omega)) (by omega), hgw0, hga0, hgw1, hga1⟩, hl0, hl1, ((show hKn [lx, ly, lw, la, lq, le, xo, ez, eo, bu, nw0, na0, nq0, nr0, nw1, na1, nq1, nr1, bs, bp, bh, bf, bl, bg] f f37 from (by rw [ef37]; exact hKn.up (List.mem_cons_of_mem _ (List.mem_cons_of_mem _ (List.mem_cons_of_mem _ (List.mem_cons_of_mem _ (List.mem_cons_of_mem _ List.mem_cons_self))))))).tr ((show hKn [lx, ly, lw, la, lq, le, xo, ez, eo, bu, nw0, na0, nq0, nr0, nw1, na1, nq1, nr1, bs, bp, bh, bf, bl, bg] f37 f46 from (hKn.mono k48 sbA)).tr (show hKn [lx, ly, lw, la, lq, le, xo, ez, eo, bu, nw0, na0, nq0, nr0, nw1, na1, nq1, nr1, bs, bp, bh, bf, bl, bg] f46 f50 from (hKn.mono k52 sbA))))⟩)

set_option maxHeartbeats 4000000 in
set_option maxRecDepth 100000 in
theorem lk_o_0 {l : Launch} (hl : l.stackTraces = false) (G : hG) (f : hM) (xo ez eo bu nw0 na0 nq0 nr0 nw1 na1 nq1 nr1 bs bp bh bf bl bg : Nat) (S0 : ES) (S1 : ES) (gw0 : Nat → Int32) (ga0 : Nat → Int32) (gw1 : Nat → Int32) (ga1 : Nat → Int32) (n : Nat) (a : Nat) (cg : Nat) (x : Nat) (sa : Nat → Nat) (pk : Nat → Nat) (fl : Nat → Nat) (gv : Nat → Nat) (gh : Nat → Int32) (gl : Nat → Int32) (hC : CXW G f xo ez eo bu nw0 na0 nq0 nr0 nw1 na1 nq1 nr1 bs bp bh bf bl bg S0 S1 gw0 ga0 gw1 ga1 n a cg x sa pk fl gv gh gl) (lx ly lw la lq le : Nat) (hdis : ∀ p, p ∈ [xo, ez, eo, bu, nw0, na0, nq0, nr0, nw1, na1, nq1, nr1, bs, bp, bh, bf, bl, bg] → p ∉ [lx, ly, lw, la, lq, le]) (hdos : ∀ p, p ∈ [lx, ly, lw, la, lq, le] → p ∉ [xo, ez, eo, bu, nw0, na0, nq0, nr0, nw1, na1, nq1, nr1, bs, bp, bh, bf, bl, bg]) (n_lx_ly : lx ≠ ly) (n_lw_la : lw ≠ la) (n_lw_lq : lw ≠ lq) (n_la_lq : la ≠ lq) (hLX : LX G f lx ly lw la lq le S0 S1 gw0 ga0 gw1 ga1) (b : Nat) (hInv : INV b S0 S1 gw0 ga0 gw1 ga1) (hbb : b + 200 ≤ 1000000) (hl0 : S0.2.2.2.2.2.2.2.2.length ≤ 52) (hl1 : S1.2.2.2.2.2.2.2.2.length ≤ 52) (ac : Nat) (hac : ac < 24) (hact : ac ≠ 22 → S0.2.2.2.2.2.2.2.2.length ≤ 40 ∧ S1.2.2.2.2.2.2.2.2.length ≤ 40) (u z : Int32) {p : Program} {e : Env} {s : State} {m : MethodId} {args : Array Value} {below : List Frame} {meth : Method} {c : Code} (B0 : hB p l s m args meth c cL_links 17 RL G) (hr : meth.sig.returnType = some .boolean) {H : Heap} {locs : List Loc} {ls : Array Slot} (hw : hW G f H) (hS : va_S (hFr G) s.heap H locs) (j13 : Nat) (hj13 : j13 < 6) (hc : ¬ 10 ≤ nI ac) (hl9 : lv_has ls 17 [(13, .int (nI j13)), (12, .ref lx), (11, .int 0), (10, .int 0), (0, .ref xo), (1, .int (nI ac)), (2, .int u), (3, .int z), (4, .ref lx), (5, .ref ly), (6, .ref lw), (7, .ref la), (8, .ref lq), (9, .ref le)]) : W p l e { frames := 9, cells := 203, slots := 1118, locals := 178 } s m args below meth c H locs 0 0 (vx_MQ below (hQ G (fun v f1 => v = some (.int 1) ∧ ∃ (S2 S3 : ES) (w0 a0 w1 a1 : Nat → Int32), CXW G f1 xo ez eo bu nw0 na0 nq0 nr0 nw1 na1 nq1 nr1 bs bp bh bf bl bg S2 S3 w0 a0 w1 a1 n a cg x sa pk fl gv gh gl ∧ LX G f1 lx ly lw la lq le S2 S3 w0 a0 w1 a1 ∧ INV (b + 100) S2 S3 w0 a0 w1 a1 ∧ S2.2.2.2.2.2.2.2.2.length ≤ 52 ∧ S3.2.2.2.2.2.2.2.2.length ≤ 52 ∧ hKn [lx, ly, lw, la, lq, le, xo, ez, eo, bu, nw0, na0, nq0, nr0, nw1, na1, nq1, nr1, bs, bp, bh, bf, bl, bg] f f1)) (hX G (fun E f1 => False)) args s 203 1118 (hFr G)) (F0 m 390 ls []) := by
  have hx := B0.1
  have hb := B0.2.1
  obtain ⟨⟨xs0, k_lx, hX0⟩, ⟨xs1, k_ly, hX1⟩, k_lw, k_la, k_lq, k_le⟩ := hLX
  obtain ⟨hSo0, hSo1, hgw0, hga0, hgw1, hga1⟩ := id hInv
  have n_lx_lw : lx ≠ lw := hneL k_lx k_lw (Nat.ne_of_beq_eq_false rfl)
  have n_lx_la : lx ≠ la := hneL k_lx k_la (Nat.ne_of_beq_eq_false rfl)
  have n_lx_lq : lx ≠ lq := hneL k_lx k_lq (Nat.ne_of_beq_eq_false rfl)
  have n_lx_le : lx ≠ le := hneL k_lx k_le (Nat.ne_of_beq_eq_false rfl)
  have n_ly_lw : ly ≠ lw := hneL k_ly k_lw (Nat.ne_of_beq_eq_false rfl)
  have n_ly_la : ly ≠ la := hneL k_ly k_la (Nat.ne_of_beq_eq_false rfl)
  have n_ly_lq : ly ≠ lq := hneL k_ly k_lq (Nat.ne_of_beq_eq_false rfl)
  have n_ly_le : ly ≠ le := hneL k_ly k_le (Nat.ne_of_beq_eq_false rfl)
  have n_lw_le : lw ≠ le := hneL k_lw k_le (Nat.ne_of_beq_eq_false rfl)
  have n_la_le : la ≠ le := hneL k_la k_le (Nat.ne_of_beq_eq_false rfl)
  have n_lq_le : lq ≠ le := hneL k_lq k_le (Nat.ne_of_beq_eq_false rfl)
  have sbA : ∀ x9, x9 ∈ [xo, ez, eo, bu, nw0, na0, nq0, nr0, nw1, na1, nq1, nr1, bs, bp, bh, bf, bl, bg] → x9 ∈ [lx, ly, lw, la, lq, le, xo, ez, eo, bu, nw0, na0, nq0, nr0, nw1, na1, nq1, nr1, bs, bp, bh, bf, bl, bg] := (sub_cons (List.mem_cons_of_mem _ (List.mem_cons_of_mem _ (List.mem_cons_of_mem _ (List.mem_cons_of_mem _ (List.mem_cons_of_mem _ (List.mem_cons_of_mem _ List.mem_cons_self)))))) (sub_cons (List.mem_cons_of_mem _ (List.mem_cons_of_mem _ (List.mem_cons_of_mem _ (List.mem_cons_of_mem _ (List.mem_cons_of_mem _ (List.mem_cons_of_mem _ (List.mem_cons_of_mem _ List.mem_cons_self))))))) (sub_cons (List.mem_cons_of_mem _ (List.mem_cons_of_mem _ (List.mem_cons_of_mem _ (List.mem_cons_of_mem _ (List.mem_cons_of_mem _ (List.mem_cons_of_mem _ (List.mem_cons_of_mem _ (List.mem_cons_of_mem _ List.mem_cons_self)))))))) (sub_cons (List.mem_cons_of_mem _ (List.mem_cons_of_mem _ (List.mem_cons_of_mem _ (List.mem_cons_of_mem _ (List.mem_cons_of_mem _ (List.mem_cons_of_mem _ (List.mem_cons_of_mem _ (List.mem_cons_of_mem _ (List.mem_cons_of_mem _ List.mem_cons_self))))))))) (sub_cons (List.mem_cons_of_mem _ (List.mem_cons_of_mem _ (List.mem_cons_of_mem _ (List.mem_cons_of_mem _ (List.mem_cons_of_mem _ (List.mem_cons_of_mem _ (List.mem_cons_of_mem _ (List.mem_cons_of_mem _ (List.mem_cons_of_mem _ (List.mem_cons_of_mem _ List.mem_cons_self)))))))))) (sub_cons (List.mem_cons_of_mem _ (List.mem_cons_of_mem _ (List.mem_cons_of_mem _ (List.mem_cons_of_mem _ (List.mem_cons_of_mem _ (List.mem_cons_of_mem _ (List.mem_cons_of_mem _ (List.mem_cons_of_mem _ (List.mem_cons_of_mem _ (List.mem_cons_of_mem _ (List.mem_cons_of_mem _ List.mem_cons_self))))))))))) (sub_cons (List.mem_cons_of_mem _ (List.mem_cons_of_mem _ (List.mem_cons_of_mem _ (List.mem_cons_of_mem _ (List.mem_cons_of_mem _ (List.mem_cons_of_mem _ (List.mem_cons_of_mem _ (List.mem_cons_of_mem _ (List.mem_cons_of_mem _ (List.mem_cons_of_mem _ (List.mem_cons_of_mem _ (List.mem_cons_of_mem _ List.mem_cons_self)))))))))))) (sub_cons (List.mem_cons_of_mem _ (List.mem_cons_of_mem _ (List.mem_cons_of_mem _ (List.mem_cons_of_mem _ (List.mem_cons_of_mem _ (List.mem_cons_of_mem _ (List.mem_cons_of_mem _ (List.mem_cons_of_mem _ (List.mem_cons_of_mem _ (List.mem_cons_of_mem _ (List.mem_cons_of_mem _ (List.mem_cons_of_mem _ (List.mem_cons_of_mem _ List.mem_cons_self))))))))))))) (sub_cons (List.mem_cons_of_mem _ (List.mem_cons_of_mem _ (List.mem_cons_of_mem _ (List.mem_cons_of_mem _ (List.mem_cons_of_mem _ (List.mem_cons_of_mem _ (List.mem_cons_of_mem _ (List.mem_cons_of_mem _ (List.mem_cons_of_mem _ (List.mem_cons_of_mem _ (List.mem_cons_of_mem _ (List.mem_cons_of_mem _ (List.mem_cons_of_mem _ (List.mem_cons_of_mem _ List.mem_cons_self)))))))))))))) (sub_cons (List.mem_cons_of_mem _ (List.mem_cons_of_mem _ (List.mem_cons_of_mem _ (List.mem_cons_of_mem _ (List.mem_cons_of_mem _ (List.mem_cons_of_mem _ (List.mem_cons_of_mem _ (List.mem_cons_of_mem _ (List.mem_cons_of_mem _ (List.mem_cons_of_mem _ (List.mem_cons_of_mem _ (List.mem_cons_of_mem _ (List.mem_cons_of_mem _ (List.mem_cons_of_mem _ (List.mem_cons_of_mem _ List.mem_cons_self))))))))))))))) (sub_cons (List.mem_cons_of_mem _ (List.mem_cons_of_mem _ (List.mem_cons_of_mem _ (List.mem_cons_of_mem _ (List.mem_cons_of_mem _ (List.mem_cons_of_mem _ (List.mem_cons_of_mem _ (List.mem_cons_of_mem _ (List.mem_cons_of_mem _ (List.mem_cons_of_mem _ (List.mem_cons_of_mem _ (List.mem_cons_of_mem _ (List.mem_cons_of_mem _ (List.mem_cons_of_mem _ (List.mem_cons_of_mem _ (List.mem_cons_of_mem _ List.mem_cons_self)))))))))))))))) (sub_cons (List.mem_cons_of_mem _ (List.mem_cons_of_mem _ (List.mem_cons_of_mem _ (List.mem_cons_of_mem _ (List.mem_cons_of_mem _ (List.mem_cons_of_mem _ (List.mem_cons_of_mem _ (List.mem_cons_of_mem _ (List.mem_cons_of_mem _ (List.mem_cons_of_mem _ (List.mem_cons_of_mem _ (List.mem_cons_of_mem _ (List.mem_cons_of_mem _ (List.mem_cons_of_mem _ (List.mem_cons_of_mem _ (List.mem_cons_of_mem _ (List.mem_cons_of_mem _ List.mem_cons_self))))))))))))))))) (sub_cons (List.mem_cons_of_mem _ (List.mem_cons_of_mem _ (List.mem_cons_of_mem _ (List.mem_cons_of_mem _ (List.mem_cons_of_mem _ (List.mem_cons_of_mem _ (List.mem_cons_of_mem _ (List.mem_cons_of_mem _ (List.mem_cons_of_mem _ (List.mem_cons_of_mem _ (List.mem_cons_of_mem _ (List.mem_cons_of_mem _ (List.mem_cons_of_mem _ (List.mem_cons_of_mem _ (List.mem_cons_of_mem _ (List.mem_cons_of_mem _ (List.mem_cons_of_mem _ (List.mem_cons_of_mem _ List.mem_cons_self)))))))))))))))))) (sub_cons (List.mem_cons_of_mem _ (List.mem_cons_of_mem _ (List.mem_cons_of_mem _ (List.mem_cons_of_mem _ (List.mem_cons_of_mem _ (List.mem_cons_of_mem _ (List.mem_cons_of_mem _ (List.mem_cons_of_mem _ (List.mem_cons_of_mem _ (List.mem_cons_of_mem _ (List.mem_cons_of_mem _ (List.mem_cons_of_mem _ (List.mem_cons_of_mem _ (List.mem_cons_of_mem _ (List.mem_cons_of_mem _ (List.mem_cons_of_mem _ (List.mem_cons_of_mem _ (List.mem_cons_of_mem _ (List.mem_cons_of_mem _ List.mem_cons_self))))))))))))))))))) (sub_cons (List.mem_cons_of_mem _ (List.mem_cons_of_mem _ (List.mem_cons_of_mem _ (List.mem_cons_of_mem _ (List.mem_cons_of_mem _ (List.mem_cons_of_mem _ (List.mem_cons_of_mem _ (List.mem_cons_of_mem _ (List.mem_cons_of_mem _ (List.mem_cons_of_mem _ (List.mem_cons_of_mem _ (List.mem_cons_of_mem _ (List.mem_cons_of_mem _ (List.mem_cons_of_mem _ (List.mem_cons_of_mem _ (List.mem_cons_of_mem _ (List.mem_cons_of_mem _ (List.mem_cons_of_mem _ (List.mem_cons_of_mem _ (List.mem_cons_of_mem _ List.mem_cons_self)))))))))))))))))))) (sub_cons (List.mem_cons_of_mem _ (List.mem_cons_of_mem _ (List.mem_cons_of_mem _ (List.mem_cons_of_mem _ (List.mem_cons_of_mem _ (List.mem_cons_of_mem _ (List.mem_cons_of_mem _ (List.mem_cons_of_mem _ (List.mem_cons_of_mem _ (List.mem_cons_of_mem _ (List.mem_cons_of_mem _ (List.mem_cons_of_mem _ (List.mem_cons_of_mem _ (List.mem_cons_of_mem _ (List.mem_cons_of_mem _ (List.mem_cons_of_mem _ (List.mem_cons_of_mem _ (List.mem_cons_of_mem _ (List.mem_cons_of_mem _ (List.mem_cons_of_mem _ (List.mem_cons_of_mem _ List.mem_cons_self))))))))))))))))))))) (sub_cons (List.mem_cons_of_mem _ (List.mem_cons_of_mem _ (List.mem_cons_of_mem _ (List.mem_cons_of_mem _ (List.mem_cons_of_mem _ (List.mem_cons_of_mem _ (List.mem_cons_of_mem _ (List.mem_cons_of_mem _ (List.mem_cons_of_mem _ (List.mem_cons_of_mem _ (List.mem_cons_of_mem _ (List.mem_cons_of_mem _ (List.mem_cons_of_mem _ (List.mem_cons_of_mem _ (List.mem_cons_of_mem _ (List.mem_cons_of_mem _ (List.mem_cons_of_mem _ (List.mem_cons_of_mem _ (List.mem_cons_of_mem _ (List.mem_cons_of_mem _ (List.mem_cons_of_mem _ (List.mem_cons_of_mem _ List.mem_cons_self)))))))))))))))))))))) (sub_cons (List.mem_cons_of_mem _ (List.mem_cons_of_mem _ (List.mem_cons_of_mem _ (List.mem_cons_of_mem _ (List.mem_cons_of_mem _ (List.mem_cons_of_mem _ (List.mem_cons_of_mem _ (List.mem_cons_of_mem _ (List.mem_cons_of_mem _ (List.mem_cons_of_mem _ (List.mem_cons_of_mem _ (List.mem_cons_of_mem _ (List.mem_cons_of_mem _ (List.mem_cons_of_mem _ (List.mem_cons_of_mem _ (List.mem_cons_of_mem _ (List.mem_cons_of_mem _ (List.mem_cons_of_mem _ (List.mem_cons_of_mem _ (List.mem_cons_of_mem _ (List.mem_cons_of_mem _ (List.mem_cons_of_mem _ (List.mem_cons_of_mem _ List.mem_cons_self))))))))))))))))))))))) sub_nil))))))))))))))))))
  obtain ⟨xx, hxx, hx4⟩ := hSo0.2.2.2.2.1
  have h1 : f le = some (.inl (cI G, 16, .inl (jE (e8r S0.1 S0.2.1 S0.2.2.1 S0.2.2.2.1 S0.2.2.2.2.1 S0.2.2.2.2.2.1 S0.2.2.2.2.2.2.1 (nI S0.2.2.2.2.2.2.2.2.length)) (eSt S1)))) := k_le
  refine lv_aload hx hb dL_links_390 (lv_at hl9 13 rfl) ?_
  refine lv_iload hx hb dL_links_392 (lv_at hl9 2 rfl) ?_
  refine hp_iald B0 hw h1 (by unfold vp_in; decide) dL_links_394 ?_
  refine hp_c (v := S0.1) (rfl) ?_
  refine lv_if_le (tgt := 425) hx hb dL_links_395 (by decide) (fun c2 => ?_) (fun c2 => ?_)
  · refine lv_bipush (v := 6) hx hb dL_links_425 (by decide) ?_
    refine lv_iload hx hb dL_links_427 (lv_at hl9 3 rfl) ?_
    refine lv_imul hx hb dL_links_429 ?_
    refine hp_c (v := 0) (by decide) ?_
    refine lv_istore (lv' := [(14, .int 0), (13, .int (nI j13)), (12, .ref lx), (11, .int 0), (10, .int 0), (0, .ref xo), (1, .int (nI ac)), (2, .int u), (3, .int z), (4, .ref lx), (5, .ref ly), (6, .ref lw), (7, .ref la), (8, .ref lq), (9, .ref le)]) hx hb dL_links_430 hl9 (by decide) rfl (fun ls hl9 => ?_)
    refine lv_iload hx hb dL_links_432 (lv_at hl9 0 rfl) ?_
    refine lv_bipush (v := 6) hx hb dL_links_434 (by decide) ?_
    refine lv_iload hx hb dL_links_436 (lv_at hl9 4 rfl) ?_
    refine lv_imul hx hb dL_links_438 ?_
    refine hp_c (v := 0) (by decide) ?_
    refine lv_bipush (v := 6) hx hb dL_links_439 (by decide) ?_
    refine lv_iadd hx hb dL_links_441 ?_
    refine hp_c (v := 6) (by decide) ?_
    refine lv_icmp_ge (tgt := 461) hx hb dL_links_442 (by decide) (fun c9 => absurd c9 (by decide)) (fun _ => ?_)
    refine lv_aload hx hb dL_links_445 (lv_at hl9 13 rfl) ?_
    refine lv_iload hx hb dL_links_447 (lv_at hl9 0 rfl) ?_
    refine lv_aload hx hb dL_links_449 (lv_at hl9 11 rfl) ?_
    refine lv_iload hx hb dL_links_451 (lv_at hl9 0 rfl) ?_
    refine hp_iald B0 hw k_lw (by unfold vp_in; decide) dL_links_453 ?_
    refine hp_c (v := (gw0 0)) (rfl) ?_
    refine hp_iast B0 hw hS k_lq (by unfold vp_in; decide) dL_links_454 (fun H locs f3 ef3 hw hS => ?_)
    rw [show (upd (j6r S0.2.2.2.2.2.2.2.1 S1.2.2.2.2.2.2.2.1) (0 : Int32).toNatClampNeg (gw0 0) : Nat → Int32) = (j6r (upd S0.2.2.2.2.2.2.2.1 0 (gw0 0)) S1.2.2.2.2.2.2.2.1) from (by rw [show (0 : Int32).toNatClampNeg = 0 from rfl, j6_u0 (by omega)])] at ef3
    have h4 : f3 lq = some (.inl (cI G, 12, .inl (j6r (upd S0.2.2.2.2.2.2.2.1 0 (gw0 0)) S1.2.2.2.2.2.2.2.1))) := by rw [ef3, va_up_self]
    refine lv_iinc (v := 1) (lv' := [(14, .int 1), (13, .int (nI j13)), (12, .ref lx), (11, .int 0), (10, .int 0), (0, .ref xo), (1, .int (nI ac)), (2, .int u), (3, .int z), (4, .ref lx), (5, .ref ly), (6, .ref lw), (7, .ref la), (8, .ref lq), (9, .ref le)]) hx hb dL_links_455 hl9 (k := 0) rfl (by decide) (by decide) rfl (fun ls hl9 => ?_)
    refine lv_goto (tgt := 432) hx hb dL_links_458 (by decide) ?_
    refine lv_iload hx hb dL_links_432 (lv_at hl9 0 rfl) ?_
    refine lv_bipush (v := 6) hx hb dL_links_434 (by decide) ?_
    refine lv_iload hx hb dL_links_436 (lv_at hl9 4 rfl) ?_
    refine lv_imul hx hb dL_links_438 ?_
    refine hp_c (v := 0) (by decide) ?_
    refine lv_bipush (v := 6) hx hb dL_links_439 (by decide) ?_
    refine lv_iadd hx hb dL_links_441 ?_
    refine hp_c (v := 6) (by decide) ?_
    refine lv_icmp_ge (tgt := 461) hx hb dL_links_442 (by decide) (fun c9 => absurd c9 (by decide)) (fun _ => ?_)
    refine lv_aload hx hb dL_links_445 (lv_at hl9 13 rfl) ?_
    refine lv_iload hx hb dL_links_447 (lv_at hl9 0 rfl) ?_
    refine lv_aload hx hb dL_links_449 (lv_at hl9 11 rfl) ?_
    refine lv_iload hx hb dL_links_451 (lv_at hl9 0 rfl) ?_
    have h5 : f3 lw = some (.inl (cI G, 12, .inl (j6r gw0 gw1))) := by rw [ef3, va_up_ne _ _ n_lw_lq]; exact k_lw
    refine hp_iald B0 hw h5 (by unfold vp_in; decide) dL_links_453 ?_
    refine hp_c (v := (gw0 1)) (rfl) ?_
    refine hp_iast B0 hw hS h4 (by unfold vp_in; decide) dL_links_454 (fun H locs f6 ef6 hw hS => ?_)
    rw [show (upd (j6r (upd S0.2.2.2.2.2.2.2.1 0 (gw0 0)) S1.2.2.2.2.2.2.2.1) (1 : Int32).toNatClampNeg (gw0 1) : Nat → Int32) = (j6r (upd (upd S0.2.2.2.2.2.2.2.1 0 (gw0 0)) 1 (gw0 1)) S1.2.2.2.2.2.2.2.1) from (by rw [show (1 : Int32).toNatClampNeg = 1 from rfl, j6_u0 (by omega)])] at ef6
    have e7 : f6 = va_up f lq (some (.inl (cI G, 12, .inl (j6r (upd (upd S0.2.2.2.2.2.2.2.1 0 (gw0 0)) 1 (gw0 1)) S1.2.2.2.2.2.2.2.1)))) := by rw [ef6, ef3, bx_uu]
    have h8 : f6 lq = some (.inl (cI G, 12, .inl (j6r (upd (upd S0.2.2.2.2.2.2.2.1 0 (gw0 0)) 1 (gw0 1)) S1.2.2.2.2.2.2.2.1))) := by rw [ef6, va_up_self]
    refine lv_iinc (v := 2) (lv' := [(14, .int 2), (13, .int (nI j13)), (12, .ref lx), (11, .int 0), (10, .int 0), (0, .ref xo), (1, .int (nI ac)), (2, .int u), (3, .int z), (4, .ref lx), (5, .ref ly), (6, .ref lw), (7, .ref la), (8, .ref lq), (9, .ref le)]) hx hb dL_links_455 hl9 (k := 0) rfl (by decide) (by decide) rfl (fun ls hl9 => ?_)
    refine lv_goto (tgt := 432) hx hb dL_links_458 (by decide) ?_
    refine lv_iload hx hb dL_links_432 (lv_at hl9 0 rfl) ?_
    refine lv_bipush (v := 6) hx hb dL_links_434 (by decide) ?_
    refine lv_iload hx hb dL_links_436 (lv_at hl9 4 rfl) ?_
    refine lv_imul hx hb dL_links_438 ?_
    refine hp_c (v := 0) (by decide) ?_
    refine lv_bipush (v := 6) hx hb dL_links_439 (by decide) ?_
    refine lv_iadd hx hb dL_links_441 ?_
    refine hp_c (v := 6) (by decide) ?_
    refine lv_icmp_ge (tgt := 461) hx hb dL_links_442 (by decide) (fun c9 => absurd c9 (by decide)) (fun _ => ?_)
    refine lv_aload hx hb dL_links_445 (lv_at hl9 13 rfl) ?_
    refine lv_iload hx hb dL_links_447 (lv_at hl9 0 rfl) ?_
    refine lv_aload hx hb dL_links_449 (lv_at hl9 11 rfl) ?_
    refine lv_iload hx hb dL_links_451 (lv_at hl9 0 rfl) ?_
    have h10 : f6 lw = some (.inl (cI G, 12, .inl (j6r gw0 gw1))) := by rw [e7, va_up_ne _ _ n_lw_lq]; exact k_lw
    refine hp_iald B0 hw h10 (by unfold vp_in; decide) dL_links_453 ?_
    refine hp_c (v := (gw0 2)) (rfl) ?_
    refine hp_iast B0 hw hS h8 (by unfold vp_in; decide) dL_links_454 (fun H locs f11 ef11 hw hS => ?_)
    rw [show (upd (j6r (upd (upd S0.2.2.2.2.2.2.2.1 0 (gw0 0)) 1 (gw0 1)) S1.2.2.2.2.2.2.2.1) (2 : Int32).toNatClampNeg (gw0 2) : Nat → Int32) = (j6r (upd (upd (upd S0.2.2.2.2.2.2.2.1 0 (gw0 0)) 1 (gw0 1)) 2 (gw0 2)) S1.2.2.2.2.2.2.2.1) from (by rw [show (2 : Int32).toNatClampNeg = 2 from rfl, j6_u0 (by omega)])] at ef11
    have e12 : f11 = va_up f lq (some (.inl (cI G, 12, .inl (j6r (upd (upd (upd S0.2.2.2.2.2.2.2.1 0 (gw0 0)) 1 (gw0 1)) 2 (gw0 2)) S1.2.2.2.2.2.2.2.1)))) := by rw [ef11, e7, bx_uu]
    have h13 : f11 lq = some (.inl (cI G, 12, .inl (j6r (upd (upd (upd S0.2.2.2.2.2.2.2.1 0 (gw0 0)) 1 (gw0 1)) 2 (gw0 2)) S1.2.2.2.2.2.2.2.1))) := by rw [ef11, va_up_self]
    refine lv_iinc (v := 3) (lv' := [(14, .int 3), (13, .int (nI j13)), (12, .ref lx), (11, .int 0), (10, .int 0), (0, .ref xo), (1, .int (nI ac)), (2, .int u), (3, .int z), (4, .ref lx), (5, .ref ly), (6, .ref lw), (7, .ref la), (8, .ref lq), (9, .ref le)]) hx hb dL_links_455 hl9 (k := 0) rfl (by decide) (by decide) rfl (fun ls hl9 => ?_)
    refine lv_goto (tgt := 432) hx hb dL_links_458 (by decide) ?_
    refine lv_iload hx hb dL_links_432 (lv_at hl9 0 rfl) ?_
    refine lv_bipush (v := 6) hx hb dL_links_434 (by decide) ?_
    refine lv_iload hx hb dL_links_436 (lv_at hl9 4 rfl) ?_
    refine lv_imul hx hb dL_links_438 ?_
    refine hp_c (v := 0) (by decide) ?_
    refine lv_bipush (v := 6) hx hb dL_links_439 (by decide) ?_
    refine lv_iadd hx hb dL_links_441 ?_
    refine hp_c (v := 6) (by decide) ?_
    refine lv_icmp_ge (tgt := 461) hx hb dL_links_442 (by decide) (fun c9 => absurd c9 (by decide)) (fun _ => ?_)
    refine lv_aload hx hb dL_links_445 (lv_at hl9 13 rfl) ?_
    refine lv_iload hx hb dL_links_447 (lv_at hl9 0 rfl) ?_
    refine lv_aload hx hb dL_links_449 (lv_at hl9 11 rfl) ?_
    refine lv_iload hx hb dL_links_451 (lv_at hl9 0 rfl) ?_
    have h14 : f11 lw = some (.inl (cI G, 12, .inl (j6r gw0 gw1))) := by rw [e12, va_up_ne _ _ n_lw_lq]; exact k_lw
    refine hp_iald B0 hw h14 (by unfold vp_in; decide) dL_links_453 ?_
    refine hp_c (v := (gw0 3)) (rfl) ?_
    refine hp_iast B0 hw hS h13 (by unfold vp_in; decide) dL_links_454 (fun H locs f15 ef15 hw hS => ?_)
    rw [show (upd (j6r (upd (upd (upd S0.2.2.2.2.2.2.2.1 0 (gw0 0)) 1 (gw0 1)) 2 (gw0 2)) S1.2.2.2.2.2.2.2.1) (3 : Int32).toNatClampNeg (gw0 3) : Nat → Int32) = (j6r (upd (upd (upd (upd S0.2.2.2.2.2.2.2.1 0 (gw0 0)) 1 (gw0 1)) 2 (gw0 2)) 3 (gw0 3)) S1.2.2.2.2.2.2.2.1) from (by rw [show (3 : Int32).toNatClampNeg = 3 from rfl, j6_u0 (by omega)])] at ef15
    have e16 : f15 = va_up f lq (some (.inl (cI G, 12, .inl (j6r (upd (upd (upd (upd S0.2.2.2.2.2.2.2.1 0 (gw0 0)) 1 (gw0 1)) 2 (gw0 2)) 3 (gw0 3)) S1.2.2.2.2.2.2.2.1)))) := by rw [ef15, e12, bx_uu]
    have h17 : f15 lq = some (.inl (cI G, 12, .inl (j6r (upd (upd (upd (upd S0.2.2.2.2.2.2.2.1 0 (gw0 0)) 1 (gw0 1)) 2 (gw0 2)) 3 (gw0 3)) S1.2.2.2.2.2.2.2.1))) := by rw [ef15, va_up_self]
    refine lv_iinc (v := 4) (lv' := [(14, .int 4), (13, .int (nI j13)), (12, .ref lx), (11, .int 0), (10, .int 0), (0, .ref xo), (1, .int (nI ac)), (2, .int u), (3, .int z), (4, .ref lx), (5, .ref ly), (6, .ref lw), (7, .ref la), (8, .ref lq), (9, .ref le)]) hx hb dL_links_455 hl9 (k := 0) rfl (by decide) (by decide) rfl (fun ls hl9 => ?_)
    refine lv_goto (tgt := 432) hx hb dL_links_458 (by decide) ?_
    refine lv_iload hx hb dL_links_432 (lv_at hl9 0 rfl) ?_
    refine lv_bipush (v := 6) hx hb dL_links_434 (by decide) ?_
    refine lv_iload hx hb dL_links_436 (lv_at hl9 4 rfl) ?_
    refine lv_imul hx hb dL_links_438 ?_
    refine hp_c (v := 0) (by decide) ?_
    refine lv_bipush (v := 6) hx hb dL_links_439 (by decide) ?_
    refine lv_iadd hx hb dL_links_441 ?_
    refine hp_c (v := 6) (by decide) ?_
    refine lv_icmp_ge (tgt := 461) hx hb dL_links_442 (by decide) (fun c9 => absurd c9 (by decide)) (fun _ => ?_)
    refine lv_aload hx hb dL_links_445 (lv_at hl9 13 rfl) ?_
    refine lv_iload hx hb dL_links_447 (lv_at hl9 0 rfl) ?_
    refine lv_aload hx hb dL_links_449 (lv_at hl9 11 rfl) ?_
    refine lv_iload hx hb dL_links_451 (lv_at hl9 0 rfl) ?_
    have h18 : f15 lw = some (.inl (cI G, 12, .inl (j6r gw0 gw1))) := by rw [e16, va_up_ne _ _ n_lw_lq]; exact k_lw
    refine hp_iald B0 hw h18 (by unfold vp_in; decide) dL_links_453 ?_
    refine hp_c (v := (gw0 4)) (rfl) ?_
    refine hp_iast B0 hw hS h17 (by unfold vp_in; decide) dL_links_454 (fun H locs f19 ef19 hw hS => ?_)
    rw [show (upd (j6r (upd (upd (upd (upd S0.2.2.2.2.2.2.2.1 0 (gw0 0)) 1 (gw0 1)) 2 (gw0 2)) 3 (gw0 3)) S1.2.2.2.2.2.2.2.1) (4 : Int32).toNatClampNeg (gw0 4) : Nat → Int32) = (j6r (upd (upd (upd (upd (upd S0.2.2.2.2.2.2.2.1 0 (gw0 0)) 1 (gw0 1)) 2 (gw0 2)) 3 (gw0 3)) 4 (gw0 4)) S1.2.2.2.2.2.2.2.1) from (by rw [show (4 : Int32).toNatClampNeg = 4 from rfl, j6_u0 (by omega)])] at ef19
    have e20 : f19 = va_up f lq (some (.inl (cI G, 12, .inl (j6r (upd (upd (upd (upd (upd S0.2.2.2.2.2.2.2.1 0 (gw0 0)) 1 (gw0 1)) 2 (gw0 2)) 3 (gw0 3)) 4 (gw0 4)) S1.2.2.2.2.2.2.2.1)))) := by rw [ef19, e16, bx_uu]
    have h21 : f19 lq = some (.inl (cI G, 12, .inl (j6r (upd (upd (upd (upd (upd S0.2.2.2.2.2.2.2.1 0 (gw0 0)) 1 (gw0 1)) 2 (gw0 2)) 3 (gw0 3)) 4 (gw0 4)) S1.2.2.2.2.2.2.2.1))) := by rw [ef19, va_up_self]
    refine lv_iinc (v := 5) (lv' := [(14, .int 5), (13, .int (nI j13)), (12, .ref lx), (11, .int 0), (10, .int 0), (0, .ref xo), (1, .int (nI ac)), (2, .int u), (3, .int z), (4, .ref lx), (5, .ref ly), (6, .ref lw), (7, .ref la), (8, .ref lq), (9, .ref le)]) hx hb dL_links_455 hl9 (k := 0) rfl (by decide) (by decide) rfl (fun ls hl9 => ?_)
    refine lv_goto (tgt := 432) hx hb dL_links_458 (by decide) ?_
    refine lv_iload hx hb dL_links_432 (lv_at hl9 0 rfl) ?_
    refine lv_bipush (v := 6) hx hb dL_links_434 (by decide) ?_
    refine lv_iload hx hb dL_links_436 (lv_at hl9 4 rfl) ?_
    refine lv_imul hx hb dL_links_438 ?_
    refine hp_c (v := 0) (by decide) ?_
    refine lv_bipush (v := 6) hx hb dL_links_439 (by decide) ?_
    refine lv_iadd hx hb dL_links_441 ?_
    refine hp_c (v := 6) (by decide) ?_
    refine lv_icmp_ge (tgt := 461) hx hb dL_links_442 (by decide) (fun c9 => absurd c9 (by decide)) (fun _ => ?_)
    refine lv_aload hx hb dL_links_445 (lv_at hl9 13 rfl) ?_
    refine lv_iload hx hb dL_links_447 (lv_at hl9 0 rfl) ?_
    refine lv_aload hx hb dL_links_449 (lv_at hl9 11 rfl) ?_
    refine lv_iload hx hb dL_links_451 (lv_at hl9 0 rfl) ?_
    have h22 : f19 lw = some (.inl (cI G, 12, .inl (j6r gw0 gw1))) := by rw [e20, va_up_ne _ _ n_lw_lq]; exact k_lw
    refine hp_iald B0 hw h22 (by unfold vp_in; decide) dL_links_453 ?_
    refine hp_c (v := (gw0 5)) (rfl) ?_
    refine hp_iast B0 hw hS h21 (by unfold vp_in; decide) dL_links_454 (fun H locs f23 ef23 hw hS => ?_)
    rw [show (upd (j6r (upd (upd (upd (upd (upd S0.2.2.2.2.2.2.2.1 0 (gw0 0)) 1 (gw0 1)) 2 (gw0 2)) 3 (gw0 3)) 4 (gw0 4)) S1.2.2.2.2.2.2.2.1) (5 : Int32).toNatClampNeg (gw0 5) : Nat → Int32) = (j6r (cpyF gw0 S0.2.2.2.2.2.2.2.1) S1.2.2.2.2.2.2.2.1) from (by rw [show (5 : Int32).toNatClampNeg = 5 from rfl, j6_u0 (by omega), cpy6])] at ef23
    have e24 : f23 = va_up f lq (some (.inl (cI G, 12, .inl (j6r (cpyF gw0 S0.2.2.2.2.2.2.2.1) S1.2.2.2.2.2.2.2.1)))) := by rw [ef23, e20, bx_uu]
    have h25 : f23 lq = some (.inl (cI G, 12, .inl (j6r (cpyF gw0 S0.2.2.2.2.2.2.2.1) S1.2.2.2.2.2.2.2.1))) := by rw [ef23, va_up_self]
    refine lv_iinc (v := 6) (lv' := [(14, .int 6), (13, .int (nI j13)), (12, .ref lx), (11, .int 0), (10, .int 0), (0, .ref xo), (1, .int (nI ac)), (2, .int u), (3, .int z), (4, .ref lx), (5, .ref ly), (6, .ref lw), (7, .ref la), (8, .ref lq), (9, .ref le)]) hx hb dL_links_455 hl9 (k := 0) rfl (by decide) (by decide) rfl (fun ls hl9 => ?_)
    refine lv_goto (tgt := 432) hx hb dL_links_458 (by decide) ?_
    refine lv_iload hx hb dL_links_432 (lv_at hl9 0 rfl) ?_
    refine lv_bipush (v := 6) hx hb dL_links_434 (by decide) ?_
    refine lv_iload hx hb dL_links_436 (lv_at hl9 4 rfl) ?_
    refine lv_imul hx hb dL_links_438 ?_
    refine hp_c (v := 0) (by decide) ?_
    refine lv_bipush (v := 6) hx hb dL_links_439 (by decide) ?_
    refine lv_iadd hx hb dL_links_441 ?_
    refine hp_c (v := 6) (by decide) ?_
    refine lv_icmp_ge (tgt := 461) hx hb dL_links_442 (by decide) (fun _ => ?_) (fun c9 => absurd (by decide) c9)
    refine lv_aload hx hb dL_links_461 (lv_at hl9 14 rfl) ?_
    refine lv_iload hx hb dL_links_463 (lv_at hl9 3 rfl) ?_
    refine lv_iconst (v := 1) hx hb dL_links_465 (by decide) ?_
    have h26 : f23 le = some (.inl (cI G, 16, .inl (jE (e8r S0.1 S0.2.1 S0.2.2.1 S0.2.2.2.1 S0.2.2.2.2.1 S0.2.2.2.2.2.1 S0.2.2.2.2.2.2.1 (nI S0.2.2.2.2.2.2.2.2.length)) (eSt S1)))) := by rw [e24, va_up_ne _ _ (Ne.symm n_lq_le)]; exact h1
    refine hp_iast B0 hw hS h26 (by unfold vp_in; decide) dL_links_466 (fun H locs f27 ef27 hw hS => ?_)
    rw [show (upd (jE (e8r S0.1 S0.2.1 S0.2.2.1 S0.2.2.2.1 S0.2.2.2.2.1 S0.2.2.2.2.2.1 S0.2.2.2.2.2.2.1 (nI S0.2.2.2.2.2.2.2.2.length)) (eSt S1)) (0 : Int32).toNatClampNeg 1 : Nat → Int32) = (jE (e8r 1 S0.2.1 S0.2.2.1 S0.2.2.2.1 S0.2.2.2.2.1 S0.2.2.2.2.2.1 S0.2.2.2.2.2.2.1 (nI S0.2.2.2.2.2.2.2.2.length)) (eSt S1)) from (by rw [show (0 : Int32).toNatClampNeg = 0 from rfl, jE_u0 (by omega), e8_u0])] at ef27
    have h28 : f27 le = some (.inl (cI G, 16, .inl (jE (e8r 1 S0.2.1 S0.2.2.1 S0.2.2.2.1 S0.2.2.2.2.1 S0.2.2.2.2.2.1 S0.2.2.2.2.2.2.1 (nI S0.2.2.2.2.2.2.2.2.length)) (eSt S1)))) := by rw [ef27, va_up_self]
    refine lv_aload hx hb dL_links_467 (lv_at hl9 14 rfl) ?_
    refine lv_iload hx hb dL_links_469 (lv_at hl9 3 rfl) ?_
    refine lv_iconst (v := 2) hx hb dL_links_471 (by decide) ?_
    refine lv_iadd hx hb dL_links_472 ?_
    refine hp_c (v := 2) (by decide) ?_
    refine lv_iconst (v := 0) hx hb dL_links_473 (by decide) ?_
    refine hp_iast B0 hw hS h28 (by unfold vp_in; decide) dL_links_474 (fun H locs f29 ef29 hw hS => ?_)
    rw [show (upd (jE (e8r 1 S0.2.1 S0.2.2.1 S0.2.2.2.1 S0.2.2.2.2.1 S0.2.2.2.2.2.1 S0.2.2.2.2.2.2.1 (nI S0.2.2.2.2.2.2.2.2.length)) (eSt S1)) (2 : Int32).toNatClampNeg 0 : Nat → Int32) = (jE (e8r 1 S0.2.1 0 S0.2.2.2.1 S0.2.2.2.2.1 S0.2.2.2.2.2.1 S0.2.2.2.2.2.2.1 (nI S0.2.2.2.2.2.2.2.2.length)) (eSt S1)) from (by rw [show (2 : Int32).toNatClampNeg = 2 from rfl, jE_u0 (by omega), e8_u2])] at ef29
    have e30 : f29 = va_up f23 le (some (.inl (cI G, 16, .inl (jE (e8r 1 S0.2.1 0 S0.2.2.2.1 S0.2.2.2.2.1 S0.2.2.2.2.2.1 S0.2.2.2.2.2.2.1 (nI S0.2.2.2.2.2.2.2.2.length)) (eSt S1))))) := by rw [ef29, ef27, bx_uu]
    have h31 : f29 le = some (.inl (cI G, 16, .inl (jE (e8r 1 S0.2.1 0 S0.2.2.2.1 S0.2.2.2.2.1 S0.2.2.2.2.2.1 S0.2.2.2.2.2.2.1 (nI S0.2.2.2.2.2.2.2.2.length)) (eSt S1)))) := by rw [ef29, va_up_self]
    obtain ⟨h40a, h40b⟩ := hact (fun e9 => by subst e9; exact absurd (by decide) hc)
    refine lv_aload hx hb dL_links_475 (lv_at hl9 2 rfl) ?_
    refine lv_aload hx hb dL_links_477 (lv_at hl9 13 rfl) ?_
    refine lv_aload hx hb dL_links_479 (lv_at hl9 14 rfl) ?_
    refine lv_iload hx hb dL_links_481 (lv_at hl9 4 rfl) ?_
    have h32 : f23 lx = some (.inl (cJ G, 64, .inr (.inl xs0))) := by rw [e24, va_up_ne _ _ n_lx_lq]; exact k_lx
    have h33 : f29 lx = some (.inl (cJ G, 64, .inr (.inl xs0))) := by rw [e30, va_up_ne _ _ n_lx_le]; exact h32
    have h34 : f29 lq = some (.inl (cI G, 12, .inl (j6r (cpyF gw0 S0.2.2.2.2.2.2.2.1) S1.2.2.2.2.2.2.2.1))) := by rw [e30, va_up_ne _ _ n_lq_le]; exact h25
    refine hp_S (As := [.ref lx, .ref lq, .ref le, .int 0]) (rest := []) B0 hw hS (c_L_beg_0 hl G f29 lx lq le 1 S0.2.1 0 S0.2.2.2.1 S0.2.2.2.2.1 S0.2.2.2.2.2.1 S0.2.2.2.2.2.2.1 (cpyF gw0 S0.2.2.2.2.2.2.2.1) S0.2.2.2.2.2.2.2.2 (eSt S1) S1.2.2.2.2.2.2.2.1 b (SOK.opn0 hSo0 hgw0) (by omega) xs0 hX0 (Nat.lt_of_le_of_lt hl0 (by decide)) h33 h34 h31) mS_L_beg qM_L_86 rfl rfl hl9.1 (Nat.le_of_ble_eq_true rfl) ⟨⟨Nat.le_of_ble_eq_true rfl, Nat.le_of_ble_eq_true rfl⟩, Nat.le_of_ble_eq_true rfl, Nat.le_of_ble_eq_true rfl⟩ dL_links_483 (fun E ce q9 f35 H locs hPX hw hS hce hcv hcl => ?_) (fun v f35 H locs hP hw hS => ?_)
    · exact hPX.elim
    · obtain ⟨ev9, ⟨xs36, h37, hX38⟩, h39, k40⟩ := hP
      subst ev9
      have h41 : f35 le = some (.inl (cI G, 16, .inl (jE (e8r ((openS gw0 S0).1) ((openS gw0 S0).2.1) ((openS gw0 S0).2.2.1) ((openS gw0 S0).2.2.2.1) ((openS gw0 S0).2.2.2.2.1) ((openS gw0 S0).2.2.2.2.2.1) ((openS gw0 S0).2.2.2.2.2.2.1) (nI (openS gw0 S0).2.2.2.2.2.2.2.2.length)) (eSt S1)))) := h39
      refine W.eq (g2 := F0 m 486 ls [.int (begV (1, S0.2.1, 0, S0.2.2.2.1, S0.2.2.2.2.1, S0.2.2.2.2.2.1, S0.2.2.2.2.2.2.1, (cpyF gw0 S0.2.2.2.2.2.2.2.1), S0.2.2.2.2.2.2.2.2))]) rfl ?_
      refine lv_pop hx hb dL_links_486 rfl ?_
      refine lv_aload_n hx hb dL_links_487 rfl (lv_at hl9 5 rfl) ?_
      refine lv_iconst (v := (-1)) hx hb dL_links_488 (by decide) ?_
      have h42 : f23 ly = some (.inl (cJ G, 64, .inr (.inl xs1))) := by rw [e24, va_up_ne _ _ n_ly_lq]; exact k_ly
      have h43 : f29 ly = some (.inl (cJ G, 64, .inr (.inl xs1))) := by rw [e30, va_up_ne _ _ n_ly_le]; exact h42
      have h44 : f35 ly = some (.inl (cJ G, 64, .inr (.inl xs1))) := (hEq.k k40) _ _ h43 (ninc (Ne.symm n_lx_ly) (ninc n_ly_le nin0))
      have h45 : f23 lw = some (.inl (cI G, 12, .inl (j6r gw0 gw1))) := by rw [e24, va_up_ne _ _ n_lw_lq]; exact k_lw
      have h46 : f29 lw = some (.inl (cI G, 12, .inl (j6r gw0 gw1))) := by rw [e30, va_up_ne _ _ n_lw_le]; exact h45
      have h47 : f35 lw = some (.inl (cI G, 12, .inl (j6r gw0 gw1))) := (hEq.k k40) _ _ h46 (ninc (Ne.symm n_lx_lw) (ninc n_lw_le nin0))
      have h48 : f23 la = some (.inl (cI G, 12, .inl (j6r ga0 ga1))) := by rw [e24, va_up_ne _ _ n_la_lq]; exact k_la
      have h49 : f29 la = some (.inl (cI G, 12, .inl (j6r ga0 ga1))) := by rw [e30, va_up_ne _ _ n_la_le]; exact h48
      have h50 : f35 la = some (.inl (cI G, 12, .inl (j6r ga0 ga1))) := (hEq.k k40) _ _ h49 (ninc (Ne.symm n_lx_la) (ninc n_la_le nin0))
      have h51 : f35 lq = some (.inl (cI G, 12, .inl (j6r (cpyF gw0 S0.2.2.2.2.2.2.2.1) S1.2.2.2.2.2.2.2.1))) := (hEq.k k40) _ _ h34 (ninc (Ne.symm n_lx_lq) (ninc n_lq_le nin0))
      have hC52 : CXW G f35 xo ez eo bu nw0 na0 nq0 nr0 nw1 na1 nq1 nr1 bs bp bh bf bl bg S0 S1 gw0 ga0 gw1 ga1 n a cg x sa pk fl gv gh gl := CXW.eq hC ((show hEq [lx, ly, lw, la, lq, le] f f23 from (by rw [e24]; exact hEq.up (List.mem_cons_of_mem _ (List.mem_cons_of_mem _ (List.mem_cons_of_mem _ (List.mem_cons_of_mem _ List.mem_cons_self)))))).tr ((show hEq [lx, ly, lw, la, lq, le] f23 f29 from (by rw [e30]; exact hEq.up (List.mem_cons_of_mem _ (List.mem_cons_of_mem _ (List.mem_cons_of_mem _ (List.mem_cons_of_mem _ (List.mem_cons_of_mem _ List.mem_cons_self))))))).tr (show hEq [lx, ly, lw, la, lq, le] f29 f35 from (hEq.mono k40 (sub_cons List.mem_cons_self (sub_cons (List.mem_cons_of_mem _ (List.mem_cons_of_mem _ (List.mem_cons_of_mem _ (List.mem_cons_of_mem _ (List.mem_cons_of_mem _ List.mem_cons_self))))) sub_nil)))))) hdis (fun b9 hb9 => by
          simp only [List.mem_cons, List.not_mem_nil, or_false] at hb9
          rcases hb9 with hb9 | hb9 | hb9 | hb9 | hb9 | hb9
          · rw [hb9]; exact ⟨_, _, k_lx, h37, (Nat.ne_of_beq_eq_false rfl), (Nat.ne_of_beq_eq_false rfl)⟩
          · rw [hb9]; exact ⟨_, _, k_ly, h44, (Nat.ne_of_beq_eq_false rfl), (Nat.ne_of_beq_eq_false rfl)⟩
          · rw [hb9]; exact ⟨_, _, k_lw, h47, (Nat.ne_of_beq_eq_false rfl), (Nat.ne_of_beq_eq_false rfl)⟩
          · rw [hb9]; exact ⟨_, _, k_la, h50, (Nat.ne_of_beq_eq_false rfl), (Nat.ne_of_beq_eq_false rfl)⟩
          · rw [hb9]; exact ⟨_, _, k_lq, h51, (Nat.ne_of_beq_eq_false rfl), (Nat.ne_of_beq_eq_false rfl)⟩
          · rw [hb9]; exact ⟨_, _, h1, h41, (Nat.ne_of_beq_eq_false rfl), (Nat.ne_of_beq_eq_false rfl)⟩)
      refine hp_SH (As := [.ref xo, .int (-1)]) (rest := []) B0 hw hS (c_V_open_E hl G f35 xo ez eo bu nw0 na0 nq0 nr0 nw1 na1 nq1 nr1 bs bp bh bf bl bg S0 S1 gw0 ga0 gw1 ga1 n a cg x sa pk fl gv gh gl hC52 (Nat.lt_of_le_of_lt hl0 (by decide)) (Nat.lt_of_le_of_lt hl1 (by decide)) (-1) (by decide)) mH_L_open qM_L_106 rfl rfl hl9.1 (Nat.le_of_ble_eq_true rfl) ⟨⟨Nat.le_of_ble_eq_true rfl, Nat.le_of_ble_eq_true rfl⟩, Nat.le_of_ble_eq_true rfl, Nat.le_of_ble_eq_true rfl⟩ dL_links_489 (fun E ce q9 f53 H locs hPX hw hS hce hcv hcl => ?_) (fun v f53 H locs hP hw hS => ?_)
      · exact hPX.elim
      · obtain ⟨ev9, hC54, k55⟩ := hP
        subst ev9
        have hC54 : CXW G f53 xo ez eo bu nw0 na0 nq0 nr0 nw1 na1 nq1 nr1 bs bp bh bf bl bg S0 S1 gw0 ga0 gw1 ga1 n a cg x sa pk fl gv gh gl := hC54
        refine W.eq (g2 := F0 m 492 ls [.int (-71)]) rfl ?_
        refine lv_bipush (v := (-71)) hx hb dL_links_492 (by decide) ?_
        refine lv_icmp_ne (tgt := 517) hx hb dL_links_494 (by decide) (fun c9 => absurd (by decide) c9) (fun _ => ?_)
        refine lv_aload_n hx hb dL_links_497 rfl (lv_at hl9 5 rfl) ?_
        refine lv_iload hx hb dL_links_498 (lv_at hl9 4 rfl) ?_
        refine hp_SH (As := [.ref xo, .int 0]) (rest := []) B0 hw hS (c_V_open_0 hl G f53 xo ez eo bu nw0 na0 nq0 nr0 nw1 na1 nq1 nr1 bs bp bh bf bl bg S0 S1 gw0 ga0 gw1 ga1 n a cg x sa pk fl gv gh gl hC54 (Nat.lt_of_le_of_lt hl0 (by decide)) (Nat.lt_of_le_of_lt hl1 (by decide)) (st0_of hSo0 c2)) mH_L_open qM_L_106 rfl rfl hl9.1 (Nat.le_of_ble_eq_true rfl) ⟨⟨Nat.le_of_ble_eq_true rfl, Nat.le_of_ble_eq_true rfl⟩, Nat.le_of_ble_eq_true rfl, Nat.le_of_ble_eq_true rfl⟩ dL_links_500 (fun E ce q9 f56 H locs hPX hw hS hce hcv hcl => ?_) (fun v f56 H locs hP hw hS => ?_)
        · exact hPX.elim
        · obtain ⟨ev9, hC57, k58⟩ := hP
          subst ev9
          have hC57 : CXW G f56 xo ez eo bu nw0 na0 nq0 nr0 nw1 na1 nq1 nr1 bs bp bh bf bl bg (openS gw0 S0) S1 gw0 ga0 gw1 ga1 n a cg x sa pk fl gv gh gl := hC57
          refine W.eq (g2 := F0 m 503 ls [.int ((S0.2.1 + 1))]) rfl ?_
          refine lv_aload hx hb dL_links_503 (lv_at hl9 14 rfl) ?_
          refine lv_iload hx hb dL_links_505 (lv_at hl9 3 rfl) ?_
          refine lv_iconst (v := 1) hx hb dL_links_507 (by decide) ?_
          refine lv_iadd hx hb dL_links_508 ?_
          refine hp_c (v := 1) (by decide) ?_
          have h59 : f53 le = some (.inl (cI G, 16, .inl (jE (e8r ((openS gw0 S0).1) ((openS gw0 S0).2.1) ((openS gw0 S0).2.2.1) ((openS gw0 S0).2.2.2.1) ((openS gw0 S0).2.2.2.2.1) ((openS gw0 S0).2.2.2.2.2.1) ((openS gw0 S0).2.2.2.2.2.2.1) (nI (openS gw0 S0).2.2.2.2.2.2.2.2.length)) (eSt S1)))) := k55 _ _ h41 (Nat.ne_of_beq_eq_false rfl) (hdos _ (List.mem_cons_of_mem _ (List.mem_cons_of_mem _ (List.mem_cons_of_mem _ (List.mem_cons_of_mem _ (List.mem_cons_of_mem _ List.mem_cons_self))))))
          have h60 : f56 le = some (.inl (cI G, 16, .inl (jE (e8r ((openS gw0 S0).1) ((openS gw0 S0).2.1) ((openS gw0 S0).2.2.1) ((openS gw0 S0).2.2.2.1) ((openS gw0 S0).2.2.2.2.1) ((openS gw0 S0).2.2.2.2.2.1) ((openS gw0 S0).2.2.2.2.2.2.1) (nI (openS gw0 S0).2.2.2.2.2.2.2.2.length)) (eSt S1)))) := k58 _ _ h59 (Nat.ne_of_beq_eq_false rfl) (hdos _ (List.mem_cons_of_mem _ (List.mem_cons_of_mem _ (List.mem_cons_of_mem _ (List.mem_cons_of_mem _ (List.mem_cons_of_mem _ List.mem_cons_self))))))
          refine hp_iald B0 hw h60 (by unfold vp_in; decide) dL_links_509 ?_
          refine hp_c (v := (openS gw0 S0).2.1) (rfl) ?_
          refine lv_icmp_ne (tgt := 517) hx hb dL_links_510 (by decide) (fun c9 => absurd (openS_id gw0 S0).symm c9) (fun _ => ?_)
          refine lv_iconst (v := 1) hx hb dL_links_513 (by decide) ?_
          refine lv_goto (tgt := 518) hx hb dL_links_514 (by decide) ?_
          have h61 : f53 lx = some (.inl (cJ G, 64, .inr (.inl xs36))) := k55 _ _ h37 (Nat.ne_of_beq_eq_false rfl) (hdos _ List.mem_cons_self)
          have h62 : f56 lx = some (.inl (cJ G, 64, .inr (.inl xs36))) := k58 _ _ h61 (Nat.ne_of_beq_eq_false rfl) (hdos _ List.mem_cons_self)
          have h63 : f53 ly = some (.inl (cJ G, 64, .inr (.inl xs1))) := k55 _ _ h44 (Nat.ne_of_beq_eq_false rfl) (hdos _ (List.mem_cons_of_mem _ List.mem_cons_self))
          have h64 : f56 ly = some (.inl (cJ G, 64, .inr (.inl xs1))) := k58 _ _ h63 (Nat.ne_of_beq_eq_false rfl) (hdos _ (List.mem_cons_of_mem _ List.mem_cons_self))
          have h65 : f53 lw = some (.inl (cI G, 12, .inl (j6r gw0 gw1))) := k55 _ _ h47 (Nat.ne_of_beq_eq_false rfl) (hdos _ (List.mem_cons_of_mem _ (List.mem_cons_of_mem _ List.mem_cons_self)))
          have h66 : f56 lw = some (.inl (cI G, 12, .inl (j6r gw0 gw1))) := k58 _ _ h65 (Nat.ne_of_beq_eq_false rfl) (hdos _ (List.mem_cons_of_mem _ (List.mem_cons_of_mem _ List.mem_cons_self)))
          have h67 : f53 la = some (.inl (cI G, 12, .inl (j6r ga0 ga1))) := k55 _ _ h50 (Nat.ne_of_beq_eq_false rfl) (hdos _ (List.mem_cons_of_mem _ (List.mem_cons_of_mem _ (List.mem_cons_of_mem _ List.mem_cons_self))))
          have h68 : f56 la = some (.inl (cI G, 12, .inl (j6r ga0 ga1))) := k58 _ _ h67 (Nat.ne_of_beq_eq_false rfl) (hdos _ (List.mem_cons_of_mem _ (List.mem_cons_of_mem _ (List.mem_cons_of_mem _ List.mem_cons_self))))
          have h69 : f53 lq = some (.inl (cI G, 12, .inl (j6r (cpyF gw0 S0.2.2.2.2.2.2.2.1) S1.2.2.2.2.2.2.2.1))) := k55 _ _ h51 (Nat.ne_of_beq_eq_false rfl) (hdos _ (List.mem_cons_of_mem _ (List.mem_cons_of_mem _ (List.mem_cons_of_mem _ (List.mem_cons_of_mem _ List.mem_cons_self)))))
          have h70 : f56 lq = some (.inl (cI G, 12, .inl (j6r (cpyF gw0 S0.2.2.2.2.2.2.2.1) S1.2.2.2.2.2.2.2.1))) := k58 _ _ h69 (Nat.ne_of_beq_eq_false rfl) (hdos _ (List.mem_cons_of_mem _ (List.mem_cons_of_mem _ (List.mem_cons_of_mem _ (List.mem_cons_of_mem _ List.mem_cons_self)))))
          exact hp_zret (v := 1) B0 hw hS hr ⟨Nat.le_of_ble_eq_true rfl, Nat.le_of_ble_eq_true rfl⟩ (rfl) dL_links_518 (⟨rfl, (openS gw0 S0), S1, gw0, ga0, gw1, ga1, hC57, ⟨⟨_, h62, (show XS xs36 (openS gw0 S0).2.2.2.2.2.2.2.2 from hX38)⟩, ⟨_, h64, hX1⟩, h66, h68, (by rw [openS_gq]; exact h70), h60⟩, ⟨SOK.mono (SOK.opn hSo0 (by omega) hgw0) (by omega), SOK.mono hSo1 (by omega), hgw0, hga0, hgw1, hga1⟩, (Nat.le_trans (openS_len gw0 S0) (by omega)), hl1, ((show hKn [lx, ly, lw, la, lq, le, xo, ez, eo, bu, nw0, na0, nq0, nr0, nw1, na1, nq1, nr1, bs, bp, bh, bf, bl, bg] f f23 from (by rw [e24]; exact hKn.up (List.mem_cons_of_mem _ (List.mem_cons_of_mem _ (List.mem_cons_of_mem _ (List.mem_cons_of_mem _ List.mem_cons_self)))))).tr ((show hKn [lx, ly, lw, la, lq, le, xo, ez, eo, bu, nw0, na0, nq0, nr0, nw1, na1, nq1, nr1, bs, bp, bh, bf, bl, bg] f23 f29 from (by rw [e30]; exact hKn.up (List.mem_cons_of_mem _ (List.mem_cons_of_mem _ (List.mem_cons_of_mem _ (List.mem_cons_of_mem _ (List.mem_cons_of_mem _ List.mem_cons_self))))))).tr ((show hKn [lx, ly, lw, la, lq, le, xo, ez, eo, bu, nw0, na0, nq0, nr0, nw1, na1, nq1, nr1, bs, bp, bh, bf, bl, bg] f29 f35 from (hKn.mono (hKn.eq k40) (sub_cons List.mem_cons_self (sub_cons (List.mem_cons_of_mem _ (List.mem_cons_of_mem _ (List.mem_cons_of_mem _ (List.mem_cons_of_mem _ (List.mem_cons_of_mem _ List.mem_cons_self))))) sub_nil)))).tr ((show hKn [lx, ly, lw, la, lq, le, xo, ez, eo, bu, nw0, na0, nq0, nr0, nw1, na1, nq1, nr1, bs, bp, bh, bf, bl, bg] f35 f53 from (hKn.mono k55 sbA)).tr (show hKn [lx, ly, lw, la, lq, le, xo, ez, eo, bu, nw0, na0, nq0, nr0, nw1, na1, nq1, nr1, bs, bp, bh, bf, bl, bg] f53 f56 from (hKn.mono k58 sbA))))))⟩)
  · refine lv_aload_n hx hb dL_links_398 rfl (lv_at hl9 4 rfl) ?_
    refine lv_iload hx hb dL_links_399 (lv_at hl9 3 rfl) ?_
    refine hp_SH (As := [.ref xo, .int 0]) (rest := []) B0 hw hS (c_V_open_S0 hl G f xo ez eo bu nw0 na0 nq0 nr0 nw1 na1 nq1 nr1 bs bp bh bf bl bg S0 S1 gw0 ga0 gw1 ga1 n a cg x sa pk fl gv gh gl hC (Nat.lt_of_le_of_lt hl0 (by decide)) (Nat.lt_of_le_of_lt hl1 (by decide)) (st1_of c2)) mH_L_open qM_L_106 rfl rfl hl9.1 (Nat.le_of_ble_eq_true rfl) ⟨⟨Nat.le_of_ble_eq_true rfl, Nat.le_of_ble_eq_true rfl⟩, Nat.le_of_ble_eq_true rfl, Nat.le_of_ble_eq_true rfl⟩ dL_links_401 (fun E ce q9 f71 H locs hPX hw hS hce hcv hcl => ?_) (fun v f71 H locs hP hw hS => ?_)
    · exact hPX.elim
    · obtain ⟨ev9, hC72, k73⟩ := hP
      subst ev9
      have hC72 : CXW G f71 xo ez eo bu nw0 na0 nq0 nr0 nw1 na1 nq1 nr1 bs bp bh bf bl bg S0 S1 gw0 ga0 gw1 ga1 n a cg x sa pk fl gv gh gl := hC72
      refine W.eq (g2 := F0 m 404 ls [.int (-73)]) rfl ?_
      refine lv_bipush (v := (-73)) hx hb dL_links_404 (by decide) ?_
      refine lv_icmp_ne (tgt := 423) hx hb dL_links_406 (by decide) (fun c9 => absurd (by decide) c9) (fun _ => ?_)
      refine lv_aload_n hx hb dL_links_409 rfl (lv_at hl9 4 rfl) ?_
      refine lv_iconst (v := 2) hx hb dL_links_410 (by decide) ?_
      refine hp_SH (As := [.ref xo, .int 2]) (rest := []) B0 hw hS (c_V_open_E hl G f71 xo ez eo bu nw0 na0 nq0 nr0 nw1 na1 nq1 nr1 bs bp bh bf bl bg S0 S1 gw0 ga0 gw1 ga1 n a cg x sa pk fl gv gh gl hC72 (Nat.lt_of_le_of_lt hl0 (by decide)) (Nat.lt_of_le_of_lt hl1 (by decide)) 2 (by decide)) mH_L_open qM_L_106 rfl rfl hl9.1 (Nat.le_of_ble_eq_true rfl) ⟨⟨Nat.le_of_ble_eq_true rfl, Nat.le_of_ble_eq_true rfl⟩, Nat.le_of_ble_eq_true rfl, Nat.le_of_ble_eq_true rfl⟩ dL_links_411 (fun E ce q9 f74 H locs hPX hw hS hce hcv hcl => ?_) (fun v f74 H locs hP hw hS => ?_)
      · exact hPX.elim
      · obtain ⟨ev9, hC75, k76⟩ := hP
        subst ev9
        have hC75 : CXW G f74 xo ez eo bu nw0 na0 nq0 nr0 nw1 na1 nq1 nr1 bs bp bh bf bl bg S0 S1 gw0 ga0 gw1 ga1 n a cg x sa pk fl gv gh gl := hC75
        refine W.eq (g2 := F0 m 414 ls [.int (-71)]) rfl ?_
        refine lv_bipush (v := (-71)) hx hb dL_links_414 (by decide) ?_
        refine lv_icmp_ne (tgt := 423) hx hb dL_links_416 (by decide) (fun c9 => absurd (by decide) c9) (fun _ => ?_)
        refine lv_iconst (v := 1) hx hb dL_links_419 (by decide) ?_
        refine lv_goto (tgt := 424) hx hb dL_links_420 (by decide) ?_
        have h77 : f71 lx = some (.inl (cJ G, 64, .inr (.inl xs0))) := k73 _ _ k_lx (Nat.ne_of_beq_eq_false rfl) (hdos _ List.mem_cons_self)
        have h78 : f74 lx = some (.inl (cJ G, 64, .inr (.inl xs0))) := k76 _ _ h77 (Nat.ne_of_beq_eq_false rfl) (hdos _ List.mem_cons_self)
        have h79 : f71 ly = some (.inl (cJ G, 64, .inr (.inl xs1))) := k73 _ _ k_ly (Nat.ne_of_beq_eq_false rfl) (hdos _ (List.mem_cons_of_mem _ List.mem_cons_self))
        have h80 : f74 ly = some (.inl (cJ G, 64, .inr (.inl xs1))) := k76 _ _ h79 (Nat.ne_of_beq_eq_false rfl) (hdos _ (List.mem_cons_of_mem _ List.mem_cons_self))
        have h81 : f71 lw = some (.inl (cI G, 12, .inl (j6r gw0 gw1))) := k73 _ _ k_lw (Nat.ne_of_beq_eq_false rfl) (hdos _ (List.mem_cons_of_mem _ (List.mem_cons_of_mem _ List.mem_cons_self)))
        have h82 : f74 lw = some (.inl (cI G, 12, .inl (j6r gw0 gw1))) := k76 _ _ h81 (Nat.ne_of_beq_eq_false rfl) (hdos _ (List.mem_cons_of_mem _ (List.mem_cons_of_mem _ List.mem_cons_self)))
        have h83 : f71 la = some (.inl (cI G, 12, .inl (j6r ga0 ga1))) := k73 _ _ k_la (Nat.ne_of_beq_eq_false rfl) (hdos _ (List.mem_cons_of_mem _ (List.mem_cons_of_mem _ (List.mem_cons_of_mem _ List.mem_cons_self))))
        have h84 : f74 la = some (.inl (cI G, 12, .inl (j6r ga0 ga1))) := k76 _ _ h83 (Nat.ne_of_beq_eq_false rfl) (hdos _ (List.mem_cons_of_mem _ (List.mem_cons_of_mem _ (List.mem_cons_of_mem _ List.mem_cons_self))))
        have h85 : f71 lq = some (.inl (cI G, 12, .inl (j6r S0.2.2.2.2.2.2.2.1 S1.2.2.2.2.2.2.2.1))) := k73 _ _ k_lq (Nat.ne_of_beq_eq_false rfl) (hdos _ (List.mem_cons_of_mem _ (List.mem_cons_of_mem _ (List.mem_cons_of_mem _ (List.mem_cons_of_mem _ List.mem_cons_self)))))
        have h86 : f74 lq = some (.inl (cI G, 12, .inl (j6r S0.2.2.2.2.2.2.2.1 S1.2.2.2.2.2.2.2.1))) := k76 _ _ h85 (Nat.ne_of_beq_eq_false rfl) (hdos _ (List.mem_cons_of_mem _ (List.mem_cons_of_mem _ (List.mem_cons_of_mem _ (List.mem_cons_of_mem _ List.mem_cons_self)))))
        have h87 : f71 le = some (.inl (cI G, 16, .inl (jE (e8r S0.1 S0.2.1 S0.2.2.1 S0.2.2.2.1 S0.2.2.2.2.1 S0.2.2.2.2.2.1 S0.2.2.2.2.2.2.1 (nI S0.2.2.2.2.2.2.2.2.length)) (eSt S1)))) := k73 _ _ h1 (Nat.ne_of_beq_eq_false rfl) (hdos _ (List.mem_cons_of_mem _ (List.mem_cons_of_mem _ (List.mem_cons_of_mem _ (List.mem_cons_of_mem _ (List.mem_cons_of_mem _ List.mem_cons_self))))))
        have h88 : f74 le = some (.inl (cI G, 16, .inl (jE (e8r S0.1 S0.2.1 S0.2.2.1 S0.2.2.2.1 S0.2.2.2.2.1 S0.2.2.2.2.2.1 S0.2.2.2.2.2.2.1 (nI S0.2.2.2.2.2.2.2.2.length)) (eSt S1)))) := k76 _ _ h87 (Nat.ne_of_beq_eq_false rfl) (hdos _ (List.mem_cons_of_mem _ (List.mem_cons_of_mem _ (List.mem_cons_of_mem _ (List.mem_cons_of_mem _ (List.mem_cons_of_mem _ List.mem_cons_self))))))
        exact hp_zret (v := 1) B0 hw hS hr ⟨Nat.le_of_ble_eq_true rfl, Nat.le_of_ble_eq_true rfl⟩ (rfl) dL_links_424 (⟨rfl, S0, S1, gw0, ga0, gw1, ga1, hC75, ⟨⟨_, h78, hX0⟩, ⟨_, h80, hX1⟩, h82, h84, h86, h88⟩, ⟨SOK.mono hSo0 (by omega), SOK.mono hSo1 (by omega), hgw0, hga0, hgw1, hga1⟩, hl0, hl1, ((show hKn [lx, ly, lw, la, lq, le, xo, ez, eo, bu, nw0, na0, nq0, nr0, nw1, na1, nq1, nr1, bs, bp, bh, bf, bl, bg] f f71 from (hKn.mono k73 sbA)).tr (show hKn [lx, ly, lw, la, lq, le, xo, ez, eo, bu, nw0, na0, nq0, nr0, nw1, na1, nq1, nr1, bs, bp, bh, bf, bl, bg] f71 f74 from (hKn.mono k76 sbA)))⟩)

set_option maxHeartbeats 4000000 in
set_option maxRecDepth 100000 in
theorem lk_o_1 {l : Launch} (hl : l.stackTraces = false) (G : hG) (f : hM) (xo ez eo bu nw0 na0 nq0 nr0 nw1 na1 nq1 nr1 bs bp bh bf bl bg : Nat) (S0 : ES) (S1 : ES) (gw0 : Nat → Int32) (ga0 : Nat → Int32) (gw1 : Nat → Int32) (ga1 : Nat → Int32) (n : Nat) (a : Nat) (cg : Nat) (x : Nat) (sa : Nat → Nat) (pk : Nat → Nat) (fl : Nat → Nat) (gv : Nat → Nat) (gh : Nat → Int32) (gl : Nat → Int32) (hC : CXW G f xo ez eo bu nw0 na0 nq0 nr0 nw1 na1 nq1 nr1 bs bp bh bf bl bg S0 S1 gw0 ga0 gw1 ga1 n a cg x sa pk fl gv gh gl) (lx ly lw la lq le : Nat) (hdis : ∀ p, p ∈ [xo, ez, eo, bu, nw0, na0, nq0, nr0, nw1, na1, nq1, nr1, bs, bp, bh, bf, bl, bg] → p ∉ [lx, ly, lw, la, lq, le]) (hdos : ∀ p, p ∈ [lx, ly, lw, la, lq, le] → p ∉ [xo, ez, eo, bu, nw0, na0, nq0, nr0, nw1, na1, nq1, nr1, bs, bp, bh, bf, bl, bg]) (n_lx_ly : lx ≠ ly) (n_lw_la : lw ≠ la) (n_lw_lq : lw ≠ lq) (n_la_lq : la ≠ lq) (hLX : LX G f lx ly lw la lq le S0 S1 gw0 ga0 gw1 ga1) (b : Nat) (hInv : INV b S0 S1 gw0 ga0 gw1 ga1) (hbb : b + 200 ≤ 1000000) (hl0 : S0.2.2.2.2.2.2.2.2.length ≤ 52) (hl1 : S1.2.2.2.2.2.2.2.2.length ≤ 52) (ac : Nat) (hac : ac < 24) (hact : ac ≠ 22 → S0.2.2.2.2.2.2.2.2.length ≤ 40 ∧ S1.2.2.2.2.2.2.2.2.length ≤ 40) (u z : Int32) {p : Program} {e : Env} {s : State} {m : MethodId} {args : Array Value} {below : List Frame} {meth : Method} {c : Code} (B0 : hB p l s m args meth c cL_links 17 RL G) (hr : meth.sig.returnType = some .boolean) {H : Heap} {locs : List Loc} {ls : Array Slot} (hw : hW G f H) (hS : va_S (hFr G) s.heap H locs) (j13 : Nat) (hj13 : j13 < 6) (hc : ¬ 10 ≤ nI ac) (hl9 : lv_has ls 17 [(13, .int (nI j13)), (12, .ref ly), (11, .int 8), (10, .int 1), (0, .ref xo), (1, .int (nI ac)), (2, .int u), (3, .int z), (4, .ref lx), (5, .ref ly), (6, .ref lw), (7, .ref la), (8, .ref lq), (9, .ref le)]) : W p l e { frames := 9, cells := 203, slots := 1118, locals := 178 } s m args below meth c H locs 0 0 (vx_MQ below (hQ G (fun v f1 => v = some (.int 1) ∧ ∃ (S2 S3 : ES) (w0 a0 w1 a1 : Nat → Int32), CXW G f1 xo ez eo bu nw0 na0 nq0 nr0 nw1 na1 nq1 nr1 bs bp bh bf bl bg S2 S3 w0 a0 w1 a1 n a cg x sa pk fl gv gh gl ∧ LX G f1 lx ly lw la lq le S2 S3 w0 a0 w1 a1 ∧ INV (b + 100) S2 S3 w0 a0 w1 a1 ∧ S2.2.2.2.2.2.2.2.2.length ≤ 52 ∧ S3.2.2.2.2.2.2.2.2.length ≤ 52 ∧ hKn [lx, ly, lw, la, lq, le, xo, ez, eo, bu, nw0, na0, nq0, nr0, nw1, na1, nq1, nr1, bs, bp, bh, bf, bl, bg] f f1)) (hX G (fun E f1 => False)) args s 203 1118 (hFr G)) (F0 m 390 ls []) := by
  have hx := B0.1
  have hb := B0.2.1
  obtain ⟨⟨xs0, k_lx, hX0⟩, ⟨xs1, k_ly, hX1⟩, k_lw, k_la, k_lq, k_le⟩ := hLX
  obtain ⟨hSo0, hSo1, hgw0, hga0, hgw1, hga1⟩ := id hInv
  have n_lx_lw : lx ≠ lw := hneL k_lx k_lw (Nat.ne_of_beq_eq_false rfl)
  have n_lx_la : lx ≠ la := hneL k_lx k_la (Nat.ne_of_beq_eq_false rfl)
  have n_lx_lq : lx ≠ lq := hneL k_lx k_lq (Nat.ne_of_beq_eq_false rfl)
  have n_lx_le : lx ≠ le := hneL k_lx k_le (Nat.ne_of_beq_eq_false rfl)
  have n_ly_lw : ly ≠ lw := hneL k_ly k_lw (Nat.ne_of_beq_eq_false rfl)
  have n_ly_la : ly ≠ la := hneL k_ly k_la (Nat.ne_of_beq_eq_false rfl)
  have n_ly_lq : ly ≠ lq := hneL k_ly k_lq (Nat.ne_of_beq_eq_false rfl)
  have n_ly_le : ly ≠ le := hneL k_ly k_le (Nat.ne_of_beq_eq_false rfl)
  have n_lw_le : lw ≠ le := hneL k_lw k_le (Nat.ne_of_beq_eq_false rfl)
  have n_la_le : la ≠ le := hneL k_la k_le (Nat.ne_of_beq_eq_false rfl)
  have n_lq_le : lq ≠ le := hneL k_lq k_le (Nat.ne_of_beq_eq_false rfl)
  have sbA : ∀ x9, x9 ∈ [xo, ez, eo, bu, nw0, na0, nq0, nr0, nw1, na1, nq1, nr1, bs, bp, bh, bf, bl, bg] → x9 ∈ [lx, ly, lw, la, lq, le, xo, ez, eo, bu, nw0, na0, nq0, nr0, nw1, na1, nq1, nr1, bs, bp, bh, bf, bl, bg] := (sub_cons (List.mem_cons_of_mem _ (List.mem_cons_of_mem _ (List.mem_cons_of_mem _ (List.mem_cons_of_mem _ (List.mem_cons_of_mem _ (List.mem_cons_of_mem _ List.mem_cons_self)))))) (sub_cons (List.mem_cons_of_mem _ (List.mem_cons_of_mem _ (List.mem_cons_of_mem _ (List.mem_cons_of_mem _ (List.mem_cons_of_mem _ (List.mem_cons_of_mem _ (List.mem_cons_of_mem _ List.mem_cons_self))))))) (sub_cons (List.mem_cons_of_mem _ (List.mem_cons_of_mem _ (List.mem_cons_of_mem _ (List.mem_cons_of_mem _ (List.mem_cons_of_mem _ (List.mem_cons_of_mem _ (List.mem_cons_of_mem _ (List.mem_cons_of_mem _ List.mem_cons_self)))))))) (sub_cons (List.mem_cons_of_mem _ (List.mem_cons_of_mem _ (List.mem_cons_of_mem _ (List.mem_cons_of_mem _ (List.mem_cons_of_mem _ (List.mem_cons_of_mem _ (List.mem_cons_of_mem _ (List.mem_cons_of_mem _ (List.mem_cons_of_mem _ List.mem_cons_self))))))))) (sub_cons (List.mem_cons_of_mem _ (List.mem_cons_of_mem _ (List.mem_cons_of_mem _ (List.mem_cons_of_mem _ (List.mem_cons_of_mem _ (List.mem_cons_of_mem _ (List.mem_cons_of_mem _ (List.mem_cons_of_mem _ (List.mem_cons_of_mem _ (List.mem_cons_of_mem _ List.mem_cons_self)))))))))) (sub_cons (List.mem_cons_of_mem _ (List.mem_cons_of_mem _ (List.mem_cons_of_mem _ (List.mem_cons_of_mem _ (List.mem_cons_of_mem _ (List.mem_cons_of_mem _ (List.mem_cons_of_mem _ (List.mem_cons_of_mem _ (List.mem_cons_of_mem _ (List.mem_cons_of_mem _ (List.mem_cons_of_mem _ List.mem_cons_self))))))))))) (sub_cons (List.mem_cons_of_mem _ (List.mem_cons_of_mem _ (List.mem_cons_of_mem _ (List.mem_cons_of_mem _ (List.mem_cons_of_mem _ (List.mem_cons_of_mem _ (List.mem_cons_of_mem _ (List.mem_cons_of_mem _ (List.mem_cons_of_mem _ (List.mem_cons_of_mem _ (List.mem_cons_of_mem _ (List.mem_cons_of_mem _ List.mem_cons_self)))))))))))) (sub_cons (List.mem_cons_of_mem _ (List.mem_cons_of_mem _ (List.mem_cons_of_mem _ (List.mem_cons_of_mem _ (List.mem_cons_of_mem _ (List.mem_cons_of_mem _ (List.mem_cons_of_mem _ (List.mem_cons_of_mem _ (List.mem_cons_of_mem _ (List.mem_cons_of_mem _ (List.mem_cons_of_mem _ (List.mem_cons_of_mem _ (List.mem_cons_of_mem _ List.mem_cons_self))))))))))))) (sub_cons (List.mem_cons_of_mem _ (List.mem_cons_of_mem _ (List.mem_cons_of_mem _ (List.mem_cons_of_mem _ (List.mem_cons_of_mem _ (List.mem_cons_of_mem _ (List.mem_cons_of_mem _ (List.mem_cons_of_mem _ (List.mem_cons_of_mem _ (List.mem_cons_of_mem _ (List.mem_cons_of_mem _ (List.mem_cons_of_mem _ (List.mem_cons_of_mem _ (List.mem_cons_of_mem _ List.mem_cons_self)))))))))))))) (sub_cons (List.mem_cons_of_mem _ (List.mem_cons_of_mem _ (List.mem_cons_of_mem _ (List.mem_cons_of_mem _ (List.mem_cons_of_mem _ (List.mem_cons_of_mem _ (List.mem_cons_of_mem _ (List.mem_cons_of_mem _ (List.mem_cons_of_mem _ (List.mem_cons_of_mem _ (List.mem_cons_of_mem _ (List.mem_cons_of_mem _ (List.mem_cons_of_mem _ (List.mem_cons_of_mem _ (List.mem_cons_of_mem _ List.mem_cons_self))))))))))))))) (sub_cons (List.mem_cons_of_mem _ (List.mem_cons_of_mem _ (List.mem_cons_of_mem _ (List.mem_cons_of_mem _ (List.mem_cons_of_mem _ (List.mem_cons_of_mem _ (List.mem_cons_of_mem _ (List.mem_cons_of_mem _ (List.mem_cons_of_mem _ (List.mem_cons_of_mem _ (List.mem_cons_of_mem _ (List.mem_cons_of_mem _ (List.mem_cons_of_mem _ (List.mem_cons_of_mem _ (List.mem_cons_of_mem _ (List.mem_cons_of_mem _ List.mem_cons_self)))))))))))))))) (sub_cons (List.mem_cons_of_mem _ (List.mem_cons_of_mem _ (List.mem_cons_of_mem _ (List.mem_cons_of_mem _ (List.mem_cons_of_mem _ (List.mem_cons_of_mem _ (List.mem_cons_of_mem _ (List.mem_cons_of_mem _ (List.mem_cons_of_mem _ (List.mem_cons_of_mem _ (List.mem_cons_of_mem _ (List.mem_cons_of_mem _ (List.mem_cons_of_mem _ (List.mem_cons_of_mem _ (List.mem_cons_of_mem _ (List.mem_cons_of_mem _ (List.mem_cons_of_mem _ List.mem_cons_self))))))))))))))))) (sub_cons (List.mem_cons_of_mem _ (List.mem_cons_of_mem _ (List.mem_cons_of_mem _ (List.mem_cons_of_mem _ (List.mem_cons_of_mem _ (List.mem_cons_of_mem _ (List.mem_cons_of_mem _ (List.mem_cons_of_mem _ (List.mem_cons_of_mem _ (List.mem_cons_of_mem _ (List.mem_cons_of_mem _ (List.mem_cons_of_mem _ (List.mem_cons_of_mem _ (List.mem_cons_of_mem _ (List.mem_cons_of_mem _ (List.mem_cons_of_mem _ (List.mem_cons_of_mem _ (List.mem_cons_of_mem _ List.mem_cons_self)))))))))))))))))) (sub_cons (List.mem_cons_of_mem _ (List.mem_cons_of_mem _ (List.mem_cons_of_mem _ (List.mem_cons_of_mem _ (List.mem_cons_of_mem _ (List.mem_cons_of_mem _ (List.mem_cons_of_mem _ (List.mem_cons_of_mem _ (List.mem_cons_of_mem _ (List.mem_cons_of_mem _ (List.mem_cons_of_mem _ (List.mem_cons_of_mem _ (List.mem_cons_of_mem _ (List.mem_cons_of_mem _ (List.mem_cons_of_mem _ (List.mem_cons_of_mem _ (List.mem_cons_of_mem _ (List.mem_cons_of_mem _ (List.mem_cons_of_mem _ List.mem_cons_self))))))))))))))))))) (sub_cons (List.mem_cons_of_mem _ (List.mem_cons_of_mem _ (List.mem_cons_of_mem _ (List.mem_cons_of_mem _ (List.mem_cons_of_mem _ (List.mem_cons_of_mem _ (List.mem_cons_of_mem _ (List.mem_cons_of_mem _ (List.mem_cons_of_mem _ (List.mem_cons_of_mem _ (List.mem_cons_of_mem _ (List.mem_cons_of_mem _ (List.mem_cons_of_mem _ (List.mem_cons_of_mem _ (List.mem_cons_of_mem _ (List.mem_cons_of_mem _ (List.mem_cons_of_mem _ (List.mem_cons_of_mem _ (List.mem_cons_of_mem _ (List.mem_cons_of_mem _ List.mem_cons_self)))))))))))))))))))) (sub_cons (List.mem_cons_of_mem _ (List.mem_cons_of_mem _ (List.mem_cons_of_mem _ (List.mem_cons_of_mem _ (List.mem_cons_of_mem _ (List.mem_cons_of_mem _ (List.mem_cons_of_mem _ (List.mem_cons_of_mem _ (List.mem_cons_of_mem _ (List.mem_cons_of_mem _ (List.mem_cons_of_mem _ (List.mem_cons_of_mem _ (List.mem_cons_of_mem _ (List.mem_cons_of_mem _ (List.mem_cons_of_mem _ (List.mem_cons_of_mem _ (List.mem_cons_of_mem _ (List.mem_cons_of_mem _ (List.mem_cons_of_mem _ (List.mem_cons_of_mem _ (List.mem_cons_of_mem _ List.mem_cons_self))))))))))))))))))))) (sub_cons (List.mem_cons_of_mem _ (List.mem_cons_of_mem _ (List.mem_cons_of_mem _ (List.mem_cons_of_mem _ (List.mem_cons_of_mem _ (List.mem_cons_of_mem _ (List.mem_cons_of_mem _ (List.mem_cons_of_mem _ (List.mem_cons_of_mem _ (List.mem_cons_of_mem _ (List.mem_cons_of_mem _ (List.mem_cons_of_mem _ (List.mem_cons_of_mem _ (List.mem_cons_of_mem _ (List.mem_cons_of_mem _ (List.mem_cons_of_mem _ (List.mem_cons_of_mem _ (List.mem_cons_of_mem _ (List.mem_cons_of_mem _ (List.mem_cons_of_mem _ (List.mem_cons_of_mem _ (List.mem_cons_of_mem _ List.mem_cons_self)))))))))))))))))))))) (sub_cons (List.mem_cons_of_mem _ (List.mem_cons_of_mem _ (List.mem_cons_of_mem _ (List.mem_cons_of_mem _ (List.mem_cons_of_mem _ (List.mem_cons_of_mem _ (List.mem_cons_of_mem _ (List.mem_cons_of_mem _ (List.mem_cons_of_mem _ (List.mem_cons_of_mem _ (List.mem_cons_of_mem _ (List.mem_cons_of_mem _ (List.mem_cons_of_mem _ (List.mem_cons_of_mem _ (List.mem_cons_of_mem _ (List.mem_cons_of_mem _ (List.mem_cons_of_mem _ (List.mem_cons_of_mem _ (List.mem_cons_of_mem _ (List.mem_cons_of_mem _ (List.mem_cons_of_mem _ (List.mem_cons_of_mem _ (List.mem_cons_of_mem _ List.mem_cons_self))))))))))))))))))))))) sub_nil))))))))))))))))))
  obtain ⟨xx, hxx, hx4⟩ := hSo1.2.2.2.2.1
  have h1 : f le = some (.inl (cI G, 16, .inl (jE (eSt S0) (e8r S1.1 S1.2.1 S1.2.2.1 S1.2.2.2.1 S1.2.2.2.2.1 S1.2.2.2.2.2.1 S1.2.2.2.2.2.2.1 (nI S1.2.2.2.2.2.2.2.2.length))))) := k_le
  refine lv_aload hx hb dL_links_390 (lv_at hl9 13 rfl) ?_
  refine lv_iload hx hb dL_links_392 (lv_at hl9 2 rfl) ?_
  refine hp_iald B0 hw h1 (by unfold vp_in; decide) dL_links_394 ?_
  refine hp_c (v := S1.1) (rfl) ?_
  refine lv_if_le (tgt := 425) hx hb dL_links_395 (by decide) (fun c2 => ?_) (fun c2 => ?_)
  · refine lv_bipush (v := 6) hx hb dL_links_425 (by decide) ?_
    refine lv_iload hx hb dL_links_427 (lv_at hl9 3 rfl) ?_
    refine lv_imul hx hb dL_links_429 ?_
    refine hp_c (v := 6) (by decide) ?_
    refine lv_istore (lv' := [(14, .int 6), (13, .int (nI j13)), (12, .ref ly), (11, .int 8), (10, .int 1), (0, .ref xo), (1, .int (nI ac)), (2, .int u), (3, .int z), (4, .ref lx), (5, .ref ly), (6, .ref lw), (7, .ref la), (8, .ref lq), (9, .ref le)]) hx hb dL_links_430 hl9 (by decide) rfl (fun ls hl9 => ?_)
    refine lv_iload hx hb dL_links_432 (lv_at hl9 0 rfl) ?_
    refine lv_bipush (v := 6) hx hb dL_links_434 (by decide) ?_
    refine lv_iload hx hb dL_links_436 (lv_at hl9 4 rfl) ?_
    refine lv_imul hx hb dL_links_438 ?_
    refine hp_c (v := 6) (by decide) ?_
    refine lv_bipush (v := 6) hx hb dL_links_439 (by decide) ?_
    refine lv_iadd hx hb dL_links_441 ?_
    refine hp_c (v := 12) (by decide) ?_
    refine lv_icmp_ge (tgt := 461) hx hb dL_links_442 (by decide) (fun c9 => absurd c9 (by decide)) (fun _ => ?_)
    refine lv_aload hx hb dL_links_445 (lv_at hl9 13 rfl) ?_
    refine lv_iload hx hb dL_links_447 (lv_at hl9 0 rfl) ?_
    refine lv_aload hx hb dL_links_449 (lv_at hl9 11 rfl) ?_
    refine lv_iload hx hb dL_links_451 (lv_at hl9 0 rfl) ?_
    refine hp_iald B0 hw k_lw (by unfold vp_in; decide) dL_links_453 ?_
    refine hp_c (v := (gw1 0)) (rfl) ?_
    refine hp_iast B0 hw hS k_lq (by unfold vp_in; decide) dL_links_454 (fun H locs f3 ef3 hw hS => ?_)
    rw [show (upd (j6r S0.2.2.2.2.2.2.2.1 S1.2.2.2.2.2.2.2.1) (6 : Int32).toNatClampNeg (gw1 0) : Nat → Int32) = (j6r S0.2.2.2.2.2.2.2.1 (upd S1.2.2.2.2.2.2.2.1 0 (gw1 0))) from (by rw [show (6 : Int32).toNatClampNeg = 6 + 0 from rfl, j6_u1])] at ef3
    have h4 : f3 lq = some (.inl (cI G, 12, .inl (j6r S0.2.2.2.2.2.2.2.1 (upd S1.2.2.2.2.2.2.2.1 0 (gw1 0))))) := by rw [ef3, va_up_self]
    refine lv_iinc (v := 7) (lv' := [(14, .int 7), (13, .int (nI j13)), (12, .ref ly), (11, .int 8), (10, .int 1), (0, .ref xo), (1, .int (nI ac)), (2, .int u), (3, .int z), (4, .ref lx), (5, .ref ly), (6, .ref lw), (7, .ref la), (8, .ref lq), (9, .ref le)]) hx hb dL_links_455 hl9 (k := 0) rfl (by decide) (by decide) rfl (fun ls hl9 => ?_)
    refine lv_goto (tgt := 432) hx hb dL_links_458 (by decide) ?_
    refine lv_iload hx hb dL_links_432 (lv_at hl9 0 rfl) ?_
    refine lv_bipush (v := 6) hx hb dL_links_434 (by decide) ?_
    refine lv_iload hx hb dL_links_436 (lv_at hl9 4 rfl) ?_
    refine lv_imul hx hb dL_links_438 ?_
    refine hp_c (v := 6) (by decide) ?_
    refine lv_bipush (v := 6) hx hb dL_links_439 (by decide) ?_
    refine lv_iadd hx hb dL_links_441 ?_
    refine hp_c (v := 12) (by decide) ?_
    refine lv_icmp_ge (tgt := 461) hx hb dL_links_442 (by decide) (fun c9 => absurd c9 (by decide)) (fun _ => ?_)
    refine lv_aload hx hb dL_links_445 (lv_at hl9 13 rfl) ?_
    refine lv_iload hx hb dL_links_447 (lv_at hl9 0 rfl) ?_
    refine lv_aload hx hb dL_links_449 (lv_at hl9 11 rfl) ?_
    refine lv_iload hx hb dL_links_451 (lv_at hl9 0 rfl) ?_
    have h5 : f3 lw = some (.inl (cI G, 12, .inl (j6r gw0 gw1))) := by rw [ef3, va_up_ne _ _ n_lw_lq]; exact k_lw
    refine hp_iald B0 hw h5 (by unfold vp_in; decide) dL_links_453 ?_
    refine hp_c (v := (gw1 1)) (rfl) ?_
    refine hp_iast B0 hw hS h4 (by unfold vp_in; decide) dL_links_454 (fun H locs f6 ef6 hw hS => ?_)
    rw [show (upd (j6r S0.2.2.2.2.2.2.2.1 (upd S1.2.2.2.2.2.2.2.1 0 (gw1 0))) (7 : Int32).toNatClampNeg (gw1 1) : Nat → Int32) = (j6r S0.2.2.2.2.2.2.2.1 (upd (upd S1.2.2.2.2.2.2.2.1 0 (gw1 0)) 1 (gw1 1))) from (by rw [show (7 : Int32).toNatClampNeg = 6 + 1 from rfl, j6_u1])] at ef6
    have e7 : f6 = va_up f lq (some (.inl (cI G, 12, .inl (j6r S0.2.2.2.2.2.2.2.1 (upd (upd S1.2.2.2.2.2.2.2.1 0 (gw1 0)) 1 (gw1 1)))))) := by rw [ef6, ef3, bx_uu]
    have h8 : f6 lq = some (.inl (cI G, 12, .inl (j6r S0.2.2.2.2.2.2.2.1 (upd (upd S1.2.2.2.2.2.2.2.1 0 (gw1 0)) 1 (gw1 1))))) := by rw [ef6, va_up_self]
    refine lv_iinc (v := 8) (lv' := [(14, .int 8), (13, .int (nI j13)), (12, .ref ly), (11, .int 8), (10, .int 1), (0, .ref xo), (1, .int (nI ac)), (2, .int u), (3, .int z), (4, .ref lx), (5, .ref ly), (6, .ref lw), (7, .ref la), (8, .ref lq), (9, .ref le)]) hx hb dL_links_455 hl9 (k := 0) rfl (by decide) (by decide) rfl (fun ls hl9 => ?_)
    refine lv_goto (tgt := 432) hx hb dL_links_458 (by decide) ?_
    refine lv_iload hx hb dL_links_432 (lv_at hl9 0 rfl) ?_
    refine lv_bipush (v := 6) hx hb dL_links_434 (by decide) ?_
    refine lv_iload hx hb dL_links_436 (lv_at hl9 4 rfl) ?_
    refine lv_imul hx hb dL_links_438 ?_
    refine hp_c (v := 6) (by decide) ?_
    refine lv_bipush (v := 6) hx hb dL_links_439 (by decide) ?_
    refine lv_iadd hx hb dL_links_441 ?_
    refine hp_c (v := 12) (by decide) ?_
    refine lv_icmp_ge (tgt := 461) hx hb dL_links_442 (by decide) (fun c9 => absurd c9 (by decide)) (fun _ => ?_)
    refine lv_aload hx hb dL_links_445 (lv_at hl9 13 rfl) ?_
    refine lv_iload hx hb dL_links_447 (lv_at hl9 0 rfl) ?_
    refine lv_aload hx hb dL_links_449 (lv_at hl9 11 rfl) ?_
    refine lv_iload hx hb dL_links_451 (lv_at hl9 0 rfl) ?_
    have h10 : f6 lw = some (.inl (cI G, 12, .inl (j6r gw0 gw1))) := by rw [e7, va_up_ne _ _ n_lw_lq]; exact k_lw
    refine hp_iald B0 hw h10 (by unfold vp_in; decide) dL_links_453 ?_
    refine hp_c (v := (gw1 2)) (rfl) ?_
    refine hp_iast B0 hw hS h8 (by unfold vp_in; decide) dL_links_454 (fun H locs f11 ef11 hw hS => ?_)
    rw [show (upd (j6r S0.2.2.2.2.2.2.2.1 (upd (upd S1.2.2.2.2.2.2.2.1 0 (gw1 0)) 1 (gw1 1))) (8 : Int32).toNatClampNeg (gw1 2) : Nat → Int32) = (j6r S0.2.2.2.2.2.2.2.1 (upd (upd (upd S1.2.2.2.2.2.2.2.1 0 (gw1 0)) 1 (gw1 1)) 2 (gw1 2))) from (by rw [show (8 : Int32).toNatClampNeg = 6 + 2 from rfl, j6_u1])] at ef11
    have e12 : f11 = va_up f lq (some (.inl (cI G, 12, .inl (j6r S0.2.2.2.2.2.2.2.1 (upd (upd (upd S1.2.2.2.2.2.2.2.1 0 (gw1 0)) 1 (gw1 1)) 2 (gw1 2)))))) := by rw [ef11, e7, bx_uu]
    have h13 : f11 lq = some (.inl (cI G, 12, .inl (j6r S0.2.2.2.2.2.2.2.1 (upd (upd (upd S1.2.2.2.2.2.2.2.1 0 (gw1 0)) 1 (gw1 1)) 2 (gw1 2))))) := by rw [ef11, va_up_self]
    refine lv_iinc (v := 9) (lv' := [(14, .int 9), (13, .int (nI j13)), (12, .ref ly), (11, .int 8), (10, .int 1), (0, .ref xo), (1, .int (nI ac)), (2, .int u), (3, .int z), (4, .ref lx), (5, .ref ly), (6, .ref lw), (7, .ref la), (8, .ref lq), (9, .ref le)]) hx hb dL_links_455 hl9 (k := 0) rfl (by decide) (by decide) rfl (fun ls hl9 => ?_)
    refine lv_goto (tgt := 432) hx hb dL_links_458 (by decide) ?_
    refine lv_iload hx hb dL_links_432 (lv_at hl9 0 rfl) ?_
    refine lv_bipush (v := 6) hx hb dL_links_434 (by decide) ?_
    refine lv_iload hx hb dL_links_436 (lv_at hl9 4 rfl) ?_
    refine lv_imul hx hb dL_links_438 ?_
    refine hp_c (v := 6) (by decide) ?_
    refine lv_bipush (v := 6) hx hb dL_links_439 (by decide) ?_
    refine lv_iadd hx hb dL_links_441 ?_
    refine hp_c (v := 12) (by decide) ?_
    refine lv_icmp_ge (tgt := 461) hx hb dL_links_442 (by decide) (fun c9 => absurd c9 (by decide)) (fun _ => ?_)
    refine lv_aload hx hb dL_links_445 (lv_at hl9 13 rfl) ?_
    refine lv_iload hx hb dL_links_447 (lv_at hl9 0 rfl) ?_
    refine lv_aload hx hb dL_links_449 (lv_at hl9 11 rfl) ?_
    refine lv_iload hx hb dL_links_451 (lv_at hl9 0 rfl) ?_
    have h14 : f11 lw = some (.inl (cI G, 12, .inl (j6r gw0 gw1))) := by rw [e12, va_up_ne _ _ n_lw_lq]; exact k_lw
    refine hp_iald B0 hw h14 (by unfold vp_in; decide) dL_links_453 ?_
    refine hp_c (v := (gw1 3)) (rfl) ?_
    refine hp_iast B0 hw hS h13 (by unfold vp_in; decide) dL_links_454 (fun H locs f15 ef15 hw hS => ?_)
    rw [show (upd (j6r S0.2.2.2.2.2.2.2.1 (upd (upd (upd S1.2.2.2.2.2.2.2.1 0 (gw1 0)) 1 (gw1 1)) 2 (gw1 2))) (9 : Int32).toNatClampNeg (gw1 3) : Nat → Int32) = (j6r S0.2.2.2.2.2.2.2.1 (upd (upd (upd (upd S1.2.2.2.2.2.2.2.1 0 (gw1 0)) 1 (gw1 1)) 2 (gw1 2)) 3 (gw1 3))) from (by rw [show (9 : Int32).toNatClampNeg = 6 + 3 from rfl, j6_u1])] at ef15
    have e16 : f15 = va_up f lq (some (.inl (cI G, 12, .inl (j6r S0.2.2.2.2.2.2.2.1 (upd (upd (upd (upd S1.2.2.2.2.2.2.2.1 0 (gw1 0)) 1 (gw1 1)) 2 (gw1 2)) 3 (gw1 3)))))) := by rw [ef15, e12, bx_uu]
    have h17 : f15 lq = some (.inl (cI G, 12, .inl (j6r S0.2.2.2.2.2.2.2.1 (upd (upd (upd (upd S1.2.2.2.2.2.2.2.1 0 (gw1 0)) 1 (gw1 1)) 2 (gw1 2)) 3 (gw1 3))))) := by rw [ef15, va_up_self]
    refine lv_iinc (v := 10) (lv' := [(14, .int 10), (13, .int (nI j13)), (12, .ref ly), (11, .int 8), (10, .int 1), (0, .ref xo), (1, .int (nI ac)), (2, .int u), (3, .int z), (4, .ref lx), (5, .ref ly), (6, .ref lw), (7, .ref la), (8, .ref lq), (9, .ref le)]) hx hb dL_links_455 hl9 (k := 0) rfl (by decide) (by decide) rfl (fun ls hl9 => ?_)
    refine lv_goto (tgt := 432) hx hb dL_links_458 (by decide) ?_
    refine lv_iload hx hb dL_links_432 (lv_at hl9 0 rfl) ?_
    refine lv_bipush (v := 6) hx hb dL_links_434 (by decide) ?_
    refine lv_iload hx hb dL_links_436 (lv_at hl9 4 rfl) ?_
    refine lv_imul hx hb dL_links_438 ?_
    refine hp_c (v := 6) (by decide) ?_
    refine lv_bipush (v := 6) hx hb dL_links_439 (by decide) ?_
    refine lv_iadd hx hb dL_links_441 ?_
    refine hp_c (v := 12) (by decide) ?_
    refine lv_icmp_ge (tgt := 461) hx hb dL_links_442 (by decide) (fun c9 => absurd c9 (by decide)) (fun _ => ?_)
    refine lv_aload hx hb dL_links_445 (lv_at hl9 13 rfl) ?_
    refine lv_iload hx hb dL_links_447 (lv_at hl9 0 rfl) ?_
    refine lv_aload hx hb dL_links_449 (lv_at hl9 11 rfl) ?_
    refine lv_iload hx hb dL_links_451 (lv_at hl9 0 rfl) ?_
    have h18 : f15 lw = some (.inl (cI G, 12, .inl (j6r gw0 gw1))) := by rw [e16, va_up_ne _ _ n_lw_lq]; exact k_lw
    refine hp_iald B0 hw h18 (by unfold vp_in; decide) dL_links_453 ?_
    refine hp_c (v := (gw1 4)) (rfl) ?_
    refine hp_iast B0 hw hS h17 (by unfold vp_in; decide) dL_links_454 (fun H locs f19 ef19 hw hS => ?_)
    rw [show (upd (j6r S0.2.2.2.2.2.2.2.1 (upd (upd (upd (upd S1.2.2.2.2.2.2.2.1 0 (gw1 0)) 1 (gw1 1)) 2 (gw1 2)) 3 (gw1 3))) (10 : Int32).toNatClampNeg (gw1 4) : Nat → Int32) = (j6r S0.2.2.2.2.2.2.2.1 (upd (upd (upd (upd (upd S1.2.2.2.2.2.2.2.1 0 (gw1 0)) 1 (gw1 1)) 2 (gw1 2)) 3 (gw1 3)) 4 (gw1 4))) from (by rw [show (10 : Int32).toNatClampNeg = 6 + 4 from rfl, j6_u1])] at ef19
    have e20 : f19 = va_up f lq (some (.inl (cI G, 12, .inl (j6r S0.2.2.2.2.2.2.2.1 (upd (upd (upd (upd (upd S1.2.2.2.2.2.2.2.1 0 (gw1 0)) 1 (gw1 1)) 2 (gw1 2)) 3 (gw1 3)) 4 (gw1 4)))))) := by rw [ef19, e16, bx_uu]
    have h21 : f19 lq = some (.inl (cI G, 12, .inl (j6r S0.2.2.2.2.2.2.2.1 (upd (upd (upd (upd (upd S1.2.2.2.2.2.2.2.1 0 (gw1 0)) 1 (gw1 1)) 2 (gw1 2)) 3 (gw1 3)) 4 (gw1 4))))) := by rw [ef19, va_up_self]
    refine lv_iinc (v := 11) (lv' := [(14, .int 11), (13, .int (nI j13)), (12, .ref ly), (11, .int 8), (10, .int 1), (0, .ref xo), (1, .int (nI ac)), (2, .int u), (3, .int z), (4, .ref lx), (5, .ref ly), (6, .ref lw), (7, .ref la), (8, .ref lq), (9, .ref le)]) hx hb dL_links_455 hl9 (k := 0) rfl (by decide) (by decide) rfl (fun ls hl9 => ?_)
    refine lv_goto (tgt := 432) hx hb dL_links_458 (by decide) ?_
    refine lv_iload hx hb dL_links_432 (lv_at hl9 0 rfl) ?_
    refine lv_bipush (v := 6) hx hb dL_links_434 (by decide) ?_
    refine lv_iload hx hb dL_links_436 (lv_at hl9 4 rfl) ?_
    refine lv_imul hx hb dL_links_438 ?_
    refine hp_c (v := 6) (by decide) ?_
    refine lv_bipush (v := 6) hx hb dL_links_439 (by decide) ?_
    refine lv_iadd hx hb dL_links_441 ?_
    refine hp_c (v := 12) (by decide) ?_
    refine lv_icmp_ge (tgt := 461) hx hb dL_links_442 (by decide) (fun c9 => absurd c9 (by decide)) (fun _ => ?_)
    refine lv_aload hx hb dL_links_445 (lv_at hl9 13 rfl) ?_
    refine lv_iload hx hb dL_links_447 (lv_at hl9 0 rfl) ?_
    refine lv_aload hx hb dL_links_449 (lv_at hl9 11 rfl) ?_
    refine lv_iload hx hb dL_links_451 (lv_at hl9 0 rfl) ?_
    have h22 : f19 lw = some (.inl (cI G, 12, .inl (j6r gw0 gw1))) := by rw [e20, va_up_ne _ _ n_lw_lq]; exact k_lw
    refine hp_iald B0 hw h22 (by unfold vp_in; decide) dL_links_453 ?_
    refine hp_c (v := (gw1 5)) (rfl) ?_
    refine hp_iast B0 hw hS h21 (by unfold vp_in; decide) dL_links_454 (fun H locs f23 ef23 hw hS => ?_)
    rw [show (upd (j6r S0.2.2.2.2.2.2.2.1 (upd (upd (upd (upd (upd S1.2.2.2.2.2.2.2.1 0 (gw1 0)) 1 (gw1 1)) 2 (gw1 2)) 3 (gw1 3)) 4 (gw1 4))) (11 : Int32).toNatClampNeg (gw1 5) : Nat → Int32) = (j6r S0.2.2.2.2.2.2.2.1 (cpyF gw1 S1.2.2.2.2.2.2.2.1)) from (by rw [show (11 : Int32).toNatClampNeg = 6 + 5 from rfl, j6_u1, cpy6])] at ef23
    have e24 : f23 = va_up f lq (some (.inl (cI G, 12, .inl (j6r S0.2.2.2.2.2.2.2.1 (cpyF gw1 S1.2.2.2.2.2.2.2.1))))) := by rw [ef23, e20, bx_uu]
    have h25 : f23 lq = some (.inl (cI G, 12, .inl (j6r S0.2.2.2.2.2.2.2.1 (cpyF gw1 S1.2.2.2.2.2.2.2.1)))) := by rw [ef23, va_up_self]
    refine lv_iinc (v := 12) (lv' := [(14, .int 12), (13, .int (nI j13)), (12, .ref ly), (11, .int 8), (10, .int 1), (0, .ref xo), (1, .int (nI ac)), (2, .int u), (3, .int z), (4, .ref lx), (5, .ref ly), (6, .ref lw), (7, .ref la), (8, .ref lq), (9, .ref le)]) hx hb dL_links_455 hl9 (k := 0) rfl (by decide) (by decide) rfl (fun ls hl9 => ?_)
    refine lv_goto (tgt := 432) hx hb dL_links_458 (by decide) ?_
    refine lv_iload hx hb dL_links_432 (lv_at hl9 0 rfl) ?_
    refine lv_bipush (v := 6) hx hb dL_links_434 (by decide) ?_
    refine lv_iload hx hb dL_links_436 (lv_at hl9 4 rfl) ?_
    refine lv_imul hx hb dL_links_438 ?_
    refine hp_c (v := 6) (by decide) ?_
    refine lv_bipush (v := 6) hx hb dL_links_439 (by decide) ?_
    refine lv_iadd hx hb dL_links_441 ?_
    refine hp_c (v := 12) (by decide) ?_
    refine lv_icmp_ge (tgt := 461) hx hb dL_links_442 (by decide) (fun _ => ?_) (fun c9 => absurd (by decide) c9)
    refine lv_aload hx hb dL_links_461 (lv_at hl9 14 rfl) ?_
    refine lv_iload hx hb dL_links_463 (lv_at hl9 3 rfl) ?_
    refine lv_iconst (v := 1) hx hb dL_links_465 (by decide) ?_
    have h26 : f23 le = some (.inl (cI G, 16, .inl (jE (eSt S0) (e8r S1.1 S1.2.1 S1.2.2.1 S1.2.2.2.1 S1.2.2.2.2.1 S1.2.2.2.2.2.1 S1.2.2.2.2.2.2.1 (nI S1.2.2.2.2.2.2.2.2.length))))) := by rw [e24, va_up_ne _ _ (Ne.symm n_lq_le)]; exact h1
    refine hp_iast B0 hw hS h26 (by unfold vp_in; decide) dL_links_466 (fun H locs f27 ef27 hw hS => ?_)
    rw [show (upd (jE (eSt S0) (e8r S1.1 S1.2.1 S1.2.2.1 S1.2.2.2.1 S1.2.2.2.2.1 S1.2.2.2.2.2.1 S1.2.2.2.2.2.2.1 (nI S1.2.2.2.2.2.2.2.2.length))) (8 : Int32).toNatClampNeg 1 : Nat → Int32) = (jE (eSt S0) (e8r 1 S1.2.1 S1.2.2.1 S1.2.2.2.1 S1.2.2.2.2.1 S1.2.2.2.2.2.1 S1.2.2.2.2.2.2.1 (nI S1.2.2.2.2.2.2.2.2.length))) from (by rw [show (8 : Int32).toNatClampNeg = 8 + 0 from rfl, jE_u1, e8_u0])] at ef27
    have h28 : f27 le = some (.inl (cI G, 16, .inl (jE (eSt S0) (e8r 1 S1.2.1 S1.2.2.1 S1.2.2.2.1 S1.2.2.2.2.1 S1.2.2.2.2.2.1 S1.2.2.2.2.2.2.1 (nI S1.2.2.2.2.2.2.2.2.length))))) := by rw [ef27, va_up_self]
    refine lv_aload hx hb dL_links_467 (lv_at hl9 14 rfl) ?_
    refine lv_iload hx hb dL_links_469 (lv_at hl9 3 rfl) ?_
    refine lv_iconst (v := 2) hx hb dL_links_471 (by decide) ?_
    refine lv_iadd hx hb dL_links_472 ?_
    refine hp_c (v := 10) (by decide) ?_
    refine lv_iconst (v := 0) hx hb dL_links_473 (by decide) ?_
    refine hp_iast B0 hw hS h28 (by unfold vp_in; decide) dL_links_474 (fun H locs f29 ef29 hw hS => ?_)
    rw [show (upd (jE (eSt S0) (e8r 1 S1.2.1 S1.2.2.1 S1.2.2.2.1 S1.2.2.2.2.1 S1.2.2.2.2.2.1 S1.2.2.2.2.2.2.1 (nI S1.2.2.2.2.2.2.2.2.length))) (10 : Int32).toNatClampNeg 0 : Nat → Int32) = (jE (eSt S0) (e8r 1 S1.2.1 0 S1.2.2.2.1 S1.2.2.2.2.1 S1.2.2.2.2.2.1 S1.2.2.2.2.2.2.1 (nI S1.2.2.2.2.2.2.2.2.length))) from (by rw [show (10 : Int32).toNatClampNeg = 8 + 2 from rfl, jE_u1, e8_u2])] at ef29
    have e30 : f29 = va_up f23 le (some (.inl (cI G, 16, .inl (jE (eSt S0) (e8r 1 S1.2.1 0 S1.2.2.2.1 S1.2.2.2.2.1 S1.2.2.2.2.2.1 S1.2.2.2.2.2.2.1 (nI S1.2.2.2.2.2.2.2.2.length)))))) := by rw [ef29, ef27, bx_uu]
    have h31 : f29 le = some (.inl (cI G, 16, .inl (jE (eSt S0) (e8r 1 S1.2.1 0 S1.2.2.2.1 S1.2.2.2.2.1 S1.2.2.2.2.2.1 S1.2.2.2.2.2.2.1 (nI S1.2.2.2.2.2.2.2.2.length))))) := by rw [ef29, va_up_self]
    obtain ⟨h40a, h40b⟩ := hact (fun e9 => by subst e9; exact absurd (by decide) hc)
    refine lv_aload hx hb dL_links_475 (lv_at hl9 2 rfl) ?_
    refine lv_aload hx hb dL_links_477 (lv_at hl9 13 rfl) ?_
    refine lv_aload hx hb dL_links_479 (lv_at hl9 14 rfl) ?_
    refine lv_iload hx hb dL_links_481 (lv_at hl9 4 rfl) ?_
    have h32 : f23 ly = some (.inl (cJ G, 64, .inr (.inl xs1))) := by rw [e24, va_up_ne _ _ n_ly_lq]; exact k_ly
    have h33 : f29 ly = some (.inl (cJ G, 64, .inr (.inl xs1))) := by rw [e30, va_up_ne _ _ n_ly_le]; exact h32
    have h34 : f29 lq = some (.inl (cI G, 12, .inl (j6r S0.2.2.2.2.2.2.2.1 (cpyF gw1 S1.2.2.2.2.2.2.2.1)))) := by rw [e30, va_up_ne _ _ n_lq_le]; exact h25
    refine hp_S (As := [.ref ly, .ref lq, .ref le, .int 1]) (rest := []) B0 hw hS (c_L_beg_1 hl G f29 ly lq le 1 S1.2.1 0 S1.2.2.2.1 S1.2.2.2.2.1 S1.2.2.2.2.2.1 S1.2.2.2.2.2.2.1 (cpyF gw1 S1.2.2.2.2.2.2.2.1) S1.2.2.2.2.2.2.2.2 (eSt S0) S0.2.2.2.2.2.2.2.1 b (SOK.opn0 hSo1 hgw1) (by omega) xs1 hX1 (Nat.lt_of_le_of_lt hl1 (by decide)) h33 h34 h31) mS_L_beg qM_L_86 rfl rfl hl9.1 (Nat.le_of_ble_eq_true rfl) ⟨⟨Nat.le_of_ble_eq_true rfl, Nat.le_of_ble_eq_true rfl⟩, Nat.le_of_ble_eq_true rfl, Nat.le_of_ble_eq_true rfl⟩ dL_links_483 (fun E ce q9 f35 H locs hPX hw hS hce hcv hcl => ?_) (fun v f35 H locs hP hw hS => ?_)
    · exact hPX.elim
    · obtain ⟨ev9, ⟨xs36, h37, hX38⟩, h39, k40⟩ := hP
      subst ev9
      have h41 : f35 le = some (.inl (cI G, 16, .inl (jE (eSt S0) (e8r ((openS gw1 S1).1) ((openS gw1 S1).2.1) ((openS gw1 S1).2.2.1) ((openS gw1 S1).2.2.2.1) ((openS gw1 S1).2.2.2.2.1) ((openS gw1 S1).2.2.2.2.2.1) ((openS gw1 S1).2.2.2.2.2.2.1) (nI (openS gw1 S1).2.2.2.2.2.2.2.2.length))))) := h39
      refine W.eq (g2 := F0 m 486 ls [.int (begV (1, S1.2.1, 0, S1.2.2.2.1, S1.2.2.2.2.1, S1.2.2.2.2.2.1, S1.2.2.2.2.2.2.1, (cpyF gw1 S1.2.2.2.2.2.2.2.1), S1.2.2.2.2.2.2.2.2))]) rfl ?_
      refine lv_pop hx hb dL_links_486 rfl ?_
      refine lv_aload_n hx hb dL_links_487 rfl (lv_at hl9 5 rfl) ?_
      refine lv_iconst (v := (-1)) hx hb dL_links_488 (by decide) ?_
      have h42 : f23 lx = some (.inl (cJ G, 64, .inr (.inl xs0))) := by rw [e24, va_up_ne _ _ n_lx_lq]; exact k_lx
      have h43 : f29 lx = some (.inl (cJ G, 64, .inr (.inl xs0))) := by rw [e30, va_up_ne _ _ n_lx_le]; exact h42
      have h44 : f35 lx = some (.inl (cJ G, 64, .inr (.inl xs0))) := (hEq.k k40) _ _ h43 (ninc n_lx_ly (ninc n_lx_le nin0))
      have h45 : f23 lw = some (.inl (cI G, 12, .inl (j6r gw0 gw1))) := by rw [e24, va_up_ne _ _ n_lw_lq]; exact k_lw
      have h46 : f29 lw = some (.inl (cI G, 12, .inl (j6r gw0 gw1))) := by rw [e30, va_up_ne _ _ n_lw_le]; exact h45
      have h47 : f35 lw = some (.inl (cI G, 12, .inl (j6r gw0 gw1))) := (hEq.k k40) _ _ h46 (ninc (Ne.symm n_ly_lw) (ninc n_lw_le nin0))
      have h48 : f23 la = some (.inl (cI G, 12, .inl (j6r ga0 ga1))) := by rw [e24, va_up_ne _ _ n_la_lq]; exact k_la
      have h49 : f29 la = some (.inl (cI G, 12, .inl (j6r ga0 ga1))) := by rw [e30, va_up_ne _ _ n_la_le]; exact h48
      have h50 : f35 la = some (.inl (cI G, 12, .inl (j6r ga0 ga1))) := (hEq.k k40) _ _ h49 (ninc (Ne.symm n_ly_la) (ninc n_la_le nin0))
      have h51 : f35 lq = some (.inl (cI G, 12, .inl (j6r S0.2.2.2.2.2.2.2.1 (cpyF gw1 S1.2.2.2.2.2.2.2.1)))) := (hEq.k k40) _ _ h34 (ninc (Ne.symm n_ly_lq) (ninc n_lq_le nin0))
      have hC52 : CXW G f35 xo ez eo bu nw0 na0 nq0 nr0 nw1 na1 nq1 nr1 bs bp bh bf bl bg S0 S1 gw0 ga0 gw1 ga1 n a cg x sa pk fl gv gh gl := CXW.eq hC ((show hEq [lx, ly, lw, la, lq, le] f f23 from (by rw [e24]; exact hEq.up (List.mem_cons_of_mem _ (List.mem_cons_of_mem _ (List.mem_cons_of_mem _ (List.mem_cons_of_mem _ List.mem_cons_self)))))).tr ((show hEq [lx, ly, lw, la, lq, le] f23 f29 from (by rw [e30]; exact hEq.up (List.mem_cons_of_mem _ (List.mem_cons_of_mem _ (List.mem_cons_of_mem _ (List.mem_cons_of_mem _ (List.mem_cons_of_mem _ List.mem_cons_self))))))).tr (show hEq [lx, ly, lw, la, lq, le] f29 f35 from (hEq.mono k40 (sub_cons (List.mem_cons_of_mem _ List.mem_cons_self) (sub_cons (List.mem_cons_of_mem _ (List.mem_cons_of_mem _ (List.mem_cons_of_mem _ (List.mem_cons_of_mem _ (List.mem_cons_of_mem _ List.mem_cons_self))))) sub_nil)))))) hdis (fun b9 hb9 => by
          simp only [List.mem_cons, List.not_mem_nil, or_false] at hb9
          rcases hb9 with hb9 | hb9 | hb9 | hb9 | hb9 | hb9
          · rw [hb9]; exact ⟨_, _, k_lx, h44, (Nat.ne_of_beq_eq_false rfl), (Nat.ne_of_beq_eq_false rfl)⟩
          · rw [hb9]; exact ⟨_, _, k_ly, h37, (Nat.ne_of_beq_eq_false rfl), (Nat.ne_of_beq_eq_false rfl)⟩
          · rw [hb9]; exact ⟨_, _, k_lw, h47, (Nat.ne_of_beq_eq_false rfl), (Nat.ne_of_beq_eq_false rfl)⟩
          · rw [hb9]; exact ⟨_, _, k_la, h50, (Nat.ne_of_beq_eq_false rfl), (Nat.ne_of_beq_eq_false rfl)⟩
          · rw [hb9]; exact ⟨_, _, k_lq, h51, (Nat.ne_of_beq_eq_false rfl), (Nat.ne_of_beq_eq_false rfl)⟩
          · rw [hb9]; exact ⟨_, _, h1, h41, (Nat.ne_of_beq_eq_false rfl), (Nat.ne_of_beq_eq_false rfl)⟩)
      refine hp_SH (As := [.ref xo, .int (-1)]) (rest := []) B0 hw hS (c_V_open_E hl G f35 xo ez eo bu nw0 na0 nq0 nr0 nw1 na1 nq1 nr1 bs bp bh bf bl bg S0 S1 gw0 ga0 gw1 ga1 n a cg x sa pk fl gv gh gl hC52 (Nat.lt_of_le_of_lt hl0 (by decide)) (Nat.lt_of_le_of_lt hl1 (by decide)) (-1) (by decide)) mH_L_open qM_L_106 rfl rfl hl9.1 (Nat.le_of_ble_eq_true rfl) ⟨⟨Nat.le_of_ble_eq_true rfl, Nat.le_of_ble_eq_true rfl⟩, Nat.le_of_ble_eq_true rfl, Nat.le_of_ble_eq_true rfl⟩ dL_links_489 (fun E ce q9 f53 H locs hPX hw hS hce hcv hcl => ?_) (fun v f53 H locs hP hw hS => ?_)
      · exact hPX.elim
      · obtain ⟨ev9, hC54, k55⟩ := hP
        subst ev9
        have hC54 : CXW G f53 xo ez eo bu nw0 na0 nq0 nr0 nw1 na1 nq1 nr1 bs bp bh bf bl bg S0 S1 gw0 ga0 gw1 ga1 n a cg x sa pk fl gv gh gl := hC54
        refine W.eq (g2 := F0 m 492 ls [.int (-71)]) rfl ?_
        refine lv_bipush (v := (-71)) hx hb dL_links_492 (by decide) ?_
        refine lv_icmp_ne (tgt := 517) hx hb dL_links_494 (by decide) (fun c9 => absurd (by decide) c9) (fun _ => ?_)
        refine lv_aload_n hx hb dL_links_497 rfl (lv_at hl9 5 rfl) ?_
        refine lv_iload hx hb dL_links_498 (lv_at hl9 4 rfl) ?_
        refine hp_SH (As := [.ref xo, .int 1]) (rest := []) B0 hw hS (c_V_open_1 hl G f53 xo ez eo bu nw0 na0 nq0 nr0 nw1 na1 nq1 nr1 bs bp bh bf bl bg S0 S1 gw0 ga0 gw1 ga1 n a cg x sa pk fl gv gh gl hC54 (Nat.lt_of_le_of_lt hl0 (by decide)) (Nat.lt_of_le_of_lt hl1 (by decide)) (st0_of hSo1 c2)) mH_L_open qM_L_106 rfl rfl hl9.1 (Nat.le_of_ble_eq_true rfl) ⟨⟨Nat.le_of_ble_eq_true rfl, Nat.le_of_ble_eq_true rfl⟩, Nat.le_of_ble_eq_true rfl, Nat.le_of_ble_eq_true rfl⟩ dL_links_500 (fun E ce q9 f56 H locs hPX hw hS hce hcv hcl => ?_) (fun v f56 H locs hP hw hS => ?_)
        · exact hPX.elim
        · obtain ⟨ev9, hC57, k58⟩ := hP
          subst ev9
          have hC57 : CXW G f56 xo ez eo bu nw0 na0 nq0 nr0 nw1 na1 nq1 nr1 bs bp bh bf bl bg S0 (openS gw1 S1) gw0 ga0 gw1 ga1 n a cg x sa pk fl gv gh gl := hC57
          refine W.eq (g2 := F0 m 503 ls [.int ((S1.2.1 + 1))]) rfl ?_
          refine lv_aload hx hb dL_links_503 (lv_at hl9 14 rfl) ?_
          refine lv_iload hx hb dL_links_505 (lv_at hl9 3 rfl) ?_
          refine lv_iconst (v := 1) hx hb dL_links_507 (by decide) ?_
          refine lv_iadd hx hb dL_links_508 ?_
          refine hp_c (v := 9) (by decide) ?_
          have h59 : f53 le = some (.inl (cI G, 16, .inl (jE (eSt S0) (e8r ((openS gw1 S1).1) ((openS gw1 S1).2.1) ((openS gw1 S1).2.2.1) ((openS gw1 S1).2.2.2.1) ((openS gw1 S1).2.2.2.2.1) ((openS gw1 S1).2.2.2.2.2.1) ((openS gw1 S1).2.2.2.2.2.2.1) (nI (openS gw1 S1).2.2.2.2.2.2.2.2.length))))) := k55 _ _ h41 (Nat.ne_of_beq_eq_false rfl) (hdos _ (List.mem_cons_of_mem _ (List.mem_cons_of_mem _ (List.mem_cons_of_mem _ (List.mem_cons_of_mem _ (List.mem_cons_of_mem _ List.mem_cons_self))))))
          have h60 : f56 le = some (.inl (cI G, 16, .inl (jE (eSt S0) (e8r ((openS gw1 S1).1) ((openS gw1 S1).2.1) ((openS gw1 S1).2.2.1) ((openS gw1 S1).2.2.2.1) ((openS gw1 S1).2.2.2.2.1) ((openS gw1 S1).2.2.2.2.2.1) ((openS gw1 S1).2.2.2.2.2.2.1) (nI (openS gw1 S1).2.2.2.2.2.2.2.2.length))))) := k58 _ _ h59 (Nat.ne_of_beq_eq_false rfl) (hdos _ (List.mem_cons_of_mem _ (List.mem_cons_of_mem _ (List.mem_cons_of_mem _ (List.mem_cons_of_mem _ (List.mem_cons_of_mem _ List.mem_cons_self))))))
          refine hp_iald B0 hw h60 (by unfold vp_in; decide) dL_links_509 ?_
          refine hp_c (v := (openS gw1 S1).2.1) (rfl) ?_
          refine lv_icmp_ne (tgt := 517) hx hb dL_links_510 (by decide) (fun c9 => absurd (openS_id gw1 S1).symm c9) (fun _ => ?_)
          refine lv_iconst (v := 1) hx hb dL_links_513 (by decide) ?_
          refine lv_goto (tgt := 518) hx hb dL_links_514 (by decide) ?_
          have h61 : f53 lx = some (.inl (cJ G, 64, .inr (.inl xs0))) := k55 _ _ h44 (Nat.ne_of_beq_eq_false rfl) (hdos _ List.mem_cons_self)
          have h62 : f56 lx = some (.inl (cJ G, 64, .inr (.inl xs0))) := k58 _ _ h61 (Nat.ne_of_beq_eq_false rfl) (hdos _ List.mem_cons_self)
          have h63 : f53 ly = some (.inl (cJ G, 64, .inr (.inl xs36))) := k55 _ _ h37 (Nat.ne_of_beq_eq_false rfl) (hdos _ (List.mem_cons_of_mem _ List.mem_cons_self))
          have h64 : f56 ly = some (.inl (cJ G, 64, .inr (.inl xs36))) := k58 _ _ h63 (Nat.ne_of_beq_eq_false rfl) (hdos _ (List.mem_cons_of_mem _ List.mem_cons_self))
          have h65 : f53 lw = some (.inl (cI G, 12, .inl (j6r gw0 gw1))) := k55 _ _ h47 (Nat.ne_of_beq_eq_false rfl) (hdos _ (List.mem_cons_of_mem _ (List.mem_cons_of_mem _ List.mem_cons_self)))
          have h66 : f56 lw = some (.inl (cI G, 12, .inl (j6r gw0 gw1))) := k58 _ _ h65 (Nat.ne_of_beq_eq_false rfl) (hdos _ (List.mem_cons_of_mem _ (List.mem_cons_of_mem _ List.mem_cons_self)))
          have h67 : f53 la = some (.inl (cI G, 12, .inl (j6r ga0 ga1))) := k55 _ _ h50 (Nat.ne_of_beq_eq_false rfl) (hdos _ (List.mem_cons_of_mem _ (List.mem_cons_of_mem _ (List.mem_cons_of_mem _ List.mem_cons_self))))
          have h68 : f56 la = some (.inl (cI G, 12, .inl (j6r ga0 ga1))) := k58 _ _ h67 (Nat.ne_of_beq_eq_false rfl) (hdos _ (List.mem_cons_of_mem _ (List.mem_cons_of_mem _ (List.mem_cons_of_mem _ List.mem_cons_self))))
          have h69 : f53 lq = some (.inl (cI G, 12, .inl (j6r S0.2.2.2.2.2.2.2.1 (cpyF gw1 S1.2.2.2.2.2.2.2.1)))) := k55 _ _ h51 (Nat.ne_of_beq_eq_false rfl) (hdos _ (List.mem_cons_of_mem _ (List.mem_cons_of_mem _ (List.mem_cons_of_mem _ (List.mem_cons_of_mem _ List.mem_cons_self)))))
          have h70 : f56 lq = some (.inl (cI G, 12, .inl (j6r S0.2.2.2.2.2.2.2.1 (cpyF gw1 S1.2.2.2.2.2.2.2.1)))) := k58 _ _ h69 (Nat.ne_of_beq_eq_false rfl) (hdos _ (List.mem_cons_of_mem _ (List.mem_cons_of_mem _ (List.mem_cons_of_mem _ (List.mem_cons_of_mem _ List.mem_cons_self)))))
          exact hp_zret (v := 1) B0 hw hS hr ⟨Nat.le_of_ble_eq_true rfl, Nat.le_of_ble_eq_true rfl⟩ (rfl) dL_links_518 (⟨rfl, S0, (openS gw1 S1), gw0, ga0, gw1, ga1, hC57, ⟨⟨_, h62, hX0⟩, ⟨_, h64, (show XS xs36 (openS gw1 S1).2.2.2.2.2.2.2.2 from hX38)⟩, h66, h68, (by rw [openS_gq]; exact h70), h60⟩, ⟨SOK.mono hSo0 (by omega), SOK.mono (SOK.opn hSo1 (by omega) hgw1) (by omega), hgw0, hga0, hgw1, hga1⟩, hl0, (Nat.le_trans (openS_len gw1 S1) (by omega)), ((show hKn [lx, ly, lw, la, lq, le, xo, ez, eo, bu, nw0, na0, nq0, nr0, nw1, na1, nq1, nr1, bs, bp, bh, bf, bl, bg] f f23 from (by rw [e24]; exact hKn.up (List.mem_cons_of_mem _ (List.mem_cons_of_mem _ (List.mem_cons_of_mem _ (List.mem_cons_of_mem _ List.mem_cons_self)))))).tr ((show hKn [lx, ly, lw, la, lq, le, xo, ez, eo, bu, nw0, na0, nq0, nr0, nw1, na1, nq1, nr1, bs, bp, bh, bf, bl, bg] f23 f29 from (by rw [e30]; exact hKn.up (List.mem_cons_of_mem _ (List.mem_cons_of_mem _ (List.mem_cons_of_mem _ (List.mem_cons_of_mem _ (List.mem_cons_of_mem _ List.mem_cons_self))))))).tr ((show hKn [lx, ly, lw, la, lq, le, xo, ez, eo, bu, nw0, na0, nq0, nr0, nw1, na1, nq1, nr1, bs, bp, bh, bf, bl, bg] f29 f35 from (hKn.mono (hKn.eq k40) (sub_cons (List.mem_cons_of_mem _ List.mem_cons_self) (sub_cons (List.mem_cons_of_mem _ (List.mem_cons_of_mem _ (List.mem_cons_of_mem _ (List.mem_cons_of_mem _ (List.mem_cons_of_mem _ List.mem_cons_self))))) sub_nil)))).tr ((show hKn [lx, ly, lw, la, lq, le, xo, ez, eo, bu, nw0, na0, nq0, nr0, nw1, na1, nq1, nr1, bs, bp, bh, bf, bl, bg] f35 f53 from (hKn.mono k55 sbA)).tr (show hKn [lx, ly, lw, la, lq, le, xo, ez, eo, bu, nw0, na0, nq0, nr0, nw1, na1, nq1, nr1, bs, bp, bh, bf, bl, bg] f53 f56 from (hKn.mono k58 sbA))))))⟩)
  · refine lv_aload_n hx hb dL_links_398 rfl (lv_at hl9 4 rfl) ?_
    refine lv_iload hx hb dL_links_399 (lv_at hl9 3 rfl) ?_
    refine hp_SH (As := [.ref xo, .int 1]) (rest := []) B0 hw hS (c_V_open_S1 hl G f xo ez eo bu nw0 na0 nq0 nr0 nw1 na1 nq1 nr1 bs bp bh bf bl bg S0 S1 gw0 ga0 gw1 ga1 n a cg x sa pk fl gv gh gl hC (Nat.lt_of_le_of_lt hl0 (by decide)) (Nat.lt_of_le_of_lt hl1 (by decide)) (st1_of c2)) mH_L_open qM_L_106 rfl rfl hl9.1 (Nat.le_of_ble_eq_true rfl) ⟨⟨Nat.le_of_ble_eq_true rfl, Nat.le_of_ble_eq_true rfl⟩, Nat.le_of_ble_eq_true rfl, Nat.le_of_ble_eq_true rfl⟩ dL_links_401 (fun E ce q9 f71 H locs hPX hw hS hce hcv hcl => ?_) (fun v f71 H locs hP hw hS => ?_)
    · exact hPX.elim
    · obtain ⟨ev9, hC72, k73⟩ := hP
      subst ev9
      have hC72 : CXW G f71 xo ez eo bu nw0 na0 nq0 nr0 nw1 na1 nq1 nr1 bs bp bh bf bl bg S0 S1 gw0 ga0 gw1 ga1 n a cg x sa pk fl gv gh gl := hC72
      refine W.eq (g2 := F0 m 404 ls [.int (-73)]) rfl ?_
      refine lv_bipush (v := (-73)) hx hb dL_links_404 (by decide) ?_
      refine lv_icmp_ne (tgt := 423) hx hb dL_links_406 (by decide) (fun c9 => absurd (by decide) c9) (fun _ => ?_)
      refine lv_aload_n hx hb dL_links_409 rfl (lv_at hl9 4 rfl) ?_
      refine lv_iconst (v := 2) hx hb dL_links_410 (by decide) ?_
      refine hp_SH (As := [.ref xo, .int 2]) (rest := []) B0 hw hS (c_V_open_E hl G f71 xo ez eo bu nw0 na0 nq0 nr0 nw1 na1 nq1 nr1 bs bp bh bf bl bg S0 S1 gw0 ga0 gw1 ga1 n a cg x sa pk fl gv gh gl hC72 (Nat.lt_of_le_of_lt hl0 (by decide)) (Nat.lt_of_le_of_lt hl1 (by decide)) 2 (by decide)) mH_L_open qM_L_106 rfl rfl hl9.1 (Nat.le_of_ble_eq_true rfl) ⟨⟨Nat.le_of_ble_eq_true rfl, Nat.le_of_ble_eq_true rfl⟩, Nat.le_of_ble_eq_true rfl, Nat.le_of_ble_eq_true rfl⟩ dL_links_411 (fun E ce q9 f74 H locs hPX hw hS hce hcv hcl => ?_) (fun v f74 H locs hP hw hS => ?_)
      · exact hPX.elim
      · obtain ⟨ev9, hC75, k76⟩ := hP
        subst ev9
        have hC75 : CXW G f74 xo ez eo bu nw0 na0 nq0 nr0 nw1 na1 nq1 nr1 bs bp bh bf bl bg S0 S1 gw0 ga0 gw1 ga1 n a cg x sa pk fl gv gh gl := hC75
        refine W.eq (g2 := F0 m 414 ls [.int (-71)]) rfl ?_
        refine lv_bipush (v := (-71)) hx hb dL_links_414 (by decide) ?_
        refine lv_icmp_ne (tgt := 423) hx hb dL_links_416 (by decide) (fun c9 => absurd (by decide) c9) (fun _ => ?_)
        refine lv_iconst (v := 1) hx hb dL_links_419 (by decide) ?_
        refine lv_goto (tgt := 424) hx hb dL_links_420 (by decide) ?_
        have h77 : f71 lx = some (.inl (cJ G, 64, .inr (.inl xs0))) := k73 _ _ k_lx (Nat.ne_of_beq_eq_false rfl) (hdos _ List.mem_cons_self)
        have h78 : f74 lx = some (.inl (cJ G, 64, .inr (.inl xs0))) := k76 _ _ h77 (Nat.ne_of_beq_eq_false rfl) (hdos _ List.mem_cons_self)
        have h79 : f71 ly = some (.inl (cJ G, 64, .inr (.inl xs1))) := k73 _ _ k_ly (Nat.ne_of_beq_eq_false rfl) (hdos _ (List.mem_cons_of_mem _ List.mem_cons_self))
        have h80 : f74 ly = some (.inl (cJ G, 64, .inr (.inl xs1))) := k76 _ _ h79 (Nat.ne_of_beq_eq_false rfl) (hdos _ (List.mem_cons_of_mem _ List.mem_cons_self))
        have h81 : f71 lw = some (.inl (cI G, 12, .inl (j6r gw0 gw1))) := k73 _ _ k_lw (Nat.ne_of_beq_eq_false rfl) (hdos _ (List.mem_cons_of_mem _ (List.mem_cons_of_mem _ List.mem_cons_self)))
        have h82 : f74 lw = some (.inl (cI G, 12, .inl (j6r gw0 gw1))) := k76 _ _ h81 (Nat.ne_of_beq_eq_false rfl) (hdos _ (List.mem_cons_of_mem _ (List.mem_cons_of_mem _ List.mem_cons_self)))
        have h83 : f71 la = some (.inl (cI G, 12, .inl (j6r ga0 ga1))) := k73 _ _ k_la (Nat.ne_of_beq_eq_false rfl) (hdos _ (List.mem_cons_of_mem _ (List.mem_cons_of_mem _ (List.mem_cons_of_mem _ List.mem_cons_self))))
        have h84 : f74 la = some (.inl (cI G, 12, .inl (j6r ga0 ga1))) := k76 _ _ h83 (Nat.ne_of_beq_eq_false rfl) (hdos _ (List.mem_cons_of_mem _ (List.mem_cons_of_mem _ (List.mem_cons_of_mem _ List.mem_cons_self))))
        have h85 : f71 lq = some (.inl (cI G, 12, .inl (j6r S0.2.2.2.2.2.2.2.1 S1.2.2.2.2.2.2.2.1))) := k73 _ _ k_lq (Nat.ne_of_beq_eq_false rfl) (hdos _ (List.mem_cons_of_mem _ (List.mem_cons_of_mem _ (List.mem_cons_of_mem _ (List.mem_cons_of_mem _ List.mem_cons_self)))))
        have h86 : f74 lq = some (.inl (cI G, 12, .inl (j6r S0.2.2.2.2.2.2.2.1 S1.2.2.2.2.2.2.2.1))) := k76 _ _ h85 (Nat.ne_of_beq_eq_false rfl) (hdos _ (List.mem_cons_of_mem _ (List.mem_cons_of_mem _ (List.mem_cons_of_mem _ (List.mem_cons_of_mem _ List.mem_cons_self)))))
        have h87 : f71 le = some (.inl (cI G, 16, .inl (jE (eSt S0) (e8r S1.1 S1.2.1 S1.2.2.1 S1.2.2.2.1 S1.2.2.2.2.1 S1.2.2.2.2.2.1 S1.2.2.2.2.2.2.1 (nI S1.2.2.2.2.2.2.2.2.length))))) := k73 _ _ h1 (Nat.ne_of_beq_eq_false rfl) (hdos _ (List.mem_cons_of_mem _ (List.mem_cons_of_mem _ (List.mem_cons_of_mem _ (List.mem_cons_of_mem _ (List.mem_cons_of_mem _ List.mem_cons_self))))))
        have h88 : f74 le = some (.inl (cI G, 16, .inl (jE (eSt S0) (e8r S1.1 S1.2.1 S1.2.2.1 S1.2.2.2.1 S1.2.2.2.2.1 S1.2.2.2.2.2.1 S1.2.2.2.2.2.2.1 (nI S1.2.2.2.2.2.2.2.2.length))))) := k76 _ _ h87 (Nat.ne_of_beq_eq_false rfl) (hdos _ (List.mem_cons_of_mem _ (List.mem_cons_of_mem _ (List.mem_cons_of_mem _ (List.mem_cons_of_mem _ (List.mem_cons_of_mem _ List.mem_cons_self))))))
        exact hp_zret (v := 1) B0 hw hS hr ⟨Nat.le_of_ble_eq_true rfl, Nat.le_of_ble_eq_true rfl⟩ (rfl) dL_links_424 (⟨rfl, S0, S1, gw0, ga0, gw1, ga1, hC75, ⟨⟨_, h78, hX0⟩, ⟨_, h80, hX1⟩, h82, h84, h86, h88⟩, ⟨SOK.mono hSo0 (by omega), SOK.mono hSo1 (by omega), hgw0, hga0, hgw1, hga1⟩, hl0, hl1, ((show hKn [lx, ly, lw, la, lq, le, xo, ez, eo, bu, nw0, na0, nq0, nr0, nw1, na1, nq1, nr1, bs, bp, bh, bf, bl, bg] f f71 from (hKn.mono k73 sbA)).tr (show hKn [lx, ly, lw, la, lq, le, xo, ez, eo, bu, nw0, na0, nq0, nr0, nw1, na1, nq1, nr1, bs, bp, bh, bf, bl, bg] f71 f74 from (hKn.mono k76 sbA)))⟩)

set_option maxHeartbeats 4000000 in
set_option maxRecDepth 100000 in
theorem lk_c_0 {l : Launch} (hl : l.stackTraces = false) (G : hG) (f : hM) (xo ez eo bu nw0 na0 nq0 nr0 nw1 na1 nq1 nr1 bs bp bh bf bl bg : Nat) (S0 : ES) (S1 : ES) (gw0 : Nat → Int32) (ga0 : Nat → Int32) (gw1 : Nat → Int32) (ga1 : Nat → Int32) (n : Nat) (a : Nat) (cg : Nat) (x : Nat) (sa : Nat → Nat) (pk : Nat → Nat) (fl : Nat → Nat) (gv : Nat → Nat) (gh : Nat → Int32) (gl : Nat → Int32) (hC : CXW G f xo ez eo bu nw0 na0 nq0 nr0 nw1 na1 nq1 nr1 bs bp bh bf bl bg S0 S1 gw0 ga0 gw1 ga1 n a cg x sa pk fl gv gh gl) (lx ly lw la lq le : Nat) (hdis : ∀ p, p ∈ [xo, ez, eo, bu, nw0, na0, nq0, nr0, nw1, na1, nq1, nr1, bs, bp, bh, bf, bl, bg] → p ∉ [lx, ly, lw, la, lq, le]) (hdos : ∀ p, p ∈ [lx, ly, lw, la, lq, le] → p ∉ [xo, ez, eo, bu, nw0, na0, nq0, nr0, nw1, na1, nq1, nr1, bs, bp, bh, bf, bl, bg]) (n_lx_ly : lx ≠ ly) (n_lw_la : lw ≠ la) (n_lw_lq : lw ≠ lq) (n_la_lq : la ≠ lq) (hLX : LX G f lx ly lw la lq le S0 S1 gw0 ga0 gw1 ga1) (b : Nat) (hInv : INV b S0 S1 gw0 ga0 gw1 ga1) (hbb : b + 200 ≤ 1000000) (hl0 : S0.2.2.2.2.2.2.2.2.length ≤ 52) (hl1 : S1.2.2.2.2.2.2.2.2.length ≤ 52) (ac : Nat) (hac : ac < 24) (hact : ac ≠ 22 → S0.2.2.2.2.2.2.2.2.length ≤ 40 ∧ S1.2.2.2.2.2.2.2.2.length ≤ 40) (u z : Int32) {p : Program} {e : Env} {s : State} {m : MethodId} {args : Array Value} {below : List Frame} {meth : Method} {c : Code} (B0 : hB p l s m args meth c cL_links 17 RL G) (hr : meth.sig.returnType = some .boolean) {H : Heap} {locs : List Loc} {ls : Array Slot} (hw : hW G f H) (hS : va_S (hFr G) s.heap H locs) (j13 : Nat) (hj13 : j13 < 6) (hc : nI ac = 10) (hl9 : lv_has ls 17 [(13, .int (nI j13)), (12, .ref lx), (11, .int 0), (10, .int 0), (0, .ref xo), (1, .int (nI ac)), (2, .int u), (3, .int z), (4, .ref lx), (5, .ref ly), (6, .ref lw), (7, .ref la), (8, .ref lq), (9, .ref le)]) : W p l e { frames := 9, cells := 203, slots := 1118, locals := 178 } s m args below meth c H locs 0 0 (vx_MQ below (hQ G (fun v f1 => v = some (.int 1) ∧ ∃ (S2 S3 : ES) (w0 a0 w1 a1 : Nat → Int32), CXW G f1 xo ez eo bu nw0 na0 nq0 nr0 nw1 na1 nq1 nr1 bs bp bh bf bl bg S2 S3 w0 a0 w1 a1 n a cg x sa pk fl gv gh gl ∧ LX G f1 lx ly lw la lq le S2 S3 w0 a0 w1 a1 ∧ INV (b + 100) S2 S3 w0 a0 w1 a1 ∧ S2.2.2.2.2.2.2.2.2.length ≤ 52 ∧ S3.2.2.2.2.2.2.2.2.length ≤ 52 ∧ hKn [lx, ly, lw, la, lq, le, xo, ez, eo, bu, nw0, na0, nq0, nr0, nw1, na1, nq1, nr1, bs, bp, bh, bf, bl, bg] f f1)) (hX G (fun E f1 => False)) args s 203 1118 (hFr G)) (F0 m 525 ls []) := by
  have hx := B0.1
  have hb := B0.2.1
  obtain ⟨⟨xs0, k_lx, hX0⟩, ⟨xs1, k_ly, hX1⟩, k_lw, k_la, k_lq, k_le⟩ := hLX
  obtain ⟨hSo0, hSo1, hgw0, hga0, hgw1, hga1⟩ := id hInv
  have n_lx_lw : lx ≠ lw := hneL k_lx k_lw (Nat.ne_of_beq_eq_false rfl)
  have n_lx_la : lx ≠ la := hneL k_lx k_la (Nat.ne_of_beq_eq_false rfl)
  have n_lx_lq : lx ≠ lq := hneL k_lx k_lq (Nat.ne_of_beq_eq_false rfl)
  have n_lx_le : lx ≠ le := hneL k_lx k_le (Nat.ne_of_beq_eq_false rfl)
  have n_ly_lw : ly ≠ lw := hneL k_ly k_lw (Nat.ne_of_beq_eq_false rfl)
  have n_ly_la : ly ≠ la := hneL k_ly k_la (Nat.ne_of_beq_eq_false rfl)
  have n_ly_lq : ly ≠ lq := hneL k_ly k_lq (Nat.ne_of_beq_eq_false rfl)
  have n_ly_le : ly ≠ le := hneL k_ly k_le (Nat.ne_of_beq_eq_false rfl)
  have n_lw_le : lw ≠ le := hneL k_lw k_le (Nat.ne_of_beq_eq_false rfl)
  have n_la_le : la ≠ le := hneL k_la k_le (Nat.ne_of_beq_eq_false rfl)
  have n_lq_le : lq ≠ le := hneL k_lq k_le (Nat.ne_of_beq_eq_false rfl)
  have sbA : ∀ x9, x9 ∈ [xo, ez, eo, bu, nw0, na0, nq0, nr0, nw1, na1, nq1, nr1, bs, bp, bh, bf, bl, bg] → x9 ∈ [lx, ly, lw, la, lq, le, xo, ez, eo, bu, nw0, na0, nq0, nr0, nw1, na1, nq1, nr1, bs, bp, bh, bf, bl, bg] := (sub_cons (List.mem_cons_of_mem _ (List.mem_cons_of_mem _ (List.mem_cons_of_mem _ (List.mem_cons_of_mem _ (List.mem_cons_of_mem _ (List.mem_cons_of_mem _ List.mem_cons_self)))))) (sub_cons (List.mem_cons_of_mem _ (List.mem_cons_of_mem _ (List.mem_cons_of_mem _ (List.mem_cons_of_mem _ (List.mem_cons_of_mem _ (List.mem_cons_of_mem _ (List.mem_cons_of_mem _ List.mem_cons_self))))))) (sub_cons (List.mem_cons_of_mem _ (List.mem_cons_of_mem _ (List.mem_cons_of_mem _ (List.mem_cons_of_mem _ (List.mem_cons_of_mem _ (List.mem_cons_of_mem _ (List.mem_cons_of_mem _ (List.mem_cons_of_mem _ List.mem_cons_self)))))))) (sub_cons (List.mem_cons_of_mem _ (List.mem_cons_of_mem _ (List.mem_cons_of_mem _ (List.mem_cons_of_mem _ (List.mem_cons_of_mem _ (List.mem_cons_of_mem _ (List.mem_cons_of_mem _ (List.mem_cons_of_mem _ (List.mem_cons_of_mem _ List.mem_cons_self))))))))) (sub_cons (List.mem_cons_of_mem _ (List.mem_cons_of_mem _ (List.mem_cons_of_mem _ (List.mem_cons_of_mem _ (List.mem_cons_of_mem _ (List.mem_cons_of_mem _ (List.mem_cons_of_mem _ (List.mem_cons_of_mem _ (List.mem_cons_of_mem _ (List.mem_cons_of_mem _ List.mem_cons_self)))))))))) (sub_cons (List.mem_cons_of_mem _ (List.mem_cons_of_mem _ (List.mem_cons_of_mem _ (List.mem_cons_of_mem _ (List.mem_cons_of_mem _ (List.mem_cons_of_mem _ (List.mem_cons_of_mem _ (List.mem_cons_of_mem _ (List.mem_cons_of_mem _ (List.mem_cons_of_mem _ (List.mem_cons_of_mem _ List.mem_cons_self))))))))))) (sub_cons (List.mem_cons_of_mem _ (List.mem_cons_of_mem _ (List.mem_cons_of_mem _ (List.mem_cons_of_mem _ (List.mem_cons_of_mem _ (List.mem_cons_of_mem _ (List.mem_cons_of_mem _ (List.mem_cons_of_mem _ (List.mem_cons_of_mem _ (List.mem_cons_of_mem _ (List.mem_cons_of_mem _ (List.mem_cons_of_mem _ List.mem_cons_self)))))))))))) (sub_cons (List.mem_cons_of_mem _ (List.mem_cons_of_mem _ (List.mem_cons_of_mem _ (List.mem_cons_of_mem _ (List.mem_cons_of_mem _ (List.mem_cons_of_mem _ (List.mem_cons_of_mem _ (List.mem_cons_of_mem _ (List.mem_cons_of_mem _ (List.mem_cons_of_mem _ (List.mem_cons_of_mem _ (List.mem_cons_of_mem _ (List.mem_cons_of_mem _ List.mem_cons_self))))))))))))) (sub_cons (List.mem_cons_of_mem _ (List.mem_cons_of_mem _ (List.mem_cons_of_mem _ (List.mem_cons_of_mem _ (List.mem_cons_of_mem _ (List.mem_cons_of_mem _ (List.mem_cons_of_mem _ (List.mem_cons_of_mem _ (List.mem_cons_of_mem _ (List.mem_cons_of_mem _ (List.mem_cons_of_mem _ (List.mem_cons_of_mem _ (List.mem_cons_of_mem _ (List.mem_cons_of_mem _ List.mem_cons_self)))))))))))))) (sub_cons (List.mem_cons_of_mem _ (List.mem_cons_of_mem _ (List.mem_cons_of_mem _ (List.mem_cons_of_mem _ (List.mem_cons_of_mem _ (List.mem_cons_of_mem _ (List.mem_cons_of_mem _ (List.mem_cons_of_mem _ (List.mem_cons_of_mem _ (List.mem_cons_of_mem _ (List.mem_cons_of_mem _ (List.mem_cons_of_mem _ (List.mem_cons_of_mem _ (List.mem_cons_of_mem _ (List.mem_cons_of_mem _ List.mem_cons_self))))))))))))))) (sub_cons (List.mem_cons_of_mem _ (List.mem_cons_of_mem _ (List.mem_cons_of_mem _ (List.mem_cons_of_mem _ (List.mem_cons_of_mem _ (List.mem_cons_of_mem _ (List.mem_cons_of_mem _ (List.mem_cons_of_mem _ (List.mem_cons_of_mem _ (List.mem_cons_of_mem _ (List.mem_cons_of_mem _ (List.mem_cons_of_mem _ (List.mem_cons_of_mem _ (List.mem_cons_of_mem _ (List.mem_cons_of_mem _ (List.mem_cons_of_mem _ List.mem_cons_self)))))))))))))))) (sub_cons (List.mem_cons_of_mem _ (List.mem_cons_of_mem _ (List.mem_cons_of_mem _ (List.mem_cons_of_mem _ (List.mem_cons_of_mem _ (List.mem_cons_of_mem _ (List.mem_cons_of_mem _ (List.mem_cons_of_mem _ (List.mem_cons_of_mem _ (List.mem_cons_of_mem _ (List.mem_cons_of_mem _ (List.mem_cons_of_mem _ (List.mem_cons_of_mem _ (List.mem_cons_of_mem _ (List.mem_cons_of_mem _ (List.mem_cons_of_mem _ (List.mem_cons_of_mem _ List.mem_cons_self))))))))))))))))) (sub_cons (List.mem_cons_of_mem _ (List.mem_cons_of_mem _ (List.mem_cons_of_mem _ (List.mem_cons_of_mem _ (List.mem_cons_of_mem _ (List.mem_cons_of_mem _ (List.mem_cons_of_mem _ (List.mem_cons_of_mem _ (List.mem_cons_of_mem _ (List.mem_cons_of_mem _ (List.mem_cons_of_mem _ (List.mem_cons_of_mem _ (List.mem_cons_of_mem _ (List.mem_cons_of_mem _ (List.mem_cons_of_mem _ (List.mem_cons_of_mem _ (List.mem_cons_of_mem _ (List.mem_cons_of_mem _ List.mem_cons_self)))))))))))))))))) (sub_cons (List.mem_cons_of_mem _ (List.mem_cons_of_mem _ (List.mem_cons_of_mem _ (List.mem_cons_of_mem _ (List.mem_cons_of_mem _ (List.mem_cons_of_mem _ (List.mem_cons_of_mem _ (List.mem_cons_of_mem _ (List.mem_cons_of_mem _ (List.mem_cons_of_mem _ (List.mem_cons_of_mem _ (List.mem_cons_of_mem _ (List.mem_cons_of_mem _ (List.mem_cons_of_mem _ (List.mem_cons_of_mem _ (List.mem_cons_of_mem _ (List.mem_cons_of_mem _ (List.mem_cons_of_mem _ (List.mem_cons_of_mem _ List.mem_cons_self))))))))))))))))))) (sub_cons (List.mem_cons_of_mem _ (List.mem_cons_of_mem _ (List.mem_cons_of_mem _ (List.mem_cons_of_mem _ (List.mem_cons_of_mem _ (List.mem_cons_of_mem _ (List.mem_cons_of_mem _ (List.mem_cons_of_mem _ (List.mem_cons_of_mem _ (List.mem_cons_of_mem _ (List.mem_cons_of_mem _ (List.mem_cons_of_mem _ (List.mem_cons_of_mem _ (List.mem_cons_of_mem _ (List.mem_cons_of_mem _ (List.mem_cons_of_mem _ (List.mem_cons_of_mem _ (List.mem_cons_of_mem _ (List.mem_cons_of_mem _ (List.mem_cons_of_mem _ List.mem_cons_self)))))))))))))))))))) (sub_cons (List.mem_cons_of_mem _ (List.mem_cons_of_mem _ (List.mem_cons_of_mem _ (List.mem_cons_of_mem _ (List.mem_cons_of_mem _ (List.mem_cons_of_mem _ (List.mem_cons_of_mem _ (List.mem_cons_of_mem _ (List.mem_cons_of_mem _ (List.mem_cons_of_mem _ (List.mem_cons_of_mem _ (List.mem_cons_of_mem _ (List.mem_cons_of_mem _ (List.mem_cons_of_mem _ (List.mem_cons_of_mem _ (List.mem_cons_of_mem _ (List.mem_cons_of_mem _ (List.mem_cons_of_mem _ (List.mem_cons_of_mem _ (List.mem_cons_of_mem _ (List.mem_cons_of_mem _ List.mem_cons_self))))))))))))))))))))) (sub_cons (List.mem_cons_of_mem _ (List.mem_cons_of_mem _ (List.mem_cons_of_mem _ (List.mem_cons_of_mem _ (List.mem_cons_of_mem _ (List.mem_cons_of_mem _ (List.mem_cons_of_mem _ (List.mem_cons_of_mem _ (List.mem_cons_of_mem _ (List.mem_cons_of_mem _ (List.mem_cons_of_mem _ (List.mem_cons_of_mem _ (List.mem_cons_of_mem _ (List.mem_cons_of_mem _ (List.mem_cons_of_mem _ (List.mem_cons_of_mem _ (List.mem_cons_of_mem _ (List.mem_cons_of_mem _ (List.mem_cons_of_mem _ (List.mem_cons_of_mem _ (List.mem_cons_of_mem _ (List.mem_cons_of_mem _ List.mem_cons_self)))))))))))))))))))))) (sub_cons (List.mem_cons_of_mem _ (List.mem_cons_of_mem _ (List.mem_cons_of_mem _ (List.mem_cons_of_mem _ (List.mem_cons_of_mem _ (List.mem_cons_of_mem _ (List.mem_cons_of_mem _ (List.mem_cons_of_mem _ (List.mem_cons_of_mem _ (List.mem_cons_of_mem _ (List.mem_cons_of_mem _ (List.mem_cons_of_mem _ (List.mem_cons_of_mem _ (List.mem_cons_of_mem _ (List.mem_cons_of_mem _ (List.mem_cons_of_mem _ (List.mem_cons_of_mem _ (List.mem_cons_of_mem _ (List.mem_cons_of_mem _ (List.mem_cons_of_mem _ (List.mem_cons_of_mem _ (List.mem_cons_of_mem _ (List.mem_cons_of_mem _ List.mem_cons_self))))))))))))))))))))))) sub_nil))))))))))))))))))
  obtain ⟨xx, hxx, hx4⟩ := hSo0.2.2.2.2.1
  have h1 : f le = some (.inl (cI G, 16, .inl (jE (e8r S0.1 S0.2.1 S0.2.2.1 S0.2.2.2.1 S0.2.2.2.2.1 S0.2.2.2.2.2.1 S0.2.2.2.2.2.2.1 (nI S0.2.2.2.2.2.2.2.2.length)) (eSt S1)))) := k_le
  refine lv_iload_n hx hb dL_links_525 rfl (lv_at hl9 7 rfl) ?_
  refine lv_bipush (v := 6) hx hb dL_links_526 (by decide) ?_
  refine lv_iand hx hb dL_links_528 ?_
  refine lv_if_le (tgt := 548) hx hb dL_links_529 (by decide) (fun c2 => ?_) (fun c2 => ?_)
  · refine lv_aload hx hb dL_links_548 (lv_at hl9 13 rfl) ?_
    refine lv_iload hx hb dL_links_550 (lv_at hl9 2 rfl) ?_
    refine hp_iald B0 hw h1 (by unfold vp_in; decide) dL_links_552 ?_
    refine hp_c (v := S0.1) (rfl) ?_
    refine lv_if_ne (tgt := 573) hx hb dL_links_553 (by decide) (fun c3 => ?_) (fun c3 => ?_)
    · obtain ⟨h40a, h40b⟩ := hact (fun e9 => by subst e9; exact absurd hc (by decide))
      refine lv_aload hx hb dL_links_573 (lv_at hl9 13 rfl) ?_
      refine lv_iload hx hb dL_links_575 (lv_at hl9 2 rfl) ?_
      refine hp_iald B0 hw h1 (by unfold vp_in; decide) dL_links_577 ?_
      refine hp_c (v := S0.1) (rfl) ?_
      refine lv_istore (lv' := [(14, .int S0.1), (13, .int (nI j13)), (12, .ref lx), (11, .int 0), (10, .int 0), (0, .ref xo), (1, .int (nI ac)), (2, .int u), (3, .int z), (4, .ref lx), (5, .ref ly), (6, .ref lw), (7, .ref la), (8, .ref lq), (9, .ref le)]) hx hb dL_links_578 hl9 (by decide) rfl (fun ls hl9 => ?_)
      refine lv_aload hx hb dL_links_580 (lv_at hl9 2 rfl) ?_
      refine lv_aload hx hb dL_links_582 (lv_at hl9 14 rfl) ?_
      refine lv_iload hx hb dL_links_584 (lv_at hl9 4 rfl) ?_
      refine lv_iconst (v := 4) hx hb dL_links_586 (by decide) ?_
      refine lv_iconst (v := 0) hx hb dL_links_587 (by decide) ?_
      refine lv_lconst (v := lN 0) hx hb dL_links_588 rfl ?_
      refine hp_S (As := [.ref lx, .ref le, .int 0, .int 4, .int 0, .long (lN 0)]) (rest := []) B0 hw hS (c_L_post_0 hl G f lx le xs0 (jE (e8r S0.1 S0.2.1 S0.2.2.1 S0.2.2.2.1 S0.2.2.2.2.1 S0.2.2.2.2.2.1 S0.2.2.2.2.2.2.1 (nI S0.2.2.2.2.2.2.2.2.length)) (eSt S1)) k_lx h1 4 0 0 xx S0.2.2.2.2.2.2.2.2.length (by omega) (by omega) (show (jE (e8r S0.1 S0.2.1 S0.2.2.1 S0.2.2.2.1 S0.2.2.2.2.1 S0.2.2.2.2.2.1 S0.2.2.2.2.2.2.1 (nI S0.2.2.2.2.2.2.2.2.length)) (eSt S1)) 6 = nI xx from hxx) (by omega) (show (jE (e8r S0.1 S0.2.1 S0.2.2.1 S0.2.2.2.1 S0.2.2.2.2.1 S0.2.2.2.2.2.1 S0.2.2.2.2.2.2.1 (nI S0.2.2.2.2.2.2.2.2.length)) (eSt S1)) 7 = nI S0.2.2.2.2.2.2.2.2.length from rfl) (by omega)) mS_L_post qM_L_73 rfl rfl hl9.1 (Nat.le_of_ble_eq_true rfl) ⟨⟨Nat.le_of_ble_eq_true rfl, Nat.le_of_ble_eq_true rfl⟩, Nat.le_of_ble_eq_true rfl, Nat.le_of_ble_eq_true rfl⟩ dL_links_589 (fun E ce q9 f4 H locs hPX hw hS hce hcv hcl => ?_) (fun v f4 H locs hP hw hS => ?_)
      · exact hPX.elim
      · obtain ⟨ev9, h5, h6, k7⟩ := hP
        subst ev9
        rw [show (upd (jE (e8r S0.1 S0.2.1 S0.2.2.1 S0.2.2.2.1 S0.2.2.2.2.1 S0.2.2.2.2.2.1 S0.2.2.2.2.2.2.1 (nI S0.2.2.2.2.2.2.2.2.length)) (eSt S1)) 7 (nI (S0.2.2.2.2.2.2.2.2.length + 1)) : Nat → Int32) = (jE (e8r S0.1 S0.2.1 S0.2.2.1 S0.2.2.2.1 S0.2.2.2.2.1 S0.2.2.2.2.2.1 S0.2.2.2.2.2.2.1 (nI (S0.2.2.2.2.2.2.2.2.length + 1))) (eSt S1)) from (by rw [jE_u0 (by omega), e8_u7])] at h6
        refine W.eq (g2 := F0 m 592 ls []) rfl ?_
        refine lv_aload hx hb dL_links_592 (lv_at hl9 14 rfl) ?_
        refine lv_iload hx hb dL_links_594 (lv_at hl9 3 rfl) ?_
        refine lv_iconst (v := 0) hx hb dL_links_596 (by decide) ?_
        refine hp_iast B0 hw hS h6 (by unfold vp_in; decide) dL_links_597 (fun H locs f8 ef8 hw hS => ?_)
        rw [show (upd (jE (e8r S0.1 S0.2.1 S0.2.2.1 S0.2.2.2.1 S0.2.2.2.2.1 S0.2.2.2.2.2.1 S0.2.2.2.2.2.2.1 (nI (S0.2.2.2.2.2.2.2.2.length + 1))) (eSt S1)) (0 : Int32).toNatClampNeg 0 : Nat → Int32) = (jE (e8r 0 S0.2.1 S0.2.2.1 S0.2.2.2.1 S0.2.2.2.2.1 S0.2.2.2.2.2.1 S0.2.2.2.2.2.2.1 (nI (S0.2.2.2.2.2.2.2.2.length + 1))) (eSt S1)) from (by rw [show (0 : Int32).toNatClampNeg = 0 from rfl, jE_u0 (by omega), e8_u0])] at ef8
        have h10 : f8 le = some (.inl (cI G, 16, .inl (jE (e8r 0 S0.2.1 S0.2.2.1 S0.2.2.2.1 S0.2.2.2.2.1 S0.2.2.2.2.2.1 S0.2.2.2.2.2.2.1 (nI (S0.2.2.2.2.2.2.2.2.length + 1))) (eSt S1)))) := by rw [ef8, va_up_self]
        have h11 : f8 lx = some (.inl (cJ G, 64, .inr (.inl (vp_updL xs0 S0.2.2.2.2.2.2.2.2.length (lN (4 + 8 * 0 + xx * 4294967296 + 0 * 68719476736)))))) := by rw [ef8, va_up_ne _ _ n_lx_le]; exact h5
        rw [stop_pk hxx hx4] at h11
        rw [show (e8r 0 S0.2.1 S0.2.2.1 S0.2.2.2.1 S0.2.2.2.2.1 S0.2.2.2.2.2.1 S0.2.2.2.2.2.2.1 (nI (S0.2.2.2.2.2.2.2.2.length + 1))) = eSt (closeS S0) from eS_app (gq := S0.2.2.2.2.2.2.2.1) (4, 0, S0.2.2.2.2.2.2.1, N6)] at h10
        have h12 : f8 le = some (.inl (cI G, 16, .inl (jE (e8r ((closeS S0).1) ((closeS S0).2.1) ((closeS S0).2.2.1) ((closeS S0).2.2.2.1) ((closeS S0).2.2.2.2.1) ((closeS S0).2.2.2.2.2.1) ((closeS S0).2.2.2.2.2.2.1) (nI (closeS S0).2.2.2.2.2.2.2.2.length)) (eSt S1)))) := h10
        refine lv_aload_n hx hb dL_links_598 rfl (lv_at hl9 5 rfl) ?_
        refine lv_iload hx hb dL_links_599 (lv_at hl9 4 rfl) ?_
        have h13 : f4 ly = some (.inl (cJ G, 64, .inr (.inl xs1))) := (hEq.k k7) _ _ k_ly (ninc (Ne.symm n_lx_ly) (ninc n_ly_le nin0))
        have h14 : f8 ly = some (.inl (cJ G, 64, .inr (.inl xs1))) := by rw [ef8, va_up_ne _ _ n_ly_le]; exact h13
        have h15 : f4 lw = some (.inl (cI G, 12, .inl (j6r gw0 gw1))) := (hEq.k k7) _ _ k_lw (ninc (Ne.symm n_lx_lw) (ninc n_lw_le nin0))
        have h16 : f8 lw = some (.inl (cI G, 12, .inl (j6r gw0 gw1))) := by rw [ef8, va_up_ne _ _ n_lw_le]; exact h15
        have h17 : f4 la = some (.inl (cI G, 12, .inl (j6r ga0 ga1))) := (hEq.k k7) _ _ k_la (ninc (Ne.symm n_lx_la) (ninc n_la_le nin0))
        have h18 : f8 la = some (.inl (cI G, 12, .inl (j6r ga0 ga1))) := by rw [ef8, va_up_ne _ _ n_la_le]; exact h17
        have h19 : f4 lq = some (.inl (cI G, 12, .inl (j6r S0.2.2.2.2.2.2.2.1 S1.2.2.2.2.2.2.2.1))) := (hEq.k k7) _ _ k_lq (ninc (Ne.symm n_lx_lq) (ninc n_lq_le nin0))
        have h20 : f8 lq = some (.inl (cI G, 12, .inl (j6r S0.2.2.2.2.2.2.2.1 S1.2.2.2.2.2.2.2.1))) := by rw [ef8, va_up_ne _ _ n_lq_le]; exact h19
        have hC21 : CXW G f8 xo ez eo bu nw0 na0 nq0 nr0 nw1 na1 nq1 nr1 bs bp bh bf bl bg S0 S1 gw0 ga0 gw1 ga1 n a cg x sa pk fl gv gh gl := CXW.eq hC ((show hEq [lx, ly, lw, la, lq, le] f f4 from (hEq.mono k7 (sub_cons List.mem_cons_self (sub_cons (List.mem_cons_of_mem _ (List.mem_cons_of_mem _ (List.mem_cons_of_mem _ (List.mem_cons_of_mem _ (List.mem_cons_of_mem _ List.mem_cons_self))))) sub_nil)))).tr (show hEq [lx, ly, lw, la, lq, le] f4 f8 from (by rw [ef8]; exact hEq.up (List.mem_cons_of_mem _ (List.mem_cons_of_mem _ (List.mem_cons_of_mem _ (List.mem_cons_of_mem _ (List.mem_cons_of_mem _ List.mem_cons_self)))))))) hdis (fun b9 hb9 => by
            simp only [List.mem_cons, List.not_mem_nil, or_false] at hb9
            rcases hb9 with hb9 | hb9 | hb9 | hb9 | hb9 | hb9
            · rw [hb9]; exact ⟨_, _, k_lx, h11, (Nat.ne_of_beq_eq_false rfl), (Nat.ne_of_beq_eq_false rfl)⟩
            · rw [hb9]; exact ⟨_, _, k_ly, h14, (Nat.ne_of_beq_eq_false rfl), (Nat.ne_of_beq_eq_false rfl)⟩
            · rw [hb9]; exact ⟨_, _, k_lw, h16, (Nat.ne_of_beq_eq_false rfl), (Nat.ne_of_beq_eq_false rfl)⟩
            · rw [hb9]; exact ⟨_, _, k_la, h18, (Nat.ne_of_beq_eq_false rfl), (Nat.ne_of_beq_eq_false rfl)⟩
            · rw [hb9]; exact ⟨_, _, k_lq, h20, (Nat.ne_of_beq_eq_false rfl), (Nat.ne_of_beq_eq_false rfl)⟩
            · rw [hb9]; exact ⟨_, _, h1, h12, (Nat.ne_of_beq_eq_false rfl), (Nat.ne_of_beq_eq_false rfl)⟩)
        refine hp_SH (As := [.ref xo, .int 0]) (rest := []) B0 hw hS (c_V_close_0 hl G f8 xo ez eo bu nw0 na0 nq0 nr0 nw1 na1 nq1 nr1 bs bp bh bf bl bg S0 S1 gw0 ga0 gw1 ga1 n a cg x sa pk fl gv gh gl hC21 (Nat.lt_of_le_of_lt hl0 (by decide)) (Nat.lt_of_le_of_lt hl1 (by decide)) c3) mH_L_close qM_L_109 rfl rfl hl9.1 (Nat.le_of_ble_eq_true rfl) ⟨⟨Nat.le_of_ble_eq_true rfl, Nat.le_of_ble_eq_true rfl⟩, Nat.le_of_ble_eq_true rfl, Nat.le_of_ble_eq_true rfl⟩ dL_links_601 (fun E ce q9 f22 H locs hPX hw hS hce hcv hcl => ?_) (fun v f22 H locs hP hw hS => ?_)
        · exact hPX.elim
        · obtain ⟨ev9, hC23, k24⟩ := hP
          subst ev9
          have hC23 : CXW G f22 xo ez eo bu nw0 na0 nq0 nr0 nw1 na1 nq1 nr1 bs bp bh bf bl bg (closeS S0) S1 gw0 ga0 gw1 ga1 n a cg x sa pk fl gv gh gl := hC23
          refine W.eq (g2 := F0 m 604 ls [.int (S0.1)]) rfl ?_
          refine lv_iload hx hb dL_links_604 (lv_at hl9 0 rfl) ?_
          refine lv_icmp_ne (tgt := 613) hx hb dL_links_606 (by decide) (fun c9 => absurd rfl c9) (fun _ => ?_)
          refine lv_iconst (v := 1) hx hb dL_links_609 (by decide) ?_
          refine lv_goto (tgt := 614) hx hb dL_links_610 (by decide) ?_
          have h25 : f22 lx = some (.inl (cJ G, 64, .inr (.inl (vp_updL xs0 S0.2.2.2.2.2.2.2.2.length (lN (pkN (4, 0, S0.2.2.2.2.2.2.1, N6))))))) := k24 _ _ h11 (Nat.ne_of_beq_eq_false rfl) (hdos _ List.mem_cons_self)
          have h26 : f22 ly = some (.inl (cJ G, 64, .inr (.inl xs1))) := k24 _ _ h14 (Nat.ne_of_beq_eq_false rfl) (hdos _ (List.mem_cons_of_mem _ List.mem_cons_self))
          have h27 : f22 lw = some (.inl (cI G, 12, .inl (j6r gw0 gw1))) := k24 _ _ h16 (Nat.ne_of_beq_eq_false rfl) (hdos _ (List.mem_cons_of_mem _ (List.mem_cons_of_mem _ List.mem_cons_self)))
          have h28 : f22 la = some (.inl (cI G, 12, .inl (j6r ga0 ga1))) := k24 _ _ h18 (Nat.ne_of_beq_eq_false rfl) (hdos _ (List.mem_cons_of_mem _ (List.mem_cons_of_mem _ (List.mem_cons_of_mem _ List.mem_cons_self))))
          have h29 : f22 lq = some (.inl (cI G, 12, .inl (j6r S0.2.2.2.2.2.2.2.1 S1.2.2.2.2.2.2.2.1))) := k24 _ _ h20 (Nat.ne_of_beq_eq_false rfl) (hdos _ (List.mem_cons_of_mem _ (List.mem_cons_of_mem _ (List.mem_cons_of_mem _ (List.mem_cons_of_mem _ List.mem_cons_self)))))
          have h30 : f22 le = some (.inl (cI G, 16, .inl (jE (e8r ((closeS S0).1) ((closeS S0).2.1) ((closeS S0).2.2.1) ((closeS S0).2.2.2.1) ((closeS S0).2.2.2.2.1) ((closeS S0).2.2.2.2.2.1) ((closeS S0).2.2.2.2.2.2.1) (nI (closeS S0).2.2.2.2.2.2.2.2.length)) (eSt S1)))) := k24 _ _ h12 (Nat.ne_of_beq_eq_false rfl) (hdos _ (List.mem_cons_of_mem _ (List.mem_cons_of_mem _ (List.mem_cons_of_mem _ (List.mem_cons_of_mem _ (List.mem_cons_of_mem _ List.mem_cons_self))))))
          exact hp_zret (v := 1) B0 hw hS hr ⟨Nat.le_of_ble_eq_true rfl, Nat.le_of_ble_eq_true rfl⟩ (rfl) dL_links_614 (⟨rfl, (closeS S0), S1, gw0, ga0, gw1, ga1, hC23, ⟨⟨_, h25, (show XS _ (closeS S0).2.2.2.2.2.2.2.2 from hX0.app _ rfl)⟩, ⟨_, h26, hX1⟩, h27, h28, h29, h30⟩, ⟨SOK.mono (SOK.close hSo0) (by omega), SOK.mono hSo1 (by omega), hgw0, hga0, hgw1, hga1⟩, (by rw [closeS_len]; omega), hl1, ((show hKn [lx, ly, lw, la, lq, le, xo, ez, eo, bu, nw0, na0, nq0, nr0, nw1, na1, nq1, nr1, bs, bp, bh, bf, bl, bg] f f4 from (hKn.mono (hKn.eq k7) (sub_cons List.mem_cons_self (sub_cons (List.mem_cons_of_mem _ (List.mem_cons_of_mem _ (List.mem_cons_of_mem _ (List.mem_cons_of_mem _ (List.mem_cons_of_mem _ List.mem_cons_self))))) sub_nil)))).tr ((show hKn [lx, ly, lw, la, lq, le, xo, ez, eo, bu, nw0, na0, nq0, nr0, nw1, na1, nq1, nr1, bs, bp, bh, bf, bl, bg] f4 f8 from (by rw [ef8]; exact hKn.up (List.mem_cons_of_mem _ (List.mem_cons_of_mem _ (List.mem_cons_of_mem _ (List.mem_cons_of_mem _ (List.mem_cons_of_mem _ List.mem_cons_self))))))).tr (show hKn [lx, ly, lw, la, lq, le, xo, ez, eo, bu, nw0, na0, nq0, nr0, nw1, na1, nq1, nr1, bs, bp, bh, bf, bl, bg] f8 f22 from (hKn.mono k24 sbA))))⟩)
    · refine lv_aload_n hx hb dL_links_556 rfl (lv_at hl9 4 rfl) ?_
      refine lv_iload hx hb dL_links_557 (lv_at hl9 3 rfl) ?_
      refine hp_SH (As := [.ref xo, .int 0]) (rest := []) B0 hw hS (c_V_close_S0 hl G f xo ez eo bu nw0 na0 nq0 nr0 nw1 na1 nq1 nr1 bs bp bh bf bl bg S0 S1 gw0 ga0 gw1 ga1 n a cg x sa pk fl gv gh gl hC (Nat.lt_of_le_of_lt hl0 (by decide)) (Nat.lt_of_le_of_lt hl1 (by decide)) c3) mH_L_close qM_L_109 rfl rfl hl9.1 (Nat.le_of_ble_eq_true rfl) ⟨⟨Nat.le_of_ble_eq_true rfl, Nat.le_of_ble_eq_true rfl⟩, Nat.le_of_ble_eq_true rfl, Nat.le_of_ble_eq_true rfl⟩ dL_links_559 (fun E ce q9 f31 H locs hPX hw hS hce hcv hcl => ?_) (fun v f31 H locs hP hw hS => ?_)
      · exact hPX.elim
      · obtain ⟨ev9, hC32, k33⟩ := hP
        subst ev9
        have hC32 : CXW G f31 xo ez eo bu nw0 na0 nq0 nr0 nw1 na1 nq1 nr1 bs bp bh bf bl bg S0 S1 gw0 ga0 gw1 ga1 n a cg x sa pk fl gv gh gl := hC32
        refine W.eq (g2 := F0 m 562 ls [.int (-73)]) rfl ?_
        refine lv_bipush (v := (-73)) hx hb dL_links_562 (by decide) ?_
        refine lv_icmp_ne (tgt := 571) hx hb dL_links_564 (by decide) (fun c9 => absurd (by decide) c9) (fun _ => ?_)
        refine lv_iconst (v := 1) hx hb dL_links_567 (by decide) ?_
        refine lv_goto (tgt := 572) hx hb dL_links_568 (by decide) ?_
        have h34 : f31 lx = some (.inl (cJ G, 64, .inr (.inl xs0))) := k33 _ _ k_lx (Nat.ne_of_beq_eq_false rfl) (hdos _ List.mem_cons_self)
        have h35 : f31 ly = some (.inl (cJ G, 64, .inr (.inl xs1))) := k33 _ _ k_ly (Nat.ne_of_beq_eq_false rfl) (hdos _ (List.mem_cons_of_mem _ List.mem_cons_self))
        have h36 : f31 lw = some (.inl (cI G, 12, .inl (j6r gw0 gw1))) := k33 _ _ k_lw (Nat.ne_of_beq_eq_false rfl) (hdos _ (List.mem_cons_of_mem _ (List.mem_cons_of_mem _ List.mem_cons_self)))
        have h37 : f31 la = some (.inl (cI G, 12, .inl (j6r ga0 ga1))) := k33 _ _ k_la (Nat.ne_of_beq_eq_false rfl) (hdos _ (List.mem_cons_of_mem _ (List.mem_cons_of_mem _ (List.mem_cons_of_mem _ List.mem_cons_self))))
        have h38 : f31 lq = some (.inl (cI G, 12, .inl (j6r S0.2.2.2.2.2.2.2.1 S1.2.2.2.2.2.2.2.1))) := k33 _ _ k_lq (Nat.ne_of_beq_eq_false rfl) (hdos _ (List.mem_cons_of_mem _ (List.mem_cons_of_mem _ (List.mem_cons_of_mem _ (List.mem_cons_of_mem _ List.mem_cons_self)))))
        have h39 : f31 le = some (.inl (cI G, 16, .inl (jE (e8r S0.1 S0.2.1 S0.2.2.1 S0.2.2.2.1 S0.2.2.2.2.1 S0.2.2.2.2.2.1 S0.2.2.2.2.2.2.1 (nI S0.2.2.2.2.2.2.2.2.length)) (eSt S1)))) := k33 _ _ h1 (Nat.ne_of_beq_eq_false rfl) (hdos _ (List.mem_cons_of_mem _ (List.mem_cons_of_mem _ (List.mem_cons_of_mem _ (List.mem_cons_of_mem _ (List.mem_cons_of_mem _ List.mem_cons_self))))))
        exact hp_zret (v := 1) B0 hw hS hr ⟨Nat.le_of_ble_eq_true rfl, Nat.le_of_ble_eq_true rfl⟩ (rfl) dL_links_572 (⟨rfl, S0, S1, gw0, ga0, gw1, ga1, hC32, ⟨⟨_, h34, hX0⟩, ⟨_, h35, hX1⟩, h36, h37, h38, h39⟩, ⟨SOK.mono hSo0 (by omega), SOK.mono hSo1 (by omega), hgw0, hga0, hgw1, hga1⟩, hl0, hl1, (show hKn [lx, ly, lw, la, lq, le, xo, ez, eo, bu, nw0, na0, nq0, nr0, nw1, na1, nq1, nr1, bs, bp, bh, bf, bl, bg] f f31 from (hKn.mono k33 sbA))⟩)
  · refine lv_aload_n hx hb dL_links_532 rfl (lv_at hl9 4 rfl) ?_
    refine lv_iconst (v := 2) hx hb dL_links_533 (by decide) ?_
    refine hp_SH (As := [.ref xo, .int 2]) (rest := []) B0 hw hS (c_V_close_E hl G f xo ez eo bu nw0 na0 nq0 nr0 nw1 na1 nq1 nr1 bs bp bh bf bl bg S0 S1 gw0 ga0 gw1 ga1 n a cg x sa pk fl gv gh gl hC (Nat.lt_of_le_of_lt hl0 (by decide)) (Nat.lt_of_le_of_lt hl1 (by decide)) 2 (by decide)) mH_L_close qM_L_109 rfl rfl hl9.1 (Nat.le_of_ble_eq_true rfl) ⟨⟨Nat.le_of_ble_eq_true rfl, Nat.le_of_ble_eq_true rfl⟩, Nat.le_of_ble_eq_true rfl, Nat.le_of_ble_eq_true rfl⟩ dL_links_534 (fun E ce q9 f40 H locs hPX hw hS hce hcv hcl => ?_) (fun v f40 H locs hP hw hS => ?_)
    · exact hPX.elim
    · obtain ⟨ev9, hC41, k42⟩ := hP
      subst ev9
      have hC41 : CXW G f40 xo ez eo bu nw0 na0 nq0 nr0 nw1 na1 nq1 nr1 bs bp bh bf bl bg S0 S1 gw0 ga0 gw1 ga1 n a cg x sa pk fl gv gh gl := hC41
      refine W.eq (g2 := F0 m 537 ls [.int (-71)]) rfl ?_
      refine lv_bipush (v := (-71)) hx hb dL_links_537 (by decide) ?_
      refine lv_icmp_ne (tgt := 546) hx hb dL_links_539 (by decide) (fun c9 => absurd (by decide) c9) (fun _ => ?_)
      refine lv_iconst (v := 1) hx hb dL_links_542 (by decide) ?_
      refine lv_goto (tgt := 547) hx hb dL_links_543 (by decide) ?_
      have h43 : f40 lx = some (.inl (cJ G, 64, .inr (.inl xs0))) := k42 _ _ k_lx (Nat.ne_of_beq_eq_false rfl) (hdos _ List.mem_cons_self)
      have h44 : f40 ly = some (.inl (cJ G, 64, .inr (.inl xs1))) := k42 _ _ k_ly (Nat.ne_of_beq_eq_false rfl) (hdos _ (List.mem_cons_of_mem _ List.mem_cons_self))
      have h45 : f40 lw = some (.inl (cI G, 12, .inl (j6r gw0 gw1))) := k42 _ _ k_lw (Nat.ne_of_beq_eq_false rfl) (hdos _ (List.mem_cons_of_mem _ (List.mem_cons_of_mem _ List.mem_cons_self)))
      have h46 : f40 la = some (.inl (cI G, 12, .inl (j6r ga0 ga1))) := k42 _ _ k_la (Nat.ne_of_beq_eq_false rfl) (hdos _ (List.mem_cons_of_mem _ (List.mem_cons_of_mem _ (List.mem_cons_of_mem _ List.mem_cons_self))))
      have h47 : f40 lq = some (.inl (cI G, 12, .inl (j6r S0.2.2.2.2.2.2.2.1 S1.2.2.2.2.2.2.2.1))) := k42 _ _ k_lq (Nat.ne_of_beq_eq_false rfl) (hdos _ (List.mem_cons_of_mem _ (List.mem_cons_of_mem _ (List.mem_cons_of_mem _ (List.mem_cons_of_mem _ List.mem_cons_self)))))
      have h48 : f40 le = some (.inl (cI G, 16, .inl (jE (e8r S0.1 S0.2.1 S0.2.2.1 S0.2.2.2.1 S0.2.2.2.2.1 S0.2.2.2.2.2.1 S0.2.2.2.2.2.2.1 (nI S0.2.2.2.2.2.2.2.2.length)) (eSt S1)))) := k42 _ _ h1 (Nat.ne_of_beq_eq_false rfl) (hdos _ (List.mem_cons_of_mem _ (List.mem_cons_of_mem _ (List.mem_cons_of_mem _ (List.mem_cons_of_mem _ (List.mem_cons_of_mem _ List.mem_cons_self))))))
      exact hp_zret (v := 1) B0 hw hS hr ⟨Nat.le_of_ble_eq_true rfl, Nat.le_of_ble_eq_true rfl⟩ (rfl) dL_links_547 (⟨rfl, S0, S1, gw0, ga0, gw1, ga1, hC41, ⟨⟨_, h43, hX0⟩, ⟨_, h44, hX1⟩, h45, h46, h47, h48⟩, ⟨SOK.mono hSo0 (by omega), SOK.mono hSo1 (by omega), hgw0, hga0, hgw1, hga1⟩, hl0, hl1, (show hKn [lx, ly, lw, la, lq, le, xo, ez, eo, bu, nw0, na0, nq0, nr0, nw1, na1, nq1, nr1, bs, bp, bh, bf, bl, bg] f f40 from (hKn.mono k42 sbA))⟩)

set_option maxHeartbeats 4000000 in
set_option maxRecDepth 100000 in
theorem lk_c_1 {l : Launch} (hl : l.stackTraces = false) (G : hG) (f : hM) (xo ez eo bu nw0 na0 nq0 nr0 nw1 na1 nq1 nr1 bs bp bh bf bl bg : Nat) (S0 : ES) (S1 : ES) (gw0 : Nat → Int32) (ga0 : Nat → Int32) (gw1 : Nat → Int32) (ga1 : Nat → Int32) (n : Nat) (a : Nat) (cg : Nat) (x : Nat) (sa : Nat → Nat) (pk : Nat → Nat) (fl : Nat → Nat) (gv : Nat → Nat) (gh : Nat → Int32) (gl : Nat → Int32) (hC : CXW G f xo ez eo bu nw0 na0 nq0 nr0 nw1 na1 nq1 nr1 bs bp bh bf bl bg S0 S1 gw0 ga0 gw1 ga1 n a cg x sa pk fl gv gh gl) (lx ly lw la lq le : Nat) (hdis : ∀ p, p ∈ [xo, ez, eo, bu, nw0, na0, nq0, nr0, nw1, na1, nq1, nr1, bs, bp, bh, bf, bl, bg] → p ∉ [lx, ly, lw, la, lq, le]) (hdos : ∀ p, p ∈ [lx, ly, lw, la, lq, le] → p ∉ [xo, ez, eo, bu, nw0, na0, nq0, nr0, nw1, na1, nq1, nr1, bs, bp, bh, bf, bl, bg]) (n_lx_ly : lx ≠ ly) (n_lw_la : lw ≠ la) (n_lw_lq : lw ≠ lq) (n_la_lq : la ≠ lq) (hLX : LX G f lx ly lw la lq le S0 S1 gw0 ga0 gw1 ga1) (b : Nat) (hInv : INV b S0 S1 gw0 ga0 gw1 ga1) (hbb : b + 200 ≤ 1000000) (hl0 : S0.2.2.2.2.2.2.2.2.length ≤ 52) (hl1 : S1.2.2.2.2.2.2.2.2.length ≤ 52) (ac : Nat) (hac : ac < 24) (hact : ac ≠ 22 → S0.2.2.2.2.2.2.2.2.length ≤ 40 ∧ S1.2.2.2.2.2.2.2.2.length ≤ 40) (u z : Int32) {p : Program} {e : Env} {s : State} {m : MethodId} {args : Array Value} {below : List Frame} {meth : Method} {c : Code} (B0 : hB p l s m args meth c cL_links 17 RL G) (hr : meth.sig.returnType = some .boolean) {H : Heap} {locs : List Loc} {ls : Array Slot} (hw : hW G f H) (hS : va_S (hFr G) s.heap H locs) (j13 : Nat) (hj13 : j13 < 6) (hc : nI ac = 10) (hl9 : lv_has ls 17 [(13, .int (nI j13)), (12, .ref ly), (11, .int 8), (10, .int 1), (0, .ref xo), (1, .int (nI ac)), (2, .int u), (3, .int z), (4, .ref lx), (5, .ref ly), (6, .ref lw), (7, .ref la), (8, .ref lq), (9, .ref le)]) : W p l e { frames := 9, cells := 203, slots := 1118, locals := 178 } s m args below meth c H locs 0 0 (vx_MQ below (hQ G (fun v f1 => v = some (.int 1) ∧ ∃ (S2 S3 : ES) (w0 a0 w1 a1 : Nat → Int32), CXW G f1 xo ez eo bu nw0 na0 nq0 nr0 nw1 na1 nq1 nr1 bs bp bh bf bl bg S2 S3 w0 a0 w1 a1 n a cg x sa pk fl gv gh gl ∧ LX G f1 lx ly lw la lq le S2 S3 w0 a0 w1 a1 ∧ INV (b + 100) S2 S3 w0 a0 w1 a1 ∧ S2.2.2.2.2.2.2.2.2.length ≤ 52 ∧ S3.2.2.2.2.2.2.2.2.length ≤ 52 ∧ hKn [lx, ly, lw, la, lq, le, xo, ez, eo, bu, nw0, na0, nq0, nr0, nw1, na1, nq1, nr1, bs, bp, bh, bf, bl, bg] f f1)) (hX G (fun E f1 => False)) args s 203 1118 (hFr G)) (F0 m 525 ls []) := by
  have hx := B0.1
  have hb := B0.2.1
  obtain ⟨⟨xs0, k_lx, hX0⟩, ⟨xs1, k_ly, hX1⟩, k_lw, k_la, k_lq, k_le⟩ := hLX
  obtain ⟨hSo0, hSo1, hgw0, hga0, hgw1, hga1⟩ := id hInv
  have n_lx_lw : lx ≠ lw := hneL k_lx k_lw (Nat.ne_of_beq_eq_false rfl)
  have n_lx_la : lx ≠ la := hneL k_lx k_la (Nat.ne_of_beq_eq_false rfl)
  have n_lx_lq : lx ≠ lq := hneL k_lx k_lq (Nat.ne_of_beq_eq_false rfl)
  have n_lx_le : lx ≠ le := hneL k_lx k_le (Nat.ne_of_beq_eq_false rfl)
  have n_ly_lw : ly ≠ lw := hneL k_ly k_lw (Nat.ne_of_beq_eq_false rfl)
  have n_ly_la : ly ≠ la := hneL k_ly k_la (Nat.ne_of_beq_eq_false rfl)
  have n_ly_lq : ly ≠ lq := hneL k_ly k_lq (Nat.ne_of_beq_eq_false rfl)
  have n_ly_le : ly ≠ le := hneL k_ly k_le (Nat.ne_of_beq_eq_false rfl)
  have n_lw_le : lw ≠ le := hneL k_lw k_le (Nat.ne_of_beq_eq_false rfl)
  have n_la_le : la ≠ le := hneL k_la k_le (Nat.ne_of_beq_eq_false rfl)
  have n_lq_le : lq ≠ le := hneL k_lq k_le (Nat.ne_of_beq_eq_false rfl)
  have sbA : ∀ x9, x9 ∈ [xo, ez, eo, bu, nw0, na0, nq0, nr0, nw1, na1, nq1, nr1, bs, bp, bh, bf, bl, bg] → x9 ∈ [lx, ly, lw, la, lq, le, xo, ez, eo, bu, nw0, na0, nq0, nr0, nw1, na1, nq1, nr1, bs, bp, bh, bf, bl, bg] := (sub_cons (List.mem_cons_of_mem _ (List.mem_cons_of_mem _ (List.mem_cons_of_mem _ (List.mem_cons_of_mem _ (List.mem_cons_of_mem _ (List.mem_cons_of_mem _ List.mem_cons_self)))))) (sub_cons (List.mem_cons_of_mem _ (List.mem_cons_of_mem _ (List.mem_cons_of_mem _ (List.mem_cons_of_mem _ (List.mem_cons_of_mem _ (List.mem_cons_of_mem _ (List.mem_cons_of_mem _ List.mem_cons_self))))))) (sub_cons (List.mem_cons_of_mem _ (List.mem_cons_of_mem _ (List.mem_cons_of_mem _ (List.mem_cons_of_mem _ (List.mem_cons_of_mem _ (List.mem_cons_of_mem _ (List.mem_cons_of_mem _ (List.mem_cons_of_mem _ List.mem_cons_self)))))))) (sub_cons (List.mem_cons_of_mem _ (List.mem_cons_of_mem _ (List.mem_cons_of_mem _ (List.mem_cons_of_mem _ (List.mem_cons_of_mem _ (List.mem_cons_of_mem _ (List.mem_cons_of_mem _ (List.mem_cons_of_mem _ (List.mem_cons_of_mem _ List.mem_cons_self))))))))) (sub_cons (List.mem_cons_of_mem _ (List.mem_cons_of_mem _ (List.mem_cons_of_mem _ (List.mem_cons_of_mem _ (List.mem_cons_of_mem _ (List.mem_cons_of_mem _ (List.mem_cons_of_mem _ (List.mem_cons_of_mem _ (List.mem_cons_of_mem _ (List.mem_cons_of_mem _ List.mem_cons_self)))))))))) (sub_cons (List.mem_cons_of_mem _ (List.mem_cons_of_mem _ (List.mem_cons_of_mem _ (List.mem_cons_of_mem _ (List.mem_cons_of_mem _ (List.mem_cons_of_mem _ (List.mem_cons_of_mem _ (List.mem_cons_of_mem _ (List.mem_cons_of_mem _ (List.mem_cons_of_mem _ (List.mem_cons_of_mem _ List.mem_cons_self))))))))))) (sub_cons (List.mem_cons_of_mem _ (List.mem_cons_of_mem _ (List.mem_cons_of_mem _ (List.mem_cons_of_mem _ (List.mem_cons_of_mem _ (List.mem_cons_of_mem _ (List.mem_cons_of_mem _ (List.mem_cons_of_mem _ (List.mem_cons_of_mem _ (List.mem_cons_of_mem _ (List.mem_cons_of_mem _ (List.mem_cons_of_mem _ List.mem_cons_self)))))))))))) (sub_cons (List.mem_cons_of_mem _ (List.mem_cons_of_mem _ (List.mem_cons_of_mem _ (List.mem_cons_of_mem _ (List.mem_cons_of_mem _ (List.mem_cons_of_mem _ (List.mem_cons_of_mem _ (List.mem_cons_of_mem _ (List.mem_cons_of_mem _ (List.mem_cons_of_mem _ (List.mem_cons_of_mem _ (List.mem_cons_of_mem _ (List.mem_cons_of_mem _ List.mem_cons_self))))))))))))) (sub_cons (List.mem_cons_of_mem _ (List.mem_cons_of_mem _ (List.mem_cons_of_mem _ (List.mem_cons_of_mem _ (List.mem_cons_of_mem _ (List.mem_cons_of_mem _ (List.mem_cons_of_mem _ (List.mem_cons_of_mem _ (List.mem_cons_of_mem _ (List.mem_cons_of_mem _ (List.mem_cons_of_mem _ (List.mem_cons_of_mem _ (List.mem_cons_of_mem _ (List.mem_cons_of_mem _ List.mem_cons_self)))))))))))))) (sub_cons (List.mem_cons_of_mem _ (List.mem_cons_of_mem _ (List.mem_cons_of_mem _ (List.mem_cons_of_mem _ (List.mem_cons_of_mem _ (List.mem_cons_of_mem _ (List.mem_cons_of_mem _ (List.mem_cons_of_mem _ (List.mem_cons_of_mem _ (List.mem_cons_of_mem _ (List.mem_cons_of_mem _ (List.mem_cons_of_mem _ (List.mem_cons_of_mem _ (List.mem_cons_of_mem _ (List.mem_cons_of_mem _ List.mem_cons_self))))))))))))))) (sub_cons (List.mem_cons_of_mem _ (List.mem_cons_of_mem _ (List.mem_cons_of_mem _ (List.mem_cons_of_mem _ (List.mem_cons_of_mem _ (List.mem_cons_of_mem _ (List.mem_cons_of_mem _ (List.mem_cons_of_mem _ (List.mem_cons_of_mem _ (List.mem_cons_of_mem _ (List.mem_cons_of_mem _ (List.mem_cons_of_mem _ (List.mem_cons_of_mem _ (List.mem_cons_of_mem _ (List.mem_cons_of_mem _ (List.mem_cons_of_mem _ List.mem_cons_self)))))))))))))))) (sub_cons (List.mem_cons_of_mem _ (List.mem_cons_of_mem _ (List.mem_cons_of_mem _ (List.mem_cons_of_mem _ (List.mem_cons_of_mem _ (List.mem_cons_of_mem _ (List.mem_cons_of_mem _ (List.mem_cons_of_mem _ (List.mem_cons_of_mem _ (List.mem_cons_of_mem _ (List.mem_cons_of_mem _ (List.mem_cons_of_mem _ (List.mem_cons_of_mem _ (List.mem_cons_of_mem _ (List.mem_cons_of_mem _ (List.mem_cons_of_mem _ (List.mem_cons_of_mem _ List.mem_cons_self))))))))))))))))) (sub_cons (List.mem_cons_of_mem _ (List.mem_cons_of_mem _ (List.mem_cons_of_mem _ (List.mem_cons_of_mem _ (List.mem_cons_of_mem _ (List.mem_cons_of_mem _ (List.mem_cons_of_mem _ (List.mem_cons_of_mem _ (List.mem_cons_of_mem _ (List.mem_cons_of_mem _ (List.mem_cons_of_mem _ (List.mem_cons_of_mem _ (List.mem_cons_of_mem _ (List.mem_cons_of_mem _ (List.mem_cons_of_mem _ (List.mem_cons_of_mem _ (List.mem_cons_of_mem _ (List.mem_cons_of_mem _ List.mem_cons_self)))))))))))))))))) (sub_cons (List.mem_cons_of_mem _ (List.mem_cons_of_mem _ (List.mem_cons_of_mem _ (List.mem_cons_of_mem _ (List.mem_cons_of_mem _ (List.mem_cons_of_mem _ (List.mem_cons_of_mem _ (List.mem_cons_of_mem _ (List.mem_cons_of_mem _ (List.mem_cons_of_mem _ (List.mem_cons_of_mem _ (List.mem_cons_of_mem _ (List.mem_cons_of_mem _ (List.mem_cons_of_mem _ (List.mem_cons_of_mem _ (List.mem_cons_of_mem _ (List.mem_cons_of_mem _ (List.mem_cons_of_mem _ (List.mem_cons_of_mem _ List.mem_cons_self))))))))))))))))))) (sub_cons (List.mem_cons_of_mem _ (List.mem_cons_of_mem _ (List.mem_cons_of_mem _ (List.mem_cons_of_mem _ (List.mem_cons_of_mem _ (List.mem_cons_of_mem _ (List.mem_cons_of_mem _ (List.mem_cons_of_mem _ (List.mem_cons_of_mem _ (List.mem_cons_of_mem _ (List.mem_cons_of_mem _ (List.mem_cons_of_mem _ (List.mem_cons_of_mem _ (List.mem_cons_of_mem _ (List.mem_cons_of_mem _ (List.mem_cons_of_mem _ (List.mem_cons_of_mem _ (List.mem_cons_of_mem _ (List.mem_cons_of_mem _ (List.mem_cons_of_mem _ List.mem_cons_self)))))))))))))))))))) (sub_cons (List.mem_cons_of_mem _ (List.mem_cons_of_mem _ (List.mem_cons_of_mem _ (List.mem_cons_of_mem _ (List.mem_cons_of_mem _ (List.mem_cons_of_mem _ (List.mem_cons_of_mem _ (List.mem_cons_of_mem _ (List.mem_cons_of_mem _ (List.mem_cons_of_mem _ (List.mem_cons_of_mem _ (List.mem_cons_of_mem _ (List.mem_cons_of_mem _ (List.mem_cons_of_mem _ (List.mem_cons_of_mem _ (List.mem_cons_of_mem _ (List.mem_cons_of_mem _ (List.mem_cons_of_mem _ (List.mem_cons_of_mem _ (List.mem_cons_of_mem _ (List.mem_cons_of_mem _ List.mem_cons_self))))))))))))))))))))) (sub_cons (List.mem_cons_of_mem _ (List.mem_cons_of_mem _ (List.mem_cons_of_mem _ (List.mem_cons_of_mem _ (List.mem_cons_of_mem _ (List.mem_cons_of_mem _ (List.mem_cons_of_mem _ (List.mem_cons_of_mem _ (List.mem_cons_of_mem _ (List.mem_cons_of_mem _ (List.mem_cons_of_mem _ (List.mem_cons_of_mem _ (List.mem_cons_of_mem _ (List.mem_cons_of_mem _ (List.mem_cons_of_mem _ (List.mem_cons_of_mem _ (List.mem_cons_of_mem _ (List.mem_cons_of_mem _ (List.mem_cons_of_mem _ (List.mem_cons_of_mem _ (List.mem_cons_of_mem _ (List.mem_cons_of_mem _ List.mem_cons_self)))))))))))))))))))))) (sub_cons (List.mem_cons_of_mem _ (List.mem_cons_of_mem _ (List.mem_cons_of_mem _ (List.mem_cons_of_mem _ (List.mem_cons_of_mem _ (List.mem_cons_of_mem _ (List.mem_cons_of_mem _ (List.mem_cons_of_mem _ (List.mem_cons_of_mem _ (List.mem_cons_of_mem _ (List.mem_cons_of_mem _ (List.mem_cons_of_mem _ (List.mem_cons_of_mem _ (List.mem_cons_of_mem _ (List.mem_cons_of_mem _ (List.mem_cons_of_mem _ (List.mem_cons_of_mem _ (List.mem_cons_of_mem _ (List.mem_cons_of_mem _ (List.mem_cons_of_mem _ (List.mem_cons_of_mem _ (List.mem_cons_of_mem _ (List.mem_cons_of_mem _ List.mem_cons_self))))))))))))))))))))))) sub_nil))))))))))))))))))
  obtain ⟨xx, hxx, hx4⟩ := hSo1.2.2.2.2.1
  have h1 : f le = some (.inl (cI G, 16, .inl (jE (eSt S0) (e8r S1.1 S1.2.1 S1.2.2.1 S1.2.2.2.1 S1.2.2.2.2.1 S1.2.2.2.2.2.1 S1.2.2.2.2.2.2.1 (nI S1.2.2.2.2.2.2.2.2.length))))) := k_le
  refine lv_iload_n hx hb dL_links_525 rfl (lv_at hl9 7 rfl) ?_
  refine lv_bipush (v := 6) hx hb dL_links_526 (by decide) ?_
  refine lv_iand hx hb dL_links_528 ?_
  refine lv_if_le (tgt := 548) hx hb dL_links_529 (by decide) (fun c2 => ?_) (fun c2 => ?_)
  · refine lv_aload hx hb dL_links_548 (lv_at hl9 13 rfl) ?_
    refine lv_iload hx hb dL_links_550 (lv_at hl9 2 rfl) ?_
    refine hp_iald B0 hw h1 (by unfold vp_in; decide) dL_links_552 ?_
    refine hp_c (v := S1.1) (rfl) ?_
    refine lv_if_ne (tgt := 573) hx hb dL_links_553 (by decide) (fun c3 => ?_) (fun c3 => ?_)
    · obtain ⟨h40a, h40b⟩ := hact (fun e9 => by subst e9; exact absurd hc (by decide))
      refine lv_aload hx hb dL_links_573 (lv_at hl9 13 rfl) ?_
      refine lv_iload hx hb dL_links_575 (lv_at hl9 2 rfl) ?_
      refine hp_iald B0 hw h1 (by unfold vp_in; decide) dL_links_577 ?_
      refine hp_c (v := S1.1) (rfl) ?_
      refine lv_istore (lv' := [(14, .int S1.1), (13, .int (nI j13)), (12, .ref ly), (11, .int 8), (10, .int 1), (0, .ref xo), (1, .int (nI ac)), (2, .int u), (3, .int z), (4, .ref lx), (5, .ref ly), (6, .ref lw), (7, .ref la), (8, .ref lq), (9, .ref le)]) hx hb dL_links_578 hl9 (by decide) rfl (fun ls hl9 => ?_)
      refine lv_aload hx hb dL_links_580 (lv_at hl9 2 rfl) ?_
      refine lv_aload hx hb dL_links_582 (lv_at hl9 14 rfl) ?_
      refine lv_iload hx hb dL_links_584 (lv_at hl9 4 rfl) ?_
      refine lv_iconst (v := 4) hx hb dL_links_586 (by decide) ?_
      refine lv_iconst (v := 0) hx hb dL_links_587 (by decide) ?_
      refine lv_lconst (v := lN 0) hx hb dL_links_588 rfl ?_
      refine hp_S (As := [.ref ly, .ref le, .int 1, .int 4, .int 0, .long (lN 0)]) (rest := []) B0 hw hS (c_L_post_1 hl G f ly le xs1 (jE (eSt S0) (e8r S1.1 S1.2.1 S1.2.2.1 S1.2.2.2.1 S1.2.2.2.2.1 S1.2.2.2.2.2.1 S1.2.2.2.2.2.2.1 (nI S1.2.2.2.2.2.2.2.2.length))) k_ly h1 4 0 0 xx S1.2.2.2.2.2.2.2.2.length (by omega) (by omega) (show (jE (eSt S0) (e8r S1.1 S1.2.1 S1.2.2.1 S1.2.2.2.1 S1.2.2.2.2.1 S1.2.2.2.2.2.1 S1.2.2.2.2.2.2.1 (nI S1.2.2.2.2.2.2.2.2.length))) 14 = nI xx from hxx) (by omega) (show (jE (eSt S0) (e8r S1.1 S1.2.1 S1.2.2.1 S1.2.2.2.1 S1.2.2.2.2.1 S1.2.2.2.2.2.1 S1.2.2.2.2.2.2.1 (nI S1.2.2.2.2.2.2.2.2.length))) 15 = nI S1.2.2.2.2.2.2.2.2.length from rfl) (by omega)) mS_L_post qM_L_73 rfl rfl hl9.1 (Nat.le_of_ble_eq_true rfl) ⟨⟨Nat.le_of_ble_eq_true rfl, Nat.le_of_ble_eq_true rfl⟩, Nat.le_of_ble_eq_true rfl, Nat.le_of_ble_eq_true rfl⟩ dL_links_589 (fun E ce q9 f4 H locs hPX hw hS hce hcv hcl => ?_) (fun v f4 H locs hP hw hS => ?_)
      · exact hPX.elim
      · obtain ⟨ev9, h5, h6, k7⟩ := hP
        subst ev9
        rw [show (upd (jE (eSt S0) (e8r S1.1 S1.2.1 S1.2.2.1 S1.2.2.2.1 S1.2.2.2.2.1 S1.2.2.2.2.2.1 S1.2.2.2.2.2.2.1 (nI S1.2.2.2.2.2.2.2.2.length))) 15 (nI (S1.2.2.2.2.2.2.2.2.length + 1)) : Nat → Int32) = (jE (eSt S0) (e8r S1.1 S1.2.1 S1.2.2.1 S1.2.2.2.1 S1.2.2.2.2.1 S1.2.2.2.2.2.1 S1.2.2.2.2.2.2.1 (nI (S1.2.2.2.2.2.2.2.2.length + 1)))) from (by rw [show 15 = 8 + 7 from rfl, jE_u1, e8_u7])] at h6
        refine W.eq (g2 := F0 m 592 ls []) rfl ?_
        refine lv_aload hx hb dL_links_592 (lv_at hl9 14 rfl) ?_
        refine lv_iload hx hb dL_links_594 (lv_at hl9 3 rfl) ?_
        refine lv_iconst (v := 0) hx hb dL_links_596 (by decide) ?_
        refine hp_iast B0 hw hS h6 (by unfold vp_in; decide) dL_links_597 (fun H locs f8 ef8 hw hS => ?_)
        rw [show (upd (jE (eSt S0) (e8r S1.1 S1.2.1 S1.2.2.1 S1.2.2.2.1 S1.2.2.2.2.1 S1.2.2.2.2.2.1 S1.2.2.2.2.2.2.1 (nI (S1.2.2.2.2.2.2.2.2.length + 1)))) (8 : Int32).toNatClampNeg 0 : Nat → Int32) = (jE (eSt S0) (e8r 0 S1.2.1 S1.2.2.1 S1.2.2.2.1 S1.2.2.2.2.1 S1.2.2.2.2.2.1 S1.2.2.2.2.2.2.1 (nI (S1.2.2.2.2.2.2.2.2.length + 1)))) from (by rw [show (8 : Int32).toNatClampNeg = 8 + 0 from rfl, jE_u1, e8_u0])] at ef8
        have h10 : f8 le = some (.inl (cI G, 16, .inl (jE (eSt S0) (e8r 0 S1.2.1 S1.2.2.1 S1.2.2.2.1 S1.2.2.2.2.1 S1.2.2.2.2.2.1 S1.2.2.2.2.2.2.1 (nI (S1.2.2.2.2.2.2.2.2.length + 1)))))) := by rw [ef8, va_up_self]
        have h11 : f8 ly = some (.inl (cJ G, 64, .inr (.inl (vp_updL xs1 S1.2.2.2.2.2.2.2.2.length (lN (4 + 8 * 0 + xx * 4294967296 + 0 * 68719476736)))))) := by rw [ef8, va_up_ne _ _ n_ly_le]; exact h5
        rw [stop_pk hxx hx4] at h11
        rw [show (e8r 0 S1.2.1 S1.2.2.1 S1.2.2.2.1 S1.2.2.2.2.1 S1.2.2.2.2.2.1 S1.2.2.2.2.2.2.1 (nI (S1.2.2.2.2.2.2.2.2.length + 1))) = eSt (closeS S1) from eS_app (gq := S1.2.2.2.2.2.2.2.1) (4, 0, S1.2.2.2.2.2.2.1, N6)] at h10
        have h12 : f8 le = some (.inl (cI G, 16, .inl (jE (eSt S0) (e8r ((closeS S1).1) ((closeS S1).2.1) ((closeS S1).2.2.1) ((closeS S1).2.2.2.1) ((closeS S1).2.2.2.2.1) ((closeS S1).2.2.2.2.2.1) ((closeS S1).2.2.2.2.2.2.1) (nI (closeS S1).2.2.2.2.2.2.2.2.length))))) := h10
        refine lv_aload_n hx hb dL_links_598 rfl (lv_at hl9 5 rfl) ?_
        refine lv_iload hx hb dL_links_599 (lv_at hl9 4 rfl) ?_
        have h13 : f4 lx = some (.inl (cJ G, 64, .inr (.inl xs0))) := (hEq.k k7) _ _ k_lx (ninc n_lx_ly (ninc n_lx_le nin0))
        have h14 : f8 lx = some (.inl (cJ G, 64, .inr (.inl xs0))) := by rw [ef8, va_up_ne _ _ n_lx_le]; exact h13
        have h15 : f4 lw = some (.inl (cI G, 12, .inl (j6r gw0 gw1))) := (hEq.k k7) _ _ k_lw (ninc (Ne.symm n_ly_lw) (ninc n_lw_le nin0))
        have h16 : f8 lw = some (.inl (cI G, 12, .inl (j6r gw0 gw1))) := by rw [ef8, va_up_ne _ _ n_lw_le]; exact h15
        have h17 : f4 la = some (.inl (cI G, 12, .inl (j6r ga0 ga1))) := (hEq.k k7) _ _ k_la (ninc (Ne.symm n_ly_la) (ninc n_la_le nin0))
        have h18 : f8 la = some (.inl (cI G, 12, .inl (j6r ga0 ga1))) := by rw [ef8, va_up_ne _ _ n_la_le]; exact h17
        have h19 : f4 lq = some (.inl (cI G, 12, .inl (j6r S0.2.2.2.2.2.2.2.1 S1.2.2.2.2.2.2.2.1))) := (hEq.k k7) _ _ k_lq (ninc (Ne.symm n_ly_lq) (ninc n_lq_le nin0))
        have h20 : f8 lq = some (.inl (cI G, 12, .inl (j6r S0.2.2.2.2.2.2.2.1 S1.2.2.2.2.2.2.2.1))) := by rw [ef8, va_up_ne _ _ n_lq_le]; exact h19
        have hC21 : CXW G f8 xo ez eo bu nw0 na0 nq0 nr0 nw1 na1 nq1 nr1 bs bp bh bf bl bg S0 S1 gw0 ga0 gw1 ga1 n a cg x sa pk fl gv gh gl := CXW.eq hC ((show hEq [lx, ly, lw, la, lq, le] f f4 from (hEq.mono k7 (sub_cons (List.mem_cons_of_mem _ List.mem_cons_self) (sub_cons (List.mem_cons_of_mem _ (List.mem_cons_of_mem _ (List.mem_cons_of_mem _ (List.mem_cons_of_mem _ (List.mem_cons_of_mem _ List.mem_cons_self))))) sub_nil)))).tr (show hEq [lx, ly, lw, la, lq, le] f4 f8 from (by rw [ef8]; exact hEq.up (List.mem_cons_of_mem _ (List.mem_cons_of_mem _ (List.mem_cons_of_mem _ (List.mem_cons_of_mem _ (List.mem_cons_of_mem _ List.mem_cons_self)))))))) hdis (fun b9 hb9 => by
            simp only [List.mem_cons, List.not_mem_nil, or_false] at hb9
            rcases hb9 with hb9 | hb9 | hb9 | hb9 | hb9 | hb9
            · rw [hb9]; exact ⟨_, _, k_lx, h14, (Nat.ne_of_beq_eq_false rfl), (Nat.ne_of_beq_eq_false rfl)⟩
            · rw [hb9]; exact ⟨_, _, k_ly, h11, (Nat.ne_of_beq_eq_false rfl), (Nat.ne_of_beq_eq_false rfl)⟩
            · rw [hb9]; exact ⟨_, _, k_lw, h16, (Nat.ne_of_beq_eq_false rfl), (Nat.ne_of_beq_eq_false rfl)⟩
            · rw [hb9]; exact ⟨_, _, k_la, h18, (Nat.ne_of_beq_eq_false rfl), (Nat.ne_of_beq_eq_false rfl)⟩
            · rw [hb9]; exact ⟨_, _, k_lq, h20, (Nat.ne_of_beq_eq_false rfl), (Nat.ne_of_beq_eq_false rfl)⟩
            · rw [hb9]; exact ⟨_, _, h1, h12, (Nat.ne_of_beq_eq_false rfl), (Nat.ne_of_beq_eq_false rfl)⟩)
        refine hp_SH (As := [.ref xo, .int 1]) (rest := []) B0 hw hS (c_V_close_1 hl G f8 xo ez eo bu nw0 na0 nq0 nr0 nw1 na1 nq1 nr1 bs bp bh bf bl bg S0 S1 gw0 ga0 gw1 ga1 n a cg x sa pk fl gv gh gl hC21 (Nat.lt_of_le_of_lt hl0 (by decide)) (Nat.lt_of_le_of_lt hl1 (by decide)) c3) mH_L_close qM_L_109 rfl rfl hl9.1 (Nat.le_of_ble_eq_true rfl) ⟨⟨Nat.le_of_ble_eq_true rfl, Nat.le_of_ble_eq_true rfl⟩, Nat.le_of_ble_eq_true rfl, Nat.le_of_ble_eq_true rfl⟩ dL_links_601 (fun E ce q9 f22 H locs hPX hw hS hce hcv hcl => ?_) (fun v f22 H locs hP hw hS => ?_)
        · exact hPX.elim
        · obtain ⟨ev9, hC23, k24⟩ := hP
          subst ev9
          have hC23 : CXW G f22 xo ez eo bu nw0 na0 nq0 nr0 nw1 na1 nq1 nr1 bs bp bh bf bl bg S0 (closeS S1) gw0 ga0 gw1 ga1 n a cg x sa pk fl gv gh gl := hC23
          refine W.eq (g2 := F0 m 604 ls [.int (S1.1)]) rfl ?_
          refine lv_iload hx hb dL_links_604 (lv_at hl9 0 rfl) ?_
          refine lv_icmp_ne (tgt := 613) hx hb dL_links_606 (by decide) (fun c9 => absurd rfl c9) (fun _ => ?_)
          refine lv_iconst (v := 1) hx hb dL_links_609 (by decide) ?_
          refine lv_goto (tgt := 614) hx hb dL_links_610 (by decide) ?_
          have h25 : f22 lx = some (.inl (cJ G, 64, .inr (.inl xs0))) := k24 _ _ h14 (Nat.ne_of_beq_eq_false rfl) (hdos _ List.mem_cons_self)
          have h26 : f22 ly = some (.inl (cJ G, 64, .inr (.inl (vp_updL xs1 S1.2.2.2.2.2.2.2.2.length (lN (pkN (4, 0, S1.2.2.2.2.2.2.1, N6))))))) := k24 _ _ h11 (Nat.ne_of_beq_eq_false rfl) (hdos _ (List.mem_cons_of_mem _ List.mem_cons_self))
          have h27 : f22 lw = some (.inl (cI G, 12, .inl (j6r gw0 gw1))) := k24 _ _ h16 (Nat.ne_of_beq_eq_false rfl) (hdos _ (List.mem_cons_of_mem _ (List.mem_cons_of_mem _ List.mem_cons_self)))
          have h28 : f22 la = some (.inl (cI G, 12, .inl (j6r ga0 ga1))) := k24 _ _ h18 (Nat.ne_of_beq_eq_false rfl) (hdos _ (List.mem_cons_of_mem _ (List.mem_cons_of_mem _ (List.mem_cons_of_mem _ List.mem_cons_self))))
          have h29 : f22 lq = some (.inl (cI G, 12, .inl (j6r S0.2.2.2.2.2.2.2.1 S1.2.2.2.2.2.2.2.1))) := k24 _ _ h20 (Nat.ne_of_beq_eq_false rfl) (hdos _ (List.mem_cons_of_mem _ (List.mem_cons_of_mem _ (List.mem_cons_of_mem _ (List.mem_cons_of_mem _ List.mem_cons_self)))))
          have h30 : f22 le = some (.inl (cI G, 16, .inl (jE (eSt S0) (e8r ((closeS S1).1) ((closeS S1).2.1) ((closeS S1).2.2.1) ((closeS S1).2.2.2.1) ((closeS S1).2.2.2.2.1) ((closeS S1).2.2.2.2.2.1) ((closeS S1).2.2.2.2.2.2.1) (nI (closeS S1).2.2.2.2.2.2.2.2.length))))) := k24 _ _ h12 (Nat.ne_of_beq_eq_false rfl) (hdos _ (List.mem_cons_of_mem _ (List.mem_cons_of_mem _ (List.mem_cons_of_mem _ (List.mem_cons_of_mem _ (List.mem_cons_of_mem _ List.mem_cons_self))))))
          exact hp_zret (v := 1) B0 hw hS hr ⟨Nat.le_of_ble_eq_true rfl, Nat.le_of_ble_eq_true rfl⟩ (rfl) dL_links_614 (⟨rfl, S0, (closeS S1), gw0, ga0, gw1, ga1, hC23, ⟨⟨_, h25, hX0⟩, ⟨_, h26, (show XS _ (closeS S1).2.2.2.2.2.2.2.2 from hX1.app _ rfl)⟩, h27, h28, h29, h30⟩, ⟨SOK.mono hSo0 (by omega), SOK.mono (SOK.close hSo1) (by omega), hgw0, hga0, hgw1, hga1⟩, hl0, (by rw [closeS_len]; omega), ((show hKn [lx, ly, lw, la, lq, le, xo, ez, eo, bu, nw0, na0, nq0, nr0, nw1, na1, nq1, nr1, bs, bp, bh, bf, bl, bg] f f4 from (hKn.mono (hKn.eq k7) (sub_cons (List.mem_cons_of_mem _ List.mem_cons_self) (sub_cons (List.mem_cons_of_mem _ (List.mem_cons_of_mem _ (List.mem_cons_of_mem _ (List.mem_cons_of_mem _ (List.mem_cons_of_mem _ List.mem_cons_self))))) sub_nil)))).tr ((show hKn [lx, ly, lw, la, lq, le, xo, ez, eo, bu, nw0, na0, nq0, nr0, nw1, na1, nq1, nr1, bs, bp, bh, bf, bl, bg] f4 f8 from (by rw [ef8]; exact hKn.up (List.mem_cons_of_mem _ (List.mem_cons_of_mem _ (List.mem_cons_of_mem _ (List.mem_cons_of_mem _ (List.mem_cons_of_mem _ List.mem_cons_self))))))).tr (show hKn [lx, ly, lw, la, lq, le, xo, ez, eo, bu, nw0, na0, nq0, nr0, nw1, na1, nq1, nr1, bs, bp, bh, bf, bl, bg] f8 f22 from (hKn.mono k24 sbA))))⟩)
    · refine lv_aload_n hx hb dL_links_556 rfl (lv_at hl9 4 rfl) ?_
      refine lv_iload hx hb dL_links_557 (lv_at hl9 3 rfl) ?_
      refine hp_SH (As := [.ref xo, .int 1]) (rest := []) B0 hw hS (c_V_close_S1 hl G f xo ez eo bu nw0 na0 nq0 nr0 nw1 na1 nq1 nr1 bs bp bh bf bl bg S0 S1 gw0 ga0 gw1 ga1 n a cg x sa pk fl gv gh gl hC (Nat.lt_of_le_of_lt hl0 (by decide)) (Nat.lt_of_le_of_lt hl1 (by decide)) c3) mH_L_close qM_L_109 rfl rfl hl9.1 (Nat.le_of_ble_eq_true rfl) ⟨⟨Nat.le_of_ble_eq_true rfl, Nat.le_of_ble_eq_true rfl⟩, Nat.le_of_ble_eq_true rfl, Nat.le_of_ble_eq_true rfl⟩ dL_links_559 (fun E ce q9 f31 H locs hPX hw hS hce hcv hcl => ?_) (fun v f31 H locs hP hw hS => ?_)
      · exact hPX.elim
      · obtain ⟨ev9, hC32, k33⟩ := hP
        subst ev9
        have hC32 : CXW G f31 xo ez eo bu nw0 na0 nq0 nr0 nw1 na1 nq1 nr1 bs bp bh bf bl bg S0 S1 gw0 ga0 gw1 ga1 n a cg x sa pk fl gv gh gl := hC32
        refine W.eq (g2 := F0 m 562 ls [.int (-73)]) rfl ?_
        refine lv_bipush (v := (-73)) hx hb dL_links_562 (by decide) ?_
        refine lv_icmp_ne (tgt := 571) hx hb dL_links_564 (by decide) (fun c9 => absurd (by decide) c9) (fun _ => ?_)
        refine lv_iconst (v := 1) hx hb dL_links_567 (by decide) ?_
        refine lv_goto (tgt := 572) hx hb dL_links_568 (by decide) ?_
        have h34 : f31 lx = some (.inl (cJ G, 64, .inr (.inl xs0))) := k33 _ _ k_lx (Nat.ne_of_beq_eq_false rfl) (hdos _ List.mem_cons_self)
        have h35 : f31 ly = some (.inl (cJ G, 64, .inr (.inl xs1))) := k33 _ _ k_ly (Nat.ne_of_beq_eq_false rfl) (hdos _ (List.mem_cons_of_mem _ List.mem_cons_self))
        have h36 : f31 lw = some (.inl (cI G, 12, .inl (j6r gw0 gw1))) := k33 _ _ k_lw (Nat.ne_of_beq_eq_false rfl) (hdos _ (List.mem_cons_of_mem _ (List.mem_cons_of_mem _ List.mem_cons_self)))
        have h37 : f31 la = some (.inl (cI G, 12, .inl (j6r ga0 ga1))) := k33 _ _ k_la (Nat.ne_of_beq_eq_false rfl) (hdos _ (List.mem_cons_of_mem _ (List.mem_cons_of_mem _ (List.mem_cons_of_mem _ List.mem_cons_self))))
        have h38 : f31 lq = some (.inl (cI G, 12, .inl (j6r S0.2.2.2.2.2.2.2.1 S1.2.2.2.2.2.2.2.1))) := k33 _ _ k_lq (Nat.ne_of_beq_eq_false rfl) (hdos _ (List.mem_cons_of_mem _ (List.mem_cons_of_mem _ (List.mem_cons_of_mem _ (List.mem_cons_of_mem _ List.mem_cons_self)))))
        have h39 : f31 le = some (.inl (cI G, 16, .inl (jE (eSt S0) (e8r S1.1 S1.2.1 S1.2.2.1 S1.2.2.2.1 S1.2.2.2.2.1 S1.2.2.2.2.2.1 S1.2.2.2.2.2.2.1 (nI S1.2.2.2.2.2.2.2.2.length))))) := k33 _ _ h1 (Nat.ne_of_beq_eq_false rfl) (hdos _ (List.mem_cons_of_mem _ (List.mem_cons_of_mem _ (List.mem_cons_of_mem _ (List.mem_cons_of_mem _ (List.mem_cons_of_mem _ List.mem_cons_self))))))
        exact hp_zret (v := 1) B0 hw hS hr ⟨Nat.le_of_ble_eq_true rfl, Nat.le_of_ble_eq_true rfl⟩ (rfl) dL_links_572 (⟨rfl, S0, S1, gw0, ga0, gw1, ga1, hC32, ⟨⟨_, h34, hX0⟩, ⟨_, h35, hX1⟩, h36, h37, h38, h39⟩, ⟨SOK.mono hSo0 (by omega), SOK.mono hSo1 (by omega), hgw0, hga0, hgw1, hga1⟩, hl0, hl1, (show hKn [lx, ly, lw, la, lq, le, xo, ez, eo, bu, nw0, na0, nq0, nr0, nw1, na1, nq1, nr1, bs, bp, bh, bf, bl, bg] f f31 from (hKn.mono k33 sbA))⟩)
  · refine lv_aload_n hx hb dL_links_532 rfl (lv_at hl9 4 rfl) ?_
    refine lv_iconst (v := 2) hx hb dL_links_533 (by decide) ?_
    refine hp_SH (As := [.ref xo, .int 2]) (rest := []) B0 hw hS (c_V_close_E hl G f xo ez eo bu nw0 na0 nq0 nr0 nw1 na1 nq1 nr1 bs bp bh bf bl bg S0 S1 gw0 ga0 gw1 ga1 n a cg x sa pk fl gv gh gl hC (Nat.lt_of_le_of_lt hl0 (by decide)) (Nat.lt_of_le_of_lt hl1 (by decide)) 2 (by decide)) mH_L_close qM_L_109 rfl rfl hl9.1 (Nat.le_of_ble_eq_true rfl) ⟨⟨Nat.le_of_ble_eq_true rfl, Nat.le_of_ble_eq_true rfl⟩, Nat.le_of_ble_eq_true rfl, Nat.le_of_ble_eq_true rfl⟩ dL_links_534 (fun E ce q9 f40 H locs hPX hw hS hce hcv hcl => ?_) (fun v f40 H locs hP hw hS => ?_)
    · exact hPX.elim
    · obtain ⟨ev9, hC41, k42⟩ := hP
      subst ev9
      have hC41 : CXW G f40 xo ez eo bu nw0 na0 nq0 nr0 nw1 na1 nq1 nr1 bs bp bh bf bl bg S0 S1 gw0 ga0 gw1 ga1 n a cg x sa pk fl gv gh gl := hC41
      refine W.eq (g2 := F0 m 537 ls [.int (-71)]) rfl ?_
      refine lv_bipush (v := (-71)) hx hb dL_links_537 (by decide) ?_
      refine lv_icmp_ne (tgt := 546) hx hb dL_links_539 (by decide) (fun c9 => absurd (by decide) c9) (fun _ => ?_)
      refine lv_iconst (v := 1) hx hb dL_links_542 (by decide) ?_
      refine lv_goto (tgt := 547) hx hb dL_links_543 (by decide) ?_
      have h43 : f40 lx = some (.inl (cJ G, 64, .inr (.inl xs0))) := k42 _ _ k_lx (Nat.ne_of_beq_eq_false rfl) (hdos _ List.mem_cons_self)
      have h44 : f40 ly = some (.inl (cJ G, 64, .inr (.inl xs1))) := k42 _ _ k_ly (Nat.ne_of_beq_eq_false rfl) (hdos _ (List.mem_cons_of_mem _ List.mem_cons_self))
      have h45 : f40 lw = some (.inl (cI G, 12, .inl (j6r gw0 gw1))) := k42 _ _ k_lw (Nat.ne_of_beq_eq_false rfl) (hdos _ (List.mem_cons_of_mem _ (List.mem_cons_of_mem _ List.mem_cons_self)))
      have h46 : f40 la = some (.inl (cI G, 12, .inl (j6r ga0 ga1))) := k42 _ _ k_la (Nat.ne_of_beq_eq_false rfl) (hdos _ (List.mem_cons_of_mem _ (List.mem_cons_of_mem _ (List.mem_cons_of_mem _ List.mem_cons_self))))
      have h47 : f40 lq = some (.inl (cI G, 12, .inl (j6r S0.2.2.2.2.2.2.2.1 S1.2.2.2.2.2.2.2.1))) := k42 _ _ k_lq (Nat.ne_of_beq_eq_false rfl) (hdos _ (List.mem_cons_of_mem _ (List.mem_cons_of_mem _ (List.mem_cons_of_mem _ (List.mem_cons_of_mem _ List.mem_cons_self)))))
      have h48 : f40 le = some (.inl (cI G, 16, .inl (jE (eSt S0) (e8r S1.1 S1.2.1 S1.2.2.1 S1.2.2.2.1 S1.2.2.2.2.1 S1.2.2.2.2.2.1 S1.2.2.2.2.2.2.1 (nI S1.2.2.2.2.2.2.2.2.length))))) := k42 _ _ h1 (Nat.ne_of_beq_eq_false rfl) (hdos _ (List.mem_cons_of_mem _ (List.mem_cons_of_mem _ (List.mem_cons_of_mem _ (List.mem_cons_of_mem _ (List.mem_cons_of_mem _ List.mem_cons_self))))))
      exact hp_zret (v := 1) B0 hw hS hr ⟨Nat.le_of_ble_eq_true rfl, Nat.le_of_ble_eq_true rfl⟩ (rfl) dL_links_547 (⟨rfl, S0, S1, gw0, ga0, gw1, ga1, hC41, ⟨⟨_, h43, hX0⟩, ⟨_, h44, hX1⟩, h45, h46, h47, h48⟩, ⟨SOK.mono hSo0 (by omega), SOK.mono hSo1 (by omega), hgw0, hga0, hgw1, hga1⟩, hl0, hl1, (show hKn [lx, ly, lw, la, lq, le, xo, ez, eo, bu, nw0, na0, nq0, nr0, nw1, na1, nq1, nr1, bs, bp, bh, bf, bl, bg] f f40 from (hKn.mono k42 sbA))⟩)

set_option maxHeartbeats 4000000 in
set_option maxRecDepth 100000 in
theorem lk_p_0 {l : Launch} (hl : l.stackTraces = false) (G : hG) (f : hM) (xo ez eo bu nw0 na0 nq0 nr0 nw1 na1 nq1 nr1 bs bp bh bf bl bg : Nat) (S0 : ES) (S1 : ES) (gw0 : Nat → Int32) (ga0 : Nat → Int32) (gw1 : Nat → Int32) (ga1 : Nat → Int32) (n : Nat) (a : Nat) (cg : Nat) (x : Nat) (sa : Nat → Nat) (pk : Nat → Nat) (fl : Nat → Nat) (gv : Nat → Nat) (gh : Nat → Int32) (gl : Nat → Int32) (hC : CXW G f xo ez eo bu nw0 na0 nq0 nr0 nw1 na1 nq1 nr1 bs bp bh bf bl bg S0 S1 gw0 ga0 gw1 ga1 n a cg x sa pk fl gv gh gl) (lx ly lw la lq le : Nat) (hdis : ∀ p, p ∈ [xo, ez, eo, bu, nw0, na0, nq0, nr0, nw1, na1, nq1, nr1, bs, bp, bh, bf, bl, bg] → p ∉ [lx, ly, lw, la, lq, le]) (hdos : ∀ p, p ∈ [lx, ly, lw, la, lq, le] → p ∉ [xo, ez, eo, bu, nw0, na0, nq0, nr0, nw1, na1, nq1, nr1, bs, bp, bh, bf, bl, bg]) (n_lx_ly : lx ≠ ly) (n_lw_la : lw ≠ la) (n_lw_lq : lw ≠ lq) (n_la_lq : la ≠ lq) (hLX : LX G f lx ly lw la lq le S0 S1 gw0 ga0 gw1 ga1) (b : Nat) (hInv : INV b S0 S1 gw0 ga0 gw1 ga1) (hbb : b + 200 ≤ 1000000) (hl0 : S0.2.2.2.2.2.2.2.2.length ≤ 52) (hl1 : S1.2.2.2.2.2.2.2.2.length ≤ 52) (ac : Nat) (hac : ac < 24) (hact : ac ≠ 22 → S0.2.2.2.2.2.2.2.2.length ≤ 40 ∧ S1.2.2.2.2.2.2.2.2.length ≤ 40) (u z : Int32) {p : Program} {e : Env} {s : State} {m : MethodId} {args : Array Value} {below : List Frame} {meth : Method} {c : Code} (B0 : hB p l s m args meth c cL_links 17 RL G) (hr : meth.sig.returnType = some .boolean) {H : Heap} {locs : List Loc} {ls : Array Slot} (hw : hW G f H) (hS : va_S (hFr G) s.heap H locs) (j13 : Nat) (hj13 : j13 < 6) (hc : ¬ 14 ≤ nI ac) (hl9 : lv_has ls 17 [(13, .int (nI j13)), (12, .ref lx), (11, .int 0), (10, .int 0), (0, .ref xo), (1, .int (nI ac)), (2, .int u), (3, .int z), (4, .ref lx), (5, .ref ly), (6, .ref lw), (7, .ref la), (8, .ref lq), (9, .ref le)]) : W p l e { frames := 9, cells := 203, slots := 1118, locals := 178 } s m args below meth c H locs 0 0 (vx_MQ below (hQ G (fun v f1 => v = some (.int 1) ∧ ∃ (S2 S3 : ES) (w0 a0 w1 a1 : Nat → Int32), CXW G f1 xo ez eo bu nw0 na0 nq0 nr0 nw1 na1 nq1 nr1 bs bp bh bf bl bg S2 S3 w0 a0 w1 a1 n a cg x sa pk fl gv gh gl ∧ LX G f1 lx ly lw la lq le S2 S3 w0 a0 w1 a1 ∧ INV (b + 100) S2 S3 w0 a0 w1 a1 ∧ S2.2.2.2.2.2.2.2.2.length ≤ 52 ∧ S3.2.2.2.2.2.2.2.2.length ≤ 52 ∧ hKn [lx, ly, lw, la, lq, le, xo, ez, eo, bu, nw0, na0, nq0, nr0, nw1, na1, nq1, nr1, bs, bp, bh, bf, bl, bg] f f1)) (hX G (fun E f1 => False)) args s 203 1118 (hFr G)) (F0 m 621 ls []) := by
  have hx := B0.1
  have hb := B0.2.1
  obtain ⟨⟨xs0, k_lx, hX0⟩, ⟨xs1, k_ly, hX1⟩, k_lw, k_la, k_lq, k_le⟩ := hLX
  obtain ⟨hSo0, hSo1, hgw0, hga0, hgw1, hga1⟩ := id hInv
  have n_lx_lw : lx ≠ lw := hneL k_lx k_lw (Nat.ne_of_beq_eq_false rfl)
  have n_lx_la : lx ≠ la := hneL k_lx k_la (Nat.ne_of_beq_eq_false rfl)
  have n_lx_lq : lx ≠ lq := hneL k_lx k_lq (Nat.ne_of_beq_eq_false rfl)
  have n_lx_le : lx ≠ le := hneL k_lx k_le (Nat.ne_of_beq_eq_false rfl)
  have n_ly_lw : ly ≠ lw := hneL k_ly k_lw (Nat.ne_of_beq_eq_false rfl)
  have n_ly_la : ly ≠ la := hneL k_ly k_la (Nat.ne_of_beq_eq_false rfl)
  have n_ly_lq : ly ≠ lq := hneL k_ly k_lq (Nat.ne_of_beq_eq_false rfl)
  have n_ly_le : ly ≠ le := hneL k_ly k_le (Nat.ne_of_beq_eq_false rfl)
  have n_lw_le : lw ≠ le := hneL k_lw k_le (Nat.ne_of_beq_eq_false rfl)
  have n_la_le : la ≠ le := hneL k_la k_le (Nat.ne_of_beq_eq_false rfl)
  have n_lq_le : lq ≠ le := hneL k_lq k_le (Nat.ne_of_beq_eq_false rfl)
  have sbA : ∀ x9, x9 ∈ [xo, ez, eo, bu, nw0, na0, nq0, nr0, nw1, na1, nq1, nr1, bs, bp, bh, bf, bl, bg] → x9 ∈ [lx, ly, lw, la, lq, le, xo, ez, eo, bu, nw0, na0, nq0, nr0, nw1, na1, nq1, nr1, bs, bp, bh, bf, bl, bg] := (sub_cons (List.mem_cons_of_mem _ (List.mem_cons_of_mem _ (List.mem_cons_of_mem _ (List.mem_cons_of_mem _ (List.mem_cons_of_mem _ (List.mem_cons_of_mem _ List.mem_cons_self)))))) (sub_cons (List.mem_cons_of_mem _ (List.mem_cons_of_mem _ (List.mem_cons_of_mem _ (List.mem_cons_of_mem _ (List.mem_cons_of_mem _ (List.mem_cons_of_mem _ (List.mem_cons_of_mem _ List.mem_cons_self))))))) (sub_cons (List.mem_cons_of_mem _ (List.mem_cons_of_mem _ (List.mem_cons_of_mem _ (List.mem_cons_of_mem _ (List.mem_cons_of_mem _ (List.mem_cons_of_mem _ (List.mem_cons_of_mem _ (List.mem_cons_of_mem _ List.mem_cons_self)))))))) (sub_cons (List.mem_cons_of_mem _ (List.mem_cons_of_mem _ (List.mem_cons_of_mem _ (List.mem_cons_of_mem _ (List.mem_cons_of_mem _ (List.mem_cons_of_mem _ (List.mem_cons_of_mem _ (List.mem_cons_of_mem _ (List.mem_cons_of_mem _ List.mem_cons_self))))))))) (sub_cons (List.mem_cons_of_mem _ (List.mem_cons_of_mem _ (List.mem_cons_of_mem _ (List.mem_cons_of_mem _ (List.mem_cons_of_mem _ (List.mem_cons_of_mem _ (List.mem_cons_of_mem _ (List.mem_cons_of_mem _ (List.mem_cons_of_mem _ (List.mem_cons_of_mem _ List.mem_cons_self)))))))))) (sub_cons (List.mem_cons_of_mem _ (List.mem_cons_of_mem _ (List.mem_cons_of_mem _ (List.mem_cons_of_mem _ (List.mem_cons_of_mem _ (List.mem_cons_of_mem _ (List.mem_cons_of_mem _ (List.mem_cons_of_mem _ (List.mem_cons_of_mem _ (List.mem_cons_of_mem _ (List.mem_cons_of_mem _ List.mem_cons_self))))))))))) (sub_cons (List.mem_cons_of_mem _ (List.mem_cons_of_mem _ (List.mem_cons_of_mem _ (List.mem_cons_of_mem _ (List.mem_cons_of_mem _ (List.mem_cons_of_mem _ (List.mem_cons_of_mem _ (List.mem_cons_of_mem _ (List.mem_cons_of_mem _ (List.mem_cons_of_mem _ (List.mem_cons_of_mem _ (List.mem_cons_of_mem _ List.mem_cons_self)))))))))))) (sub_cons (List.mem_cons_of_mem _ (List.mem_cons_of_mem _ (List.mem_cons_of_mem _ (List.mem_cons_of_mem _ (List.mem_cons_of_mem _ (List.mem_cons_of_mem _ (List.mem_cons_of_mem _ (List.mem_cons_of_mem _ (List.mem_cons_of_mem _ (List.mem_cons_of_mem _ (List.mem_cons_of_mem _ (List.mem_cons_of_mem _ (List.mem_cons_of_mem _ List.mem_cons_self))))))))))))) (sub_cons (List.mem_cons_of_mem _ (List.mem_cons_of_mem _ (List.mem_cons_of_mem _ (List.mem_cons_of_mem _ (List.mem_cons_of_mem _ (List.mem_cons_of_mem _ (List.mem_cons_of_mem _ (List.mem_cons_of_mem _ (List.mem_cons_of_mem _ (List.mem_cons_of_mem _ (List.mem_cons_of_mem _ (List.mem_cons_of_mem _ (List.mem_cons_of_mem _ (List.mem_cons_of_mem _ List.mem_cons_self)))))))))))))) (sub_cons (List.mem_cons_of_mem _ (List.mem_cons_of_mem _ (List.mem_cons_of_mem _ (List.mem_cons_of_mem _ (List.mem_cons_of_mem _ (List.mem_cons_of_mem _ (List.mem_cons_of_mem _ (List.mem_cons_of_mem _ (List.mem_cons_of_mem _ (List.mem_cons_of_mem _ (List.mem_cons_of_mem _ (List.mem_cons_of_mem _ (List.mem_cons_of_mem _ (List.mem_cons_of_mem _ (List.mem_cons_of_mem _ List.mem_cons_self))))))))))))))) (sub_cons (List.mem_cons_of_mem _ (List.mem_cons_of_mem _ (List.mem_cons_of_mem _ (List.mem_cons_of_mem _ (List.mem_cons_of_mem _ (List.mem_cons_of_mem _ (List.mem_cons_of_mem _ (List.mem_cons_of_mem _ (List.mem_cons_of_mem _ (List.mem_cons_of_mem _ (List.mem_cons_of_mem _ (List.mem_cons_of_mem _ (List.mem_cons_of_mem _ (List.mem_cons_of_mem _ (List.mem_cons_of_mem _ (List.mem_cons_of_mem _ List.mem_cons_self)))))))))))))))) (sub_cons (List.mem_cons_of_mem _ (List.mem_cons_of_mem _ (List.mem_cons_of_mem _ (List.mem_cons_of_mem _ (List.mem_cons_of_mem _ (List.mem_cons_of_mem _ (List.mem_cons_of_mem _ (List.mem_cons_of_mem _ (List.mem_cons_of_mem _ (List.mem_cons_of_mem _ (List.mem_cons_of_mem _ (List.mem_cons_of_mem _ (List.mem_cons_of_mem _ (List.mem_cons_of_mem _ (List.mem_cons_of_mem _ (List.mem_cons_of_mem _ (List.mem_cons_of_mem _ List.mem_cons_self))))))))))))))))) (sub_cons (List.mem_cons_of_mem _ (List.mem_cons_of_mem _ (List.mem_cons_of_mem _ (List.mem_cons_of_mem _ (List.mem_cons_of_mem _ (List.mem_cons_of_mem _ (List.mem_cons_of_mem _ (List.mem_cons_of_mem _ (List.mem_cons_of_mem _ (List.mem_cons_of_mem _ (List.mem_cons_of_mem _ (List.mem_cons_of_mem _ (List.mem_cons_of_mem _ (List.mem_cons_of_mem _ (List.mem_cons_of_mem _ (List.mem_cons_of_mem _ (List.mem_cons_of_mem _ (List.mem_cons_of_mem _ List.mem_cons_self)))))))))))))))))) (sub_cons (List.mem_cons_of_mem _ (List.mem_cons_of_mem _ (List.mem_cons_of_mem _ (List.mem_cons_of_mem _ (List.mem_cons_of_mem _ (List.mem_cons_of_mem _ (List.mem_cons_of_mem _ (List.mem_cons_of_mem _ (List.mem_cons_of_mem _ (List.mem_cons_of_mem _ (List.mem_cons_of_mem _ (List.mem_cons_of_mem _ (List.mem_cons_of_mem _ (List.mem_cons_of_mem _ (List.mem_cons_of_mem _ (List.mem_cons_of_mem _ (List.mem_cons_of_mem _ (List.mem_cons_of_mem _ (List.mem_cons_of_mem _ List.mem_cons_self))))))))))))))))))) (sub_cons (List.mem_cons_of_mem _ (List.mem_cons_of_mem _ (List.mem_cons_of_mem _ (List.mem_cons_of_mem _ (List.mem_cons_of_mem _ (List.mem_cons_of_mem _ (List.mem_cons_of_mem _ (List.mem_cons_of_mem _ (List.mem_cons_of_mem _ (List.mem_cons_of_mem _ (List.mem_cons_of_mem _ (List.mem_cons_of_mem _ (List.mem_cons_of_mem _ (List.mem_cons_of_mem _ (List.mem_cons_of_mem _ (List.mem_cons_of_mem _ (List.mem_cons_of_mem _ (List.mem_cons_of_mem _ (List.mem_cons_of_mem _ (List.mem_cons_of_mem _ List.mem_cons_self)))))))))))))))))))) (sub_cons (List.mem_cons_of_mem _ (List.mem_cons_of_mem _ (List.mem_cons_of_mem _ (List.mem_cons_of_mem _ (List.mem_cons_of_mem _ (List.mem_cons_of_mem _ (List.mem_cons_of_mem _ (List.mem_cons_of_mem _ (List.mem_cons_of_mem _ (List.mem_cons_of_mem _ (List.mem_cons_of_mem _ (List.mem_cons_of_mem _ (List.mem_cons_of_mem _ (List.mem_cons_of_mem _ (List.mem_cons_of_mem _ (List.mem_cons_of_mem _ (List.mem_cons_of_mem _ (List.mem_cons_of_mem _ (List.mem_cons_of_mem _ (List.mem_cons_of_mem _ (List.mem_cons_of_mem _ List.mem_cons_self))))))))))))))))))))) (sub_cons (List.mem_cons_of_mem _ (List.mem_cons_of_mem _ (List.mem_cons_of_mem _ (List.mem_cons_of_mem _ (List.mem_cons_of_mem _ (List.mem_cons_of_mem _ (List.mem_cons_of_mem _ (List.mem_cons_of_mem _ (List.mem_cons_of_mem _ (List.mem_cons_of_mem _ (List.mem_cons_of_mem _ (List.mem_cons_of_mem _ (List.mem_cons_of_mem _ (List.mem_cons_of_mem _ (List.mem_cons_of_mem _ (List.mem_cons_of_mem _ (List.mem_cons_of_mem _ (List.mem_cons_of_mem _ (List.mem_cons_of_mem _ (List.mem_cons_of_mem _ (List.mem_cons_of_mem _ (List.mem_cons_of_mem _ List.mem_cons_self)))))))))))))))))))))) (sub_cons (List.mem_cons_of_mem _ (List.mem_cons_of_mem _ (List.mem_cons_of_mem _ (List.mem_cons_of_mem _ (List.mem_cons_of_mem _ (List.mem_cons_of_mem _ (List.mem_cons_of_mem _ (List.mem_cons_of_mem _ (List.mem_cons_of_mem _ (List.mem_cons_of_mem _ (List.mem_cons_of_mem _ (List.mem_cons_of_mem _ (List.mem_cons_of_mem _ (List.mem_cons_of_mem _ (List.mem_cons_of_mem _ (List.mem_cons_of_mem _ (List.mem_cons_of_mem _ (List.mem_cons_of_mem _ (List.mem_cons_of_mem _ (List.mem_cons_of_mem _ (List.mem_cons_of_mem _ (List.mem_cons_of_mem _ (List.mem_cons_of_mem _ List.mem_cons_self))))))))))))))))))))))) sub_nil))))))))))))))))))
  obtain ⟨xx, hxx, hx4⟩ := hSo0.2.2.2.2.1
  have h1 : f le = some (.inl (cI G, 16, .inl (jE (e8r S0.1 S0.2.1 S0.2.2.1 S0.2.2.2.1 S0.2.2.2.2.1 S0.2.2.2.2.2.1 S0.2.2.2.2.2.2.1 (nI S0.2.2.2.2.2.2.2.2.length)) (eSt S1)))) := k_le
  obtain ⟨h40a, h40b⟩ := hact (fun e9 => by subst e9; exact absurd (by decide) hc)
  refine lv_iconst (v := 1) hx hb dL_links_621 (by decide) ?_
  refine lv_iload_n hx hb dL_links_622 rfl (lv_at hl9 7 rfl) ?_
  refine lv_iload_n hx hb dL_links_623 rfl (lv_at hl9 6 rfl) ?_
  refine lv_bipush (v := 48) hx hb dL_links_624 (by decide) ?_
  refine lv_iand hx hb dL_links_626 ?_
  refine lv_if_ne (tgt := 635) hx hb dL_links_627 (by decide) (fun c2 => ?_) (fun c2 => ?_)
  · refine lv_iconst (v := 5) hx hb dL_links_635 (by decide) ?_
    refine hp_S (As := [.int z, .int 5]) (rest := [.int 1]) B0 hw hS (c_L_low hl G f z 5 (by omega) (by omega)) mS_L_low qM_L_94 rfl rfl hl9.1 (Nat.le_of_ble_eq_true rfl) ⟨⟨Nat.le_of_ble_eq_true rfl, Nat.le_of_ble_eq_true rfl⟩, Nat.le_of_ble_eq_true rfl, Nat.le_of_ble_eq_true rfl⟩ dL_links_636 (fun E ce q9 f3 H locs hPX hw hS hce hcv hcl => ?_) (fun v f3 H locs hP hw hS => ?_)
    · exact hPX.elim
    · obtain ⟨ef9, j4, hj5, ev9⟩ := hP
      rw [ef9] at hw
      subst ev9
      refine W.eq (g2 := F0 m 639 ls [.int (nI j4), .int 1]) rfl ?_
      refine lv_iadd hx hb dL_links_639 ?_
      refine hp_c (v := (nI (1 + j4))) (nI_add 1 j4) ?_
      refine lv_istore (lv' := [(14, .int (nI (1 + j4))), (13, .int (nI j13)), (12, .ref lx), (11, .int 0), (10, .int 0), (0, .ref xo), (1, .int (nI ac)), (2, .int u), (3, .int z), (4, .ref lx), (5, .ref ly), (6, .ref lw), (7, .ref la), (8, .ref lq), (9, .ref le)]) hx hb dL_links_640 hl9 (by decide) rfl (fun ls hl9 => ?_)
      refine lv_iload hx hb dL_links_642 (lv_at hl9 0 rfl) ?_
      refine lv_aload hx hb dL_links_644 (lv_at hl9 9 rfl) ?_
      refine lv_aload hx hb dL_links_646 (lv_at hl9 10 rfl) ?_
      refine lv_aload hx hb dL_links_648 (lv_at hl9 13 rfl) ?_
      refine lv_aload hx hb dL_links_650 (lv_at hl9 14 rfl) ?_
      have hpo0 : pot S0 ≤ S0.2.2.2.2.2.2.2.2.length + 10 := Nat.add_le_add_left (Nat.sub_le _ _) _
      have hpo1 : pot S1 ≤ S1.2.2.2.2.2.2.2.2.length + 10 := Nat.add_le_add_left (Nat.sub_le _ _) _
      refine hp_S (As := [.int (nI (1 + j4)), .ref lx, .ref ly, .ref lq, .ref le]) (rest := []) B0 hw hS (c_L_goBy hl G f lx ly lq le S0 S1 b hSo0 hSo1 (by omega) (by have := hpo0; omega) (by have := hpo1; omega) (1 + j4) (by omega) (by omega) n_lx_ly xs0 xs1 hX0 hX1 k_lx k_ly k_lq h1) mS_L_goBy qM_L_111 rfl rfl hl9.1 (Nat.le_of_ble_eq_true rfl) ⟨⟨Nat.le_of_ble_eq_true rfl, Nat.le_of_ble_eq_true rfl⟩, Nat.le_of_ble_eq_true rfl, Nat.le_of_ble_eq_true rfl⟩ dL_links_652 (fun E ce q9 f6 H locs hPX hw hS hce hcv hcl => ?_) (fun v f6 H locs hP hw hS => ?_)
      · exact hPX.elim
      · obtain ⟨ev9, ⟨xs7, h8, hX10⟩, ⟨ys11, h12, hY13⟩, h14, h15, k16⟩ := hP
        subst ev9
        refine W.eq (g2 := F0 m 655 ls [.int ((passF (1 + j4) (S0, S1, 0)).2.2)]) rfl ?_
        refine lv_istore (lv' := [(15, .int ((passF (1 + j4) (S0, S1, 0)).2.2)), (14, .int (nI (1 + j4))), (13, .int (nI j13)), (12, .ref lx), (11, .int 0), (10, .int 0), (0, .ref xo), (1, .int (nI ac)), (2, .int u), (3, .int z), (4, .ref lx), (5, .ref ly), (6, .ref lw), (7, .ref la), (8, .ref lq), (9, .ref le)]) hx hb dL_links_655 hl9 (by decide) rfl (fun ls hl9 => ?_)
        refine lv_aload_n hx hb dL_links_657 rfl (lv_at hl9 6 rfl) ?_
        refine lv_iconst (v := 0) hx hb dL_links_658 (by decide) ?_
        have h17 : f6 lw = some (.inl (cI G, 12, .inl (j6r gw0 gw1))) := (hEq.k k16) _ _ k_lw (ninc (Ne.symm n_lx_lw) (ninc (Ne.symm n_ly_lw) (ninc n_lw_le nin0)))
        have h18 : f6 la = some (.inl (cI G, 12, .inl (j6r ga0 ga1))) := (hEq.k k16) _ _ k_la (ninc (Ne.symm n_lx_la) (ninc (Ne.symm n_ly_la) (ninc n_la_le nin0)))
        have hC19 : CXW G f6 xo ez eo bu nw0 na0 nq0 nr0 nw1 na1 nq1 nr1 bs bp bh bf bl bg S0 S1 gw0 ga0 gw1 ga1 n a cg x sa pk fl gv gh gl := CXW.eq hC (show hEq [lx, ly, lw, la, lq, le] f f6 from (hEq.mono k16 (sub_cons List.mem_cons_self (sub_cons (List.mem_cons_of_mem _ List.mem_cons_self) (sub_cons (List.mem_cons_of_mem _ (List.mem_cons_of_mem _ (List.mem_cons_of_mem _ (List.mem_cons_of_mem _ (List.mem_cons_of_mem _ List.mem_cons_self))))) sub_nil))))) hdis (fun b9 hb9 => by
            simp only [List.mem_cons, List.not_mem_nil, or_false] at hb9
            rcases hb9 with hb9 | hb9 | hb9 | hb9 | hb9 | hb9
            · rw [hb9]; exact ⟨_, _, k_lx, h8, (Nat.ne_of_beq_eq_false rfl), (Nat.ne_of_beq_eq_false rfl)⟩
            · rw [hb9]; exact ⟨_, _, k_ly, h12, (Nat.ne_of_beq_eq_false rfl), (Nat.ne_of_beq_eq_false rfl)⟩
            · rw [hb9]; exact ⟨_, _, k_lw, h17, (Nat.ne_of_beq_eq_false rfl), (Nat.ne_of_beq_eq_false rfl)⟩
            · rw [hb9]; exact ⟨_, _, k_la, h18, (Nat.ne_of_beq_eq_false rfl), (Nat.ne_of_beq_eq_false rfl)⟩
            · rw [hb9]; exact ⟨_, _, k_lq, h14, (Nat.ne_of_beq_eq_false rfl), (Nat.ne_of_beq_eq_false rfl)⟩
            · rw [hb9]; exact ⟨_, _, h1, h15, (Nat.ne_of_beq_eq_false rfl), (Nat.ne_of_beq_eq_false rfl)⟩)
        refine hp_SH (As := [.ref xo, .int 0]) (rest := []) B0 hw hS (c_V_pass_A hl G f6 xo ez eo bu nw0 na0 nq0 nr0 nw1 na1 nq1 nr1 bs bp bh bf bl bg S0 S1 gw0 ga0 gw1 ga1 n a cg x sa pk fl gv gh gl hC19 (Nat.lt_of_le_of_lt hl0 (by decide)) (Nat.lt_of_le_of_lt hl1 (by decide)) 0 (by decide)) mH_L_pass qM_L_115 rfl rfl hl9.1 (Nat.le_of_ble_eq_true rfl) ⟨⟨Nat.le_of_ble_eq_true rfl, Nat.le_of_ble_eq_true rfl⟩, Nat.le_of_ble_eq_true rfl, Nat.le_of_ble_eq_true rfl⟩ dL_links_659 (fun E ce q9 f20 H locs hPX hw hS hce hcv hcl => ?_) (fun v f20 H locs hP hw hS => ?_)
        · exact hPX.elim
        · obtain ⟨ev9, hC21, k22⟩ := hP
          subst ev9
          have hC21 : CXW G f20 xo ez eo bu nw0 na0 nq0 nr0 nw1 na1 nq1 nr1 bs bp bh bf bl bg S0 S1 gw0 ga0 gw1 ga1 n a cg x sa pk fl gv gh gl := hC21
          refine W.eq (g2 := F0 m 662 ls [.int (-72)]) rfl ?_
          refine lv_bipush (v := (-72)) hx hb dL_links_662 (by decide) ?_
          refine lv_icmp_ne (tgt := 704) hx hb dL_links_664 (by decide) (fun c9 => absurd (by decide) c9) (fun _ => ?_)
          refine lv_aload_n hx hb dL_links_667 rfl (lv_at hl9 6 rfl) ?_
          refine lv_bipush (v := 51) hx hb dL_links_668 (by decide) ?_
          refine hp_SH (As := [.ref xo, .int 51]) (rest := []) B0 hw hS (c_V_pass_A hl G f20 xo ez eo bu nw0 na0 nq0 nr0 nw1 na1 nq1 nr1 bs bp bh bf bl bg S0 S1 gw0 ga0 gw1 ga1 n a cg x sa pk fl gv gh gl hC21 (Nat.lt_of_le_of_lt hl0 (by decide)) (Nat.lt_of_le_of_lt hl1 (by decide)) 51 (by decide)) mH_L_pass qM_L_115 rfl rfl hl9.1 (Nat.le_of_ble_eq_true rfl) ⟨⟨Nat.le_of_ble_eq_true rfl, Nat.le_of_ble_eq_true rfl⟩, Nat.le_of_ble_eq_true rfl, Nat.le_of_ble_eq_true rfl⟩ dL_links_670 (fun E ce q9 f23 H locs hPX hw hS hce hcv hcl => ?_) (fun v f23 H locs hP hw hS => ?_)
          · exact hPX.elim
          · obtain ⟨ev9, hC24, k25⟩ := hP
            subst ev9
            have hC24 : CXW G f23 xo ez eo bu nw0 na0 nq0 nr0 nw1 na1 nq1 nr1 bs bp bh bf bl bg S0 S1 gw0 ga0 gw1 ga1 n a cg x sa pk fl gv gh gl := hC24
            refine W.eq (g2 := F0 m 673 ls [.int (-72)]) rfl ?_
            refine lv_bipush (v := (-72)) hx hb dL_links_673 (by decide) ?_
            refine lv_icmp_ne (tgt := 704) hx hb dL_links_675 (by decide) (fun c9 => absurd (by decide) c9) (fun _ => ?_)
            refine lv_aload_n hx hb dL_links_678 rfl (lv_at hl9 6 rfl) ?_
            refine lv_ldc (v := (-2147483648)) hx hb B0.2.2.2.1 (B0.2.2.2.2.1 _ qK_L_67) dL_links_679 ?_
            refine hp_SH (As := [.ref xo, .int (-2147483648)]) (rest := []) B0 hw hS (c_V_pass_A hl G f23 xo ez eo bu nw0 na0 nq0 nr0 nw1 na1 nq1 nr1 bs bp bh bf bl bg S0 S1 gw0 ga0 gw1 ga1 n a cg x sa pk fl gv gh gl hC24 (Nat.lt_of_le_of_lt hl0 (by decide)) (Nat.lt_of_le_of_lt hl1 (by decide)) (-2147483648) (by decide)) mH_L_pass qM_L_115 rfl rfl hl9.1 (Nat.le_of_ble_eq_true rfl) ⟨⟨Nat.le_of_ble_eq_true rfl, Nat.le_of_ble_eq_true rfl⟩, Nat.le_of_ble_eq_true rfl, Nat.le_of_ble_eq_true rfl⟩ dL_links_681 (fun E ce q9 f26 H locs hPX hw hS hce hcv hcl => ?_) (fun v f26 H locs hP hw hS => ?_)
            · exact hPX.elim
            · obtain ⟨ev9, hC27, k28⟩ := hP
              subst ev9
              have hC27 : CXW G f26 xo ez eo bu nw0 na0 nq0 nr0 nw1 na1 nq1 nr1 bs bp bh bf bl bg S0 S1 gw0 ga0 gw1 ga1 n a cg x sa pk fl gv gh gl := hC27
              refine W.eq (g2 := F0 m 684 ls [.int (-72)]) rfl ?_
              refine lv_bipush (v := (-72)) hx hb dL_links_684 (by decide) ?_
              refine lv_icmp_ne (tgt := 704) hx hb dL_links_686 (by decide) (fun c9 => absurd (by decide) c9) (fun _ => ?_)
              refine lv_aload_n hx hb dL_links_689 rfl (lv_at hl9 6 rfl) ?_
              refine lv_iload hx hb dL_links_690 (lv_at hl9 1 rfl) ?_
              refine hp_SH (As := [.ref xo, .int (nI (1 + j4))]) (rest := []) B0 hw hS (c_V_pass_ok hl G f26 xo ez eo bu nw0 na0 nq0 nr0 nw1 na1 nq1 nr1 bs bp bh bf bl bg S0 S1 gw0 ga0 gw1 ga1 n a cg x sa pk fl gv gh gl hC27 (Nat.lt_of_le_of_lt hl0 (by decide)) (Nat.lt_of_le_of_lt hl1 (by decide)) (1 + j4) (by omega) (by omega)) mH_L_pass qM_L_115 rfl rfl hl9.1 (Nat.le_of_ble_eq_true rfl) ⟨⟨Nat.le_of_ble_eq_true rfl, Nat.le_of_ble_eq_true rfl⟩, Nat.le_of_ble_eq_true rfl, Nat.le_of_ble_eq_true rfl⟩ dL_links_692 (fun E ce q9 f29 H locs hPX hw hS hce hcv hcl => ?_) (fun v f29 H locs hP hw hS => ?_)
              · exact hPX.elim
              · obtain ⟨ev9, hC30, k31⟩ := hP
                subst ev9
                have hC30 : CXW G f29 xo ez eo bu nw0 na0 nq0 nr0 nw1 na1 nq1 nr1 bs bp bh bf bl bg ((passF (1 + j4) (S0, S1, 0)).1) ((passF (1 + j4) (S0, S1, 0)).2.1) gw0 ga0 gw1 ga1 n a cg x sa pk fl gv gh gl := hC30
                refine W.eq (g2 := F0 m 695 ls [.int ((passF (1 + j4) (S0, S1, 0)).2.2)]) rfl ?_
                refine lv_iload hx hb dL_links_695 (lv_at hl9 0 rfl) ?_
                refine lv_icmp_ne (tgt := 704) hx hb dL_links_697 (by decide) (fun c9 => absurd rfl c9) (fun _ => ?_)
                refine lv_iconst (v := 1) hx hb dL_links_700 (by decide) ?_
                refine lv_goto (tgt := 705) hx hb dL_links_701 (by decide) ?_
                have h32 : f20 lx = some (.inl (cJ G, 64, .inr (.inl xs7))) := k22 _ _ h8 (Nat.ne_of_beq_eq_false rfl) (hdos _ List.mem_cons_self)
                have h33 : f23 lx = some (.inl (cJ G, 64, .inr (.inl xs7))) := k25 _ _ h32 (Nat.ne_of_beq_eq_false rfl) (hdos _ List.mem_cons_self)
                have h34 : f26 lx = some (.inl (cJ G, 64, .inr (.inl xs7))) := k28 _ _ h33 (Nat.ne_of_beq_eq_false rfl) (hdos _ List.mem_cons_self)
                have h35 : f29 lx = some (.inl (cJ G, 64, .inr (.inl xs7))) := k31 _ _ h34 (Nat.ne_of_beq_eq_false rfl) (hdos _ List.mem_cons_self)
                have h36 : f20 ly = some (.inl (cJ G, 64, .inr (.inl ys11))) := k22 _ _ h12 (Nat.ne_of_beq_eq_false rfl) (hdos _ (List.mem_cons_of_mem _ List.mem_cons_self))
                have h37 : f23 ly = some (.inl (cJ G, 64, .inr (.inl ys11))) := k25 _ _ h36 (Nat.ne_of_beq_eq_false rfl) (hdos _ (List.mem_cons_of_mem _ List.mem_cons_self))
                have h38 : f26 ly = some (.inl (cJ G, 64, .inr (.inl ys11))) := k28 _ _ h37 (Nat.ne_of_beq_eq_false rfl) (hdos _ (List.mem_cons_of_mem _ List.mem_cons_self))
                have h39 : f29 ly = some (.inl (cJ G, 64, .inr (.inl ys11))) := k31 _ _ h38 (Nat.ne_of_beq_eq_false rfl) (hdos _ (List.mem_cons_of_mem _ List.mem_cons_self))
                have h40 : f20 lw = some (.inl (cI G, 12, .inl (j6r gw0 gw1))) := k22 _ _ h17 (Nat.ne_of_beq_eq_false rfl) (hdos _ (List.mem_cons_of_mem _ (List.mem_cons_of_mem _ List.mem_cons_self)))
                have h41 : f23 lw = some (.inl (cI G, 12, .inl (j6r gw0 gw1))) := k25 _ _ h40 (Nat.ne_of_beq_eq_false rfl) (hdos _ (List.mem_cons_of_mem _ (List.mem_cons_of_mem _ List.mem_cons_self)))
                have h42 : f26 lw = some (.inl (cI G, 12, .inl (j6r gw0 gw1))) := k28 _ _ h41 (Nat.ne_of_beq_eq_false rfl) (hdos _ (List.mem_cons_of_mem _ (List.mem_cons_of_mem _ List.mem_cons_self)))
                have h43 : f29 lw = some (.inl (cI G, 12, .inl (j6r gw0 gw1))) := k31 _ _ h42 (Nat.ne_of_beq_eq_false rfl) (hdos _ (List.mem_cons_of_mem _ (List.mem_cons_of_mem _ List.mem_cons_self)))
                have h44 : f20 la = some (.inl (cI G, 12, .inl (j6r ga0 ga1))) := k22 _ _ h18 (Nat.ne_of_beq_eq_false rfl) (hdos _ (List.mem_cons_of_mem _ (List.mem_cons_of_mem _ (List.mem_cons_of_mem _ List.mem_cons_self))))
                have h45 : f23 la = some (.inl (cI G, 12, .inl (j6r ga0 ga1))) := k25 _ _ h44 (Nat.ne_of_beq_eq_false rfl) (hdos _ (List.mem_cons_of_mem _ (List.mem_cons_of_mem _ (List.mem_cons_of_mem _ List.mem_cons_self))))
                have h46 : f26 la = some (.inl (cI G, 12, .inl (j6r ga0 ga1))) := k28 _ _ h45 (Nat.ne_of_beq_eq_false rfl) (hdos _ (List.mem_cons_of_mem _ (List.mem_cons_of_mem _ (List.mem_cons_of_mem _ List.mem_cons_self))))
                have h47 : f29 la = some (.inl (cI G, 12, .inl (j6r ga0 ga1))) := k31 _ _ h46 (Nat.ne_of_beq_eq_false rfl) (hdos _ (List.mem_cons_of_mem _ (List.mem_cons_of_mem _ (List.mem_cons_of_mem _ List.mem_cons_self))))
                have h48 : f20 lq = some (.inl (cI G, 12, .inl (j6r (passF (1 + j4) (S0, S1, 0)).1.2.2.2.2.2.2.2.1 (passF (1 + j4) (S0, S1, 0)).2.1.2.2.2.2.2.2.2.1))) := k22 _ _ h14 (Nat.ne_of_beq_eq_false rfl) (hdos _ (List.mem_cons_of_mem _ (List.mem_cons_of_mem _ (List.mem_cons_of_mem _ (List.mem_cons_of_mem _ List.mem_cons_self)))))
                have h49 : f23 lq = some (.inl (cI G, 12, .inl (j6r (passF (1 + j4) (S0, S1, 0)).1.2.2.2.2.2.2.2.1 (passF (1 + j4) (S0, S1, 0)).2.1.2.2.2.2.2.2.2.1))) := k25 _ _ h48 (Nat.ne_of_beq_eq_false rfl) (hdos _ (List.mem_cons_of_mem _ (List.mem_cons_of_mem _ (List.mem_cons_of_mem _ (List.mem_cons_of_mem _ List.mem_cons_self)))))
                have h50 : f26 lq = some (.inl (cI G, 12, .inl (j6r (passF (1 + j4) (S0, S1, 0)).1.2.2.2.2.2.2.2.1 (passF (1 + j4) (S0, S1, 0)).2.1.2.2.2.2.2.2.2.1))) := k28 _ _ h49 (Nat.ne_of_beq_eq_false rfl) (hdos _ (List.mem_cons_of_mem _ (List.mem_cons_of_mem _ (List.mem_cons_of_mem _ (List.mem_cons_of_mem _ List.mem_cons_self)))))
                have h51 : f29 lq = some (.inl (cI G, 12, .inl (j6r (passF (1 + j4) (S0, S1, 0)).1.2.2.2.2.2.2.2.1 (passF (1 + j4) (S0, S1, 0)).2.1.2.2.2.2.2.2.2.1))) := k31 _ _ h50 (Nat.ne_of_beq_eq_false rfl) (hdos _ (List.mem_cons_of_mem _ (List.mem_cons_of_mem _ (List.mem_cons_of_mem _ (List.mem_cons_of_mem _ List.mem_cons_self)))))
                have h52 : f20 le = some (.inl (cI G, 16, .inl (jE (eSt (passF (1 + j4) (S0, S1, 0)).1) (eSt (passF (1 + j4) (S0, S1, 0)).2.1)))) := k22 _ _ h15 (Nat.ne_of_beq_eq_false rfl) (hdos _ (List.mem_cons_of_mem _ (List.mem_cons_of_mem _ (List.mem_cons_of_mem _ (List.mem_cons_of_mem _ (List.mem_cons_of_mem _ List.mem_cons_self))))))
                have h53 : f23 le = some (.inl (cI G, 16, .inl (jE (eSt (passF (1 + j4) (S0, S1, 0)).1) (eSt (passF (1 + j4) (S0, S1, 0)).2.1)))) := k25 _ _ h52 (Nat.ne_of_beq_eq_false rfl) (hdos _ (List.mem_cons_of_mem _ (List.mem_cons_of_mem _ (List.mem_cons_of_mem _ (List.mem_cons_of_mem _ (List.mem_cons_of_mem _ List.mem_cons_self))))))
                have h54 : f26 le = some (.inl (cI G, 16, .inl (jE (eSt (passF (1 + j4) (S0, S1, 0)).1) (eSt (passF (1 + j4) (S0, S1, 0)).2.1)))) := k28 _ _ h53 (Nat.ne_of_beq_eq_false rfl) (hdos _ (List.mem_cons_of_mem _ (List.mem_cons_of_mem _ (List.mem_cons_of_mem _ (List.mem_cons_of_mem _ (List.mem_cons_of_mem _ List.mem_cons_self))))))
                have h55 : f29 le = some (.inl (cI G, 16, .inl (jE (eSt (passF (1 + j4) (S0, S1, 0)).1) (eSt (passF (1 + j4) (S0, S1, 0)).2.1)))) := k31 _ _ h54 (Nat.ne_of_beq_eq_false rfl) (hdos _ (List.mem_cons_of_mem _ (List.mem_cons_of_mem _ (List.mem_cons_of_mem _ (List.mem_cons_of_mem _ (List.mem_cons_of_mem _ List.mem_cons_self))))))
                exact hp_zret (v := 1) B0 hw hS hr ⟨Nat.le_of_ble_eq_true rfl, Nat.le_of_ble_eq_true rfl⟩ (rfl) dL_links_705 (⟨rfl, (passF (1 + j4) (S0, S1, 0)).1, (passF (1 + j4) (S0, S1, 0)).2.1, gw0, ga0, gw1, ga1, hC30, ⟨⟨_, h35, hX10⟩, ⟨_, h39, hY13⟩, h43, h47, h51, h55⟩, ⟨SOK.mono (passF_ok (1 + j4) b (S0, S1, 0) hSo0 hSo1 (by omega)).1 (by omega), SOK.mono (passF_ok (1 + j4) b (S0, S1, 0) hSo0 hSo1 (by omega)).2 (by omega), hgw0, hga0, hgw1, hga1⟩, (Nat.le_trans (pot_len _) (Nat.le_trans (passF_pot (1 + j4) b (S0, S1, 0) hSo0 hSo1 (by omega)).1 (by have h9 := hpo0; show pot S0 ≤ 52; omega))), (Nat.le_trans (pot_len _) (Nat.le_trans (passF_pot (1 + j4) b (S0, S1, 0) hSo0 hSo1 (by omega)).2 (by have h9 := hpo1; show pot S1 ≤ 52; omega))), ((show hKn [lx, ly, lw, la, lq, le, xo, ez, eo, bu, nw0, na0, nq0, nr0, nw1, na1, nq1, nr1, bs, bp, bh, bf, bl, bg] f f6 from (hKn.mono (hKn.eq k16) (sub_cons List.mem_cons_self (sub_cons (List.mem_cons_of_mem _ List.mem_cons_self) (sub_cons (List.mem_cons_of_mem _ (List.mem_cons_of_mem _ (List.mem_cons_of_mem _ (List.mem_cons_of_mem _ (List.mem_cons_of_mem _ List.mem_cons_self))))) sub_nil))))).tr ((show hKn [lx, ly, lw, la, lq, le, xo, ez, eo, bu, nw0, na0, nq0, nr0, nw1, na1, nq1, nr1, bs, bp, bh, bf, bl, bg] f6 f20 from (hKn.mono k22 sbA)).tr ((show hKn [lx, ly, lw, la, lq, le, xo, ez, eo, bu, nw0, na0, nq0, nr0, nw1, na1, nq1, nr1, bs, bp, bh, bf, bl, bg] f20 f23 from (hKn.mono k25 sbA)).tr ((show hKn [lx, ly, lw, la, lq, le, xo, ez, eo, bu, nw0, na0, nq0, nr0, nw1, na1, nq1, nr1, bs, bp, bh, bf, bl, bg] f23 f26 from (hKn.mono k28 sbA)).tr (show hKn [lx, ly, lw, la, lq, le, xo, ez, eo, bu, nw0, na0, nq0, nr0, nw1, na1, nq1, nr1, bs, bp, bh, bf, bl, bg] f26 f29 from (hKn.mono k31 sbA))))))⟩)
  · refine lv_bipush (v := 50) hx hb dL_links_630 (by decide) ?_
    refine lv_goto (tgt := 636) hx hb dL_links_632 (by decide) ?_
    refine hp_S (As := [.int z, .int 50]) (rest := [.int 1]) B0 hw hS (c_L_low hl G f z 50 (by omega) (by omega)) mS_L_low qM_L_94 rfl rfl hl9.1 (Nat.le_of_ble_eq_true rfl) ⟨⟨Nat.le_of_ble_eq_true rfl, Nat.le_of_ble_eq_true rfl⟩, Nat.le_of_ble_eq_true rfl, Nat.le_of_ble_eq_true rfl⟩ dL_links_636 (fun E ce q9 f56 H locs hPX hw hS hce hcv hcl => ?_) (fun v f56 H locs hP hw hS => ?_)
    · exact hPX.elim
    · obtain ⟨ef9, j57, hj58, ev9⟩ := hP
      rw [ef9] at hw
      subst ev9
      refine W.eq (g2 := F0 m 639 ls [.int (nI j57), .int 1]) rfl ?_
      refine lv_iadd hx hb dL_links_639 ?_
      refine hp_c (v := (nI (1 + j57))) (nI_add 1 j57) ?_
      refine lv_istore (lv' := [(14, .int (nI (1 + j57))), (13, .int (nI j13)), (12, .ref lx), (11, .int 0), (10, .int 0), (0, .ref xo), (1, .int (nI ac)), (2, .int u), (3, .int z), (4, .ref lx), (5, .ref ly), (6, .ref lw), (7, .ref la), (8, .ref lq), (9, .ref le)]) hx hb dL_links_640 hl9 (by decide) rfl (fun ls hl9 => ?_)
      refine lv_iload hx hb dL_links_642 (lv_at hl9 0 rfl) ?_
      refine lv_aload hx hb dL_links_644 (lv_at hl9 9 rfl) ?_
      refine lv_aload hx hb dL_links_646 (lv_at hl9 10 rfl) ?_
      refine lv_aload hx hb dL_links_648 (lv_at hl9 13 rfl) ?_
      refine lv_aload hx hb dL_links_650 (lv_at hl9 14 rfl) ?_
      have hpo0 : pot S0 ≤ S0.2.2.2.2.2.2.2.2.length + 10 := Nat.add_le_add_left (Nat.sub_le _ _) _
      have hpo1 : pot S1 ≤ S1.2.2.2.2.2.2.2.2.length + 10 := Nat.add_le_add_left (Nat.sub_le _ _) _
      refine hp_S (As := [.int (nI (1 + j57)), .ref lx, .ref ly, .ref lq, .ref le]) (rest := []) B0 hw hS (c_L_goBy hl G f lx ly lq le S0 S1 b hSo0 hSo1 (by omega) (by have := hpo0; omega) (by have := hpo1; omega) (1 + j57) (by omega) (by omega) n_lx_ly xs0 xs1 hX0 hX1 k_lx k_ly k_lq h1) mS_L_goBy qM_L_111 rfl rfl hl9.1 (Nat.le_of_ble_eq_true rfl) ⟨⟨Nat.le_of_ble_eq_true rfl, Nat.le_of_ble_eq_true rfl⟩, Nat.le_of_ble_eq_true rfl, Nat.le_of_ble_eq_true rfl⟩ dL_links_652 (fun E ce q9 f59 H locs hPX hw hS hce hcv hcl => ?_) (fun v f59 H locs hP hw hS => ?_)
      · exact hPX.elim
      · obtain ⟨ev9, ⟨xs60, h61, hX62⟩, ⟨ys63, h64, hY65⟩, h66, h67, k68⟩ := hP
        subst ev9
        refine W.eq (g2 := F0 m 655 ls [.int ((passF (1 + j57) (S0, S1, 0)).2.2)]) rfl ?_
        refine lv_istore (lv' := [(15, .int ((passF (1 + j57) (S0, S1, 0)).2.2)), (14, .int (nI (1 + j57))), (13, .int (nI j13)), (12, .ref lx), (11, .int 0), (10, .int 0), (0, .ref xo), (1, .int (nI ac)), (2, .int u), (3, .int z), (4, .ref lx), (5, .ref ly), (6, .ref lw), (7, .ref la), (8, .ref lq), (9, .ref le)]) hx hb dL_links_655 hl9 (by decide) rfl (fun ls hl9 => ?_)
        refine lv_aload_n hx hb dL_links_657 rfl (lv_at hl9 6 rfl) ?_
        refine lv_iconst (v := 0) hx hb dL_links_658 (by decide) ?_
        have h69 : f59 lw = some (.inl (cI G, 12, .inl (j6r gw0 gw1))) := (hEq.k k68) _ _ k_lw (ninc (Ne.symm n_lx_lw) (ninc (Ne.symm n_ly_lw) (ninc n_lw_le nin0)))
        have h70 : f59 la = some (.inl (cI G, 12, .inl (j6r ga0 ga1))) := (hEq.k k68) _ _ k_la (ninc (Ne.symm n_lx_la) (ninc (Ne.symm n_ly_la) (ninc n_la_le nin0)))
        have hC71 : CXW G f59 xo ez eo bu nw0 na0 nq0 nr0 nw1 na1 nq1 nr1 bs bp bh bf bl bg S0 S1 gw0 ga0 gw1 ga1 n a cg x sa pk fl gv gh gl := CXW.eq hC (show hEq [lx, ly, lw, la, lq, le] f f59 from (hEq.mono k68 (sub_cons List.mem_cons_self (sub_cons (List.mem_cons_of_mem _ List.mem_cons_self) (sub_cons (List.mem_cons_of_mem _ (List.mem_cons_of_mem _ (List.mem_cons_of_mem _ (List.mem_cons_of_mem _ (List.mem_cons_of_mem _ List.mem_cons_self))))) sub_nil))))) hdis (fun b9 hb9 => by
            simp only [List.mem_cons, List.not_mem_nil, or_false] at hb9
            rcases hb9 with hb9 | hb9 | hb9 | hb9 | hb9 | hb9
            · rw [hb9]; exact ⟨_, _, k_lx, h61, (Nat.ne_of_beq_eq_false rfl), (Nat.ne_of_beq_eq_false rfl)⟩
            · rw [hb9]; exact ⟨_, _, k_ly, h64, (Nat.ne_of_beq_eq_false rfl), (Nat.ne_of_beq_eq_false rfl)⟩
            · rw [hb9]; exact ⟨_, _, k_lw, h69, (Nat.ne_of_beq_eq_false rfl), (Nat.ne_of_beq_eq_false rfl)⟩
            · rw [hb9]; exact ⟨_, _, k_la, h70, (Nat.ne_of_beq_eq_false rfl), (Nat.ne_of_beq_eq_false rfl)⟩
            · rw [hb9]; exact ⟨_, _, k_lq, h66, (Nat.ne_of_beq_eq_false rfl), (Nat.ne_of_beq_eq_false rfl)⟩
            · rw [hb9]; exact ⟨_, _, h1, h67, (Nat.ne_of_beq_eq_false rfl), (Nat.ne_of_beq_eq_false rfl)⟩)
        refine hp_SH (As := [.ref xo, .int 0]) (rest := []) B0 hw hS (c_V_pass_A hl G f59 xo ez eo bu nw0 na0 nq0 nr0 nw1 na1 nq1 nr1 bs bp bh bf bl bg S0 S1 gw0 ga0 gw1 ga1 n a cg x sa pk fl gv gh gl hC71 (Nat.lt_of_le_of_lt hl0 (by decide)) (Nat.lt_of_le_of_lt hl1 (by decide)) 0 (by decide)) mH_L_pass qM_L_115 rfl rfl hl9.1 (Nat.le_of_ble_eq_true rfl) ⟨⟨Nat.le_of_ble_eq_true rfl, Nat.le_of_ble_eq_true rfl⟩, Nat.le_of_ble_eq_true rfl, Nat.le_of_ble_eq_true rfl⟩ dL_links_659 (fun E ce q9 f72 H locs hPX hw hS hce hcv hcl => ?_) (fun v f72 H locs hP hw hS => ?_)
        · exact hPX.elim
        · obtain ⟨ev9, hC73, k74⟩ := hP
          subst ev9
          have hC73 : CXW G f72 xo ez eo bu nw0 na0 nq0 nr0 nw1 na1 nq1 nr1 bs bp bh bf bl bg S0 S1 gw0 ga0 gw1 ga1 n a cg x sa pk fl gv gh gl := hC73
          refine W.eq (g2 := F0 m 662 ls [.int (-72)]) rfl ?_
          refine lv_bipush (v := (-72)) hx hb dL_links_662 (by decide) ?_
          refine lv_icmp_ne (tgt := 704) hx hb dL_links_664 (by decide) (fun c9 => absurd (by decide) c9) (fun _ => ?_)
          refine lv_aload_n hx hb dL_links_667 rfl (lv_at hl9 6 rfl) ?_
          refine lv_bipush (v := 51) hx hb dL_links_668 (by decide) ?_
          refine hp_SH (As := [.ref xo, .int 51]) (rest := []) B0 hw hS (c_V_pass_A hl G f72 xo ez eo bu nw0 na0 nq0 nr0 nw1 na1 nq1 nr1 bs bp bh bf bl bg S0 S1 gw0 ga0 gw1 ga1 n a cg x sa pk fl gv gh gl hC73 (Nat.lt_of_le_of_lt hl0 (by decide)) (Nat.lt_of_le_of_lt hl1 (by decide)) 51 (by decide)) mH_L_pass qM_L_115 rfl rfl hl9.1 (Nat.le_of_ble_eq_true rfl) ⟨⟨Nat.le_of_ble_eq_true rfl, Nat.le_of_ble_eq_true rfl⟩, Nat.le_of_ble_eq_true rfl, Nat.le_of_ble_eq_true rfl⟩ dL_links_670 (fun E ce q9 f75 H locs hPX hw hS hce hcv hcl => ?_) (fun v f75 H locs hP hw hS => ?_)
          · exact hPX.elim
          · obtain ⟨ev9, hC76, k77⟩ := hP
            subst ev9
            have hC76 : CXW G f75 xo ez eo bu nw0 na0 nq0 nr0 nw1 na1 nq1 nr1 bs bp bh bf bl bg S0 S1 gw0 ga0 gw1 ga1 n a cg x sa pk fl gv gh gl := hC76
            refine W.eq (g2 := F0 m 673 ls [.int (-72)]) rfl ?_
            refine lv_bipush (v := (-72)) hx hb dL_links_673 (by decide) ?_
            refine lv_icmp_ne (tgt := 704) hx hb dL_links_675 (by decide) (fun c9 => absurd (by decide) c9) (fun _ => ?_)
            refine lv_aload_n hx hb dL_links_678 rfl (lv_at hl9 6 rfl) ?_
            refine lv_ldc (v := (-2147483648)) hx hb B0.2.2.2.1 (B0.2.2.2.2.1 _ qK_L_67) dL_links_679 ?_
            refine hp_SH (As := [.ref xo, .int (-2147483648)]) (rest := []) B0 hw hS (c_V_pass_A hl G f75 xo ez eo bu nw0 na0 nq0 nr0 nw1 na1 nq1 nr1 bs bp bh bf bl bg S0 S1 gw0 ga0 gw1 ga1 n a cg x sa pk fl gv gh gl hC76 (Nat.lt_of_le_of_lt hl0 (by decide)) (Nat.lt_of_le_of_lt hl1 (by decide)) (-2147483648) (by decide)) mH_L_pass qM_L_115 rfl rfl hl9.1 (Nat.le_of_ble_eq_true rfl) ⟨⟨Nat.le_of_ble_eq_true rfl, Nat.le_of_ble_eq_true rfl⟩, Nat.le_of_ble_eq_true rfl, Nat.le_of_ble_eq_true rfl⟩ dL_links_681 (fun E ce q9 f78 H locs hPX hw hS hce hcv hcl => ?_) (fun v f78 H locs hP hw hS => ?_)
            · exact hPX.elim
            · obtain ⟨ev9, hC79, k80⟩ := hP
              subst ev9
              have hC79 : CXW G f78 xo ez eo bu nw0 na0 nq0 nr0 nw1 na1 nq1 nr1 bs bp bh bf bl bg S0 S1 gw0 ga0 gw1 ga1 n a cg x sa pk fl gv gh gl := hC79
              refine W.eq (g2 := F0 m 684 ls [.int (-72)]) rfl ?_
              refine lv_bipush (v := (-72)) hx hb dL_links_684 (by decide) ?_
              refine lv_icmp_ne (tgt := 704) hx hb dL_links_686 (by decide) (fun c9 => absurd (by decide) c9) (fun _ => ?_)
              refine lv_aload_n hx hb dL_links_689 rfl (lv_at hl9 6 rfl) ?_
              refine lv_iload hx hb dL_links_690 (lv_at hl9 1 rfl) ?_
              refine hp_SH (As := [.ref xo, .int (nI (1 + j57))]) (rest := []) B0 hw hS (c_V_pass_ok hl G f78 xo ez eo bu nw0 na0 nq0 nr0 nw1 na1 nq1 nr1 bs bp bh bf bl bg S0 S1 gw0 ga0 gw1 ga1 n a cg x sa pk fl gv gh gl hC79 (Nat.lt_of_le_of_lt hl0 (by decide)) (Nat.lt_of_le_of_lt hl1 (by decide)) (1 + j57) (by omega) (by omega)) mH_L_pass qM_L_115 rfl rfl hl9.1 (Nat.le_of_ble_eq_true rfl) ⟨⟨Nat.le_of_ble_eq_true rfl, Nat.le_of_ble_eq_true rfl⟩, Nat.le_of_ble_eq_true rfl, Nat.le_of_ble_eq_true rfl⟩ dL_links_692 (fun E ce q9 f81 H locs hPX hw hS hce hcv hcl => ?_) (fun v f81 H locs hP hw hS => ?_)
              · exact hPX.elim
              · obtain ⟨ev9, hC82, k83⟩ := hP
                subst ev9
                have hC82 : CXW G f81 xo ez eo bu nw0 na0 nq0 nr0 nw1 na1 nq1 nr1 bs bp bh bf bl bg ((passF (1 + j57) (S0, S1, 0)).1) ((passF (1 + j57) (S0, S1, 0)).2.1) gw0 ga0 gw1 ga1 n a cg x sa pk fl gv gh gl := hC82
                refine W.eq (g2 := F0 m 695 ls [.int ((passF (1 + j57) (S0, S1, 0)).2.2)]) rfl ?_
                refine lv_iload hx hb dL_links_695 (lv_at hl9 0 rfl) ?_
                refine lv_icmp_ne (tgt := 704) hx hb dL_links_697 (by decide) (fun c9 => absurd rfl c9) (fun _ => ?_)
                refine lv_iconst (v := 1) hx hb dL_links_700 (by decide) ?_
                refine lv_goto (tgt := 705) hx hb dL_links_701 (by decide) ?_
                have h84 : f72 lx = some (.inl (cJ G, 64, .inr (.inl xs60))) := k74 _ _ h61 (Nat.ne_of_beq_eq_false rfl) (hdos _ List.mem_cons_self)
                have h85 : f75 lx = some (.inl (cJ G, 64, .inr (.inl xs60))) := k77 _ _ h84 (Nat.ne_of_beq_eq_false rfl) (hdos _ List.mem_cons_self)
                have h86 : f78 lx = some (.inl (cJ G, 64, .inr (.inl xs60))) := k80 _ _ h85 (Nat.ne_of_beq_eq_false rfl) (hdos _ List.mem_cons_self)
                have h87 : f81 lx = some (.inl (cJ G, 64, .inr (.inl xs60))) := k83 _ _ h86 (Nat.ne_of_beq_eq_false rfl) (hdos _ List.mem_cons_self)
                have h88 : f72 ly = some (.inl (cJ G, 64, .inr (.inl ys63))) := k74 _ _ h64 (Nat.ne_of_beq_eq_false rfl) (hdos _ (List.mem_cons_of_mem _ List.mem_cons_self))
                have h89 : f75 ly = some (.inl (cJ G, 64, .inr (.inl ys63))) := k77 _ _ h88 (Nat.ne_of_beq_eq_false rfl) (hdos _ (List.mem_cons_of_mem _ List.mem_cons_self))
                have h90 : f78 ly = some (.inl (cJ G, 64, .inr (.inl ys63))) := k80 _ _ h89 (Nat.ne_of_beq_eq_false rfl) (hdos _ (List.mem_cons_of_mem _ List.mem_cons_self))
                have h91 : f81 ly = some (.inl (cJ G, 64, .inr (.inl ys63))) := k83 _ _ h90 (Nat.ne_of_beq_eq_false rfl) (hdos _ (List.mem_cons_of_mem _ List.mem_cons_self))
                have h92 : f72 lw = some (.inl (cI G, 12, .inl (j6r gw0 gw1))) := k74 _ _ h69 (Nat.ne_of_beq_eq_false rfl) (hdos _ (List.mem_cons_of_mem _ (List.mem_cons_of_mem _ List.mem_cons_self)))
                have h93 : f75 lw = some (.inl (cI G, 12, .inl (j6r gw0 gw1))) := k77 _ _ h92 (Nat.ne_of_beq_eq_false rfl) (hdos _ (List.mem_cons_of_mem _ (List.mem_cons_of_mem _ List.mem_cons_self)))
                have h94 : f78 lw = some (.inl (cI G, 12, .inl (j6r gw0 gw1))) := k80 _ _ h93 (Nat.ne_of_beq_eq_false rfl) (hdos _ (List.mem_cons_of_mem _ (List.mem_cons_of_mem _ List.mem_cons_self)))
                have h95 : f81 lw = some (.inl (cI G, 12, .inl (j6r gw0 gw1))) := k83 _ _ h94 (Nat.ne_of_beq_eq_false rfl) (hdos _ (List.mem_cons_of_mem _ (List.mem_cons_of_mem _ List.mem_cons_self)))
                have h96 : f72 la = some (.inl (cI G, 12, .inl (j6r ga0 ga1))) := k74 _ _ h70 (Nat.ne_of_beq_eq_false rfl) (hdos _ (List.mem_cons_of_mem _ (List.mem_cons_of_mem _ (List.mem_cons_of_mem _ List.mem_cons_self))))
                have h97 : f75 la = some (.inl (cI G, 12, .inl (j6r ga0 ga1))) := k77 _ _ h96 (Nat.ne_of_beq_eq_false rfl) (hdos _ (List.mem_cons_of_mem _ (List.mem_cons_of_mem _ (List.mem_cons_of_mem _ List.mem_cons_self))))
                have h98 : f78 la = some (.inl (cI G, 12, .inl (j6r ga0 ga1))) := k80 _ _ h97 (Nat.ne_of_beq_eq_false rfl) (hdos _ (List.mem_cons_of_mem _ (List.mem_cons_of_mem _ (List.mem_cons_of_mem _ List.mem_cons_self))))
                have h99 : f81 la = some (.inl (cI G, 12, .inl (j6r ga0 ga1))) := k83 _ _ h98 (Nat.ne_of_beq_eq_false rfl) (hdos _ (List.mem_cons_of_mem _ (List.mem_cons_of_mem _ (List.mem_cons_of_mem _ List.mem_cons_self))))
                have h100 : f72 lq = some (.inl (cI G, 12, .inl (j6r (passF (1 + j57) (S0, S1, 0)).1.2.2.2.2.2.2.2.1 (passF (1 + j57) (S0, S1, 0)).2.1.2.2.2.2.2.2.2.1))) := k74 _ _ h66 (Nat.ne_of_beq_eq_false rfl) (hdos _ (List.mem_cons_of_mem _ (List.mem_cons_of_mem _ (List.mem_cons_of_mem _ (List.mem_cons_of_mem _ List.mem_cons_self)))))
                have h101 : f75 lq = some (.inl (cI G, 12, .inl (j6r (passF (1 + j57) (S0, S1, 0)).1.2.2.2.2.2.2.2.1 (passF (1 + j57) (S0, S1, 0)).2.1.2.2.2.2.2.2.2.1))) := k77 _ _ h100 (Nat.ne_of_beq_eq_false rfl) (hdos _ (List.mem_cons_of_mem _ (List.mem_cons_of_mem _ (List.mem_cons_of_mem _ (List.mem_cons_of_mem _ List.mem_cons_self)))))
                have h102 : f78 lq = some (.inl (cI G, 12, .inl (j6r (passF (1 + j57) (S0, S1, 0)).1.2.2.2.2.2.2.2.1 (passF (1 + j57) (S0, S1, 0)).2.1.2.2.2.2.2.2.2.1))) := k80 _ _ h101 (Nat.ne_of_beq_eq_false rfl) (hdos _ (List.mem_cons_of_mem _ (List.mem_cons_of_mem _ (List.mem_cons_of_mem _ (List.mem_cons_of_mem _ List.mem_cons_self)))))
                have h103 : f81 lq = some (.inl (cI G, 12, .inl (j6r (passF (1 + j57) (S0, S1, 0)).1.2.2.2.2.2.2.2.1 (passF (1 + j57) (S0, S1, 0)).2.1.2.2.2.2.2.2.2.1))) := k83 _ _ h102 (Nat.ne_of_beq_eq_false rfl) (hdos _ (List.mem_cons_of_mem _ (List.mem_cons_of_mem _ (List.mem_cons_of_mem _ (List.mem_cons_of_mem _ List.mem_cons_self)))))
                have h104 : f72 le = some (.inl (cI G, 16, .inl (jE (eSt (passF (1 + j57) (S0, S1, 0)).1) (eSt (passF (1 + j57) (S0, S1, 0)).2.1)))) := k74 _ _ h67 (Nat.ne_of_beq_eq_false rfl) (hdos _ (List.mem_cons_of_mem _ (List.mem_cons_of_mem _ (List.mem_cons_of_mem _ (List.mem_cons_of_mem _ (List.mem_cons_of_mem _ List.mem_cons_self))))))
                have h105 : f75 le = some (.inl (cI G, 16, .inl (jE (eSt (passF (1 + j57) (S0, S1, 0)).1) (eSt (passF (1 + j57) (S0, S1, 0)).2.1)))) := k77 _ _ h104 (Nat.ne_of_beq_eq_false rfl) (hdos _ (List.mem_cons_of_mem _ (List.mem_cons_of_mem _ (List.mem_cons_of_mem _ (List.mem_cons_of_mem _ (List.mem_cons_of_mem _ List.mem_cons_self))))))
                have h106 : f78 le = some (.inl (cI G, 16, .inl (jE (eSt (passF (1 + j57) (S0, S1, 0)).1) (eSt (passF (1 + j57) (S0, S1, 0)).2.1)))) := k80 _ _ h105 (Nat.ne_of_beq_eq_false rfl) (hdos _ (List.mem_cons_of_mem _ (List.mem_cons_of_mem _ (List.mem_cons_of_mem _ (List.mem_cons_of_mem _ (List.mem_cons_of_mem _ List.mem_cons_self))))))
                have h107 : f81 le = some (.inl (cI G, 16, .inl (jE (eSt (passF (1 + j57) (S0, S1, 0)).1) (eSt (passF (1 + j57) (S0, S1, 0)).2.1)))) := k83 _ _ h106 (Nat.ne_of_beq_eq_false rfl) (hdos _ (List.mem_cons_of_mem _ (List.mem_cons_of_mem _ (List.mem_cons_of_mem _ (List.mem_cons_of_mem _ (List.mem_cons_of_mem _ List.mem_cons_self))))))
                exact hp_zret (v := 1) B0 hw hS hr ⟨Nat.le_of_ble_eq_true rfl, Nat.le_of_ble_eq_true rfl⟩ (rfl) dL_links_705 (⟨rfl, (passF (1 + j57) (S0, S1, 0)).1, (passF (1 + j57) (S0, S1, 0)).2.1, gw0, ga0, gw1, ga1, hC82, ⟨⟨_, h87, hX62⟩, ⟨_, h91, hY65⟩, h95, h99, h103, h107⟩, ⟨SOK.mono (passF_ok (1 + j57) b (S0, S1, 0) hSo0 hSo1 (by omega)).1 (by omega), SOK.mono (passF_ok (1 + j57) b (S0, S1, 0) hSo0 hSo1 (by omega)).2 (by omega), hgw0, hga0, hgw1, hga1⟩, (Nat.le_trans (pot_len _) (Nat.le_trans (passF_pot (1 + j57) b (S0, S1, 0) hSo0 hSo1 (by omega)).1 (by have h9 := hpo0; show pot S0 ≤ 52; omega))), (Nat.le_trans (pot_len _) (Nat.le_trans (passF_pot (1 + j57) b (S0, S1, 0) hSo0 hSo1 (by omega)).2 (by have h9 := hpo1; show pot S1 ≤ 52; omega))), ((show hKn [lx, ly, lw, la, lq, le, xo, ez, eo, bu, nw0, na0, nq0, nr0, nw1, na1, nq1, nr1, bs, bp, bh, bf, bl, bg] f f59 from (hKn.mono (hKn.eq k68) (sub_cons List.mem_cons_self (sub_cons (List.mem_cons_of_mem _ List.mem_cons_self) (sub_cons (List.mem_cons_of_mem _ (List.mem_cons_of_mem _ (List.mem_cons_of_mem _ (List.mem_cons_of_mem _ (List.mem_cons_of_mem _ List.mem_cons_self))))) sub_nil))))).tr ((show hKn [lx, ly, lw, la, lq, le, xo, ez, eo, bu, nw0, na0, nq0, nr0, nw1, na1, nq1, nr1, bs, bp, bh, bf, bl, bg] f59 f72 from (hKn.mono k74 sbA)).tr ((show hKn [lx, ly, lw, la, lq, le, xo, ez, eo, bu, nw0, na0, nq0, nr0, nw1, na1, nq1, nr1, bs, bp, bh, bf, bl, bg] f72 f75 from (hKn.mono k77 sbA)).tr ((show hKn [lx, ly, lw, la, lq, le, xo, ez, eo, bu, nw0, na0, nq0, nr0, nw1, na1, nq1, nr1, bs, bp, bh, bf, bl, bg] f75 f78 from (hKn.mono k80 sbA)).tr (show hKn [lx, ly, lw, la, lq, le, xo, ez, eo, bu, nw0, na0, nq0, nr0, nw1, na1, nq1, nr1, bs, bp, bh, bf, bl, bg] f78 f81 from (hKn.mono k83 sbA))))))⟩)

set_option maxHeartbeats 4000000 in
set_option maxRecDepth 100000 in
theorem lk_p_1 {l : Launch} (hl : l.stackTraces = false) (G : hG) (f : hM) (xo ez eo bu nw0 na0 nq0 nr0 nw1 na1 nq1 nr1 bs bp bh bf bl bg : Nat) (S0 : ES) (S1 : ES) (gw0 : Nat → Int32) (ga0 : Nat → Int32) (gw1 : Nat → Int32) (ga1 : Nat → Int32) (n : Nat) (a : Nat) (cg : Nat) (x : Nat) (sa : Nat → Nat) (pk : Nat → Nat) (fl : Nat → Nat) (gv : Nat → Nat) (gh : Nat → Int32) (gl : Nat → Int32) (hC : CXW G f xo ez eo bu nw0 na0 nq0 nr0 nw1 na1 nq1 nr1 bs bp bh bf bl bg S0 S1 gw0 ga0 gw1 ga1 n a cg x sa pk fl gv gh gl) (lx ly lw la lq le : Nat) (hdis : ∀ p, p ∈ [xo, ez, eo, bu, nw0, na0, nq0, nr0, nw1, na1, nq1, nr1, bs, bp, bh, bf, bl, bg] → p ∉ [lx, ly, lw, la, lq, le]) (hdos : ∀ p, p ∈ [lx, ly, lw, la, lq, le] → p ∉ [xo, ez, eo, bu, nw0, na0, nq0, nr0, nw1, na1, nq1, nr1, bs, bp, bh, bf, bl, bg]) (n_lx_ly : lx ≠ ly) (n_lw_la : lw ≠ la) (n_lw_lq : lw ≠ lq) (n_la_lq : la ≠ lq) (hLX : LX G f lx ly lw la lq le S0 S1 gw0 ga0 gw1 ga1) (b : Nat) (hInv : INV b S0 S1 gw0 ga0 gw1 ga1) (hbb : b + 200 ≤ 1000000) (hl0 : S0.2.2.2.2.2.2.2.2.length ≤ 52) (hl1 : S1.2.2.2.2.2.2.2.2.length ≤ 52) (ac : Nat) (hac : ac < 24) (hact : ac ≠ 22 → S0.2.2.2.2.2.2.2.2.length ≤ 40 ∧ S1.2.2.2.2.2.2.2.2.length ≤ 40) (u z : Int32) {p : Program} {e : Env} {s : State} {m : MethodId} {args : Array Value} {below : List Frame} {meth : Method} {c : Code} (B0 : hB p l s m args meth c cL_links 17 RL G) (hr : meth.sig.returnType = some .boolean) {H : Heap} {locs : List Loc} {ls : Array Slot} (hw : hW G f H) (hS : va_S (hFr G) s.heap H locs) (j13 : Nat) (hj13 : j13 < 6) (hc : ¬ 14 ≤ nI ac) (hl9 : lv_has ls 17 [(13, .int (nI j13)), (12, .ref ly), (11, .int 8), (10, .int 1), (0, .ref xo), (1, .int (nI ac)), (2, .int u), (3, .int z), (4, .ref lx), (5, .ref ly), (6, .ref lw), (7, .ref la), (8, .ref lq), (9, .ref le)]) : W p l e { frames := 9, cells := 203, slots := 1118, locals := 178 } s m args below meth c H locs 0 0 (vx_MQ below (hQ G (fun v f1 => v = some (.int 1) ∧ ∃ (S2 S3 : ES) (w0 a0 w1 a1 : Nat → Int32), CXW G f1 xo ez eo bu nw0 na0 nq0 nr0 nw1 na1 nq1 nr1 bs bp bh bf bl bg S2 S3 w0 a0 w1 a1 n a cg x sa pk fl gv gh gl ∧ LX G f1 lx ly lw la lq le S2 S3 w0 a0 w1 a1 ∧ INV (b + 100) S2 S3 w0 a0 w1 a1 ∧ S2.2.2.2.2.2.2.2.2.length ≤ 52 ∧ S3.2.2.2.2.2.2.2.2.length ≤ 52 ∧ hKn [lx, ly, lw, la, lq, le, xo, ez, eo, bu, nw0, na0, nq0, nr0, nw1, na1, nq1, nr1, bs, bp, bh, bf, bl, bg] f f1)) (hX G (fun E f1 => False)) args s 203 1118 (hFr G)) (F0 m 621 ls []) := by
  have hx := B0.1
  have hb := B0.2.1
  obtain ⟨⟨xs0, k_lx, hX0⟩, ⟨xs1, k_ly, hX1⟩, k_lw, k_la, k_lq, k_le⟩ := hLX
  obtain ⟨hSo0, hSo1, hgw0, hga0, hgw1, hga1⟩ := id hInv
  have n_lx_lw : lx ≠ lw := hneL k_lx k_lw (Nat.ne_of_beq_eq_false rfl)
  have n_lx_la : lx ≠ la := hneL k_lx k_la (Nat.ne_of_beq_eq_false rfl)
  have n_lx_lq : lx ≠ lq := hneL k_lx k_lq (Nat.ne_of_beq_eq_false rfl)
  have n_lx_le : lx ≠ le := hneL k_lx k_le (Nat.ne_of_beq_eq_false rfl)
  have n_ly_lw : ly ≠ lw := hneL k_ly k_lw (Nat.ne_of_beq_eq_false rfl)
  have n_ly_la : ly ≠ la := hneL k_ly k_la (Nat.ne_of_beq_eq_false rfl)
  have n_ly_lq : ly ≠ lq := hneL k_ly k_lq (Nat.ne_of_beq_eq_false rfl)
  have n_ly_le : ly ≠ le := hneL k_ly k_le (Nat.ne_of_beq_eq_false rfl)
  have n_lw_le : lw ≠ le := hneL k_lw k_le (Nat.ne_of_beq_eq_false rfl)
  have n_la_le : la ≠ le := hneL k_la k_le (Nat.ne_of_beq_eq_false rfl)
  have n_lq_le : lq ≠ le := hneL k_lq k_le (Nat.ne_of_beq_eq_false rfl)
  have sbA : ∀ x9, x9 ∈ [xo, ez, eo, bu, nw0, na0, nq0, nr0, nw1, na1, nq1, nr1, bs, bp, bh, bf, bl, bg] → x9 ∈ [lx, ly, lw, la, lq, le, xo, ez, eo, bu, nw0, na0, nq0, nr0, nw1, na1, nq1, nr1, bs, bp, bh, bf, bl, bg] := (sub_cons (List.mem_cons_of_mem _ (List.mem_cons_of_mem _ (List.mem_cons_of_mem _ (List.mem_cons_of_mem _ (List.mem_cons_of_mem _ (List.mem_cons_of_mem _ List.mem_cons_self)))))) (sub_cons (List.mem_cons_of_mem _ (List.mem_cons_of_mem _ (List.mem_cons_of_mem _ (List.mem_cons_of_mem _ (List.mem_cons_of_mem _ (List.mem_cons_of_mem _ (List.mem_cons_of_mem _ List.mem_cons_self))))))) (sub_cons (List.mem_cons_of_mem _ (List.mem_cons_of_mem _ (List.mem_cons_of_mem _ (List.mem_cons_of_mem _ (List.mem_cons_of_mem _ (List.mem_cons_of_mem _ (List.mem_cons_of_mem _ (List.mem_cons_of_mem _ List.mem_cons_self)))))))) (sub_cons (List.mem_cons_of_mem _ (List.mem_cons_of_mem _ (List.mem_cons_of_mem _ (List.mem_cons_of_mem _ (List.mem_cons_of_mem _ (List.mem_cons_of_mem _ (List.mem_cons_of_mem _ (List.mem_cons_of_mem _ (List.mem_cons_of_mem _ List.mem_cons_self))))))))) (sub_cons (List.mem_cons_of_mem _ (List.mem_cons_of_mem _ (List.mem_cons_of_mem _ (List.mem_cons_of_mem _ (List.mem_cons_of_mem _ (List.mem_cons_of_mem _ (List.mem_cons_of_mem _ (List.mem_cons_of_mem _ (List.mem_cons_of_mem _ (List.mem_cons_of_mem _ List.mem_cons_self)))))))))) (sub_cons (List.mem_cons_of_mem _ (List.mem_cons_of_mem _ (List.mem_cons_of_mem _ (List.mem_cons_of_mem _ (List.mem_cons_of_mem _ (List.mem_cons_of_mem _ (List.mem_cons_of_mem _ (List.mem_cons_of_mem _ (List.mem_cons_of_mem _ (List.mem_cons_of_mem _ (List.mem_cons_of_mem _ List.mem_cons_self))))))))))) (sub_cons (List.mem_cons_of_mem _ (List.mem_cons_of_mem _ (List.mem_cons_of_mem _ (List.mem_cons_of_mem _ (List.mem_cons_of_mem _ (List.mem_cons_of_mem _ (List.mem_cons_of_mem _ (List.mem_cons_of_mem _ (List.mem_cons_of_mem _ (List.mem_cons_of_mem _ (List.mem_cons_of_mem _ (List.mem_cons_of_mem _ List.mem_cons_self)))))))))))) (sub_cons (List.mem_cons_of_mem _ (List.mem_cons_of_mem _ (List.mem_cons_of_mem _ (List.mem_cons_of_mem _ (List.mem_cons_of_mem _ (List.mem_cons_of_mem _ (List.mem_cons_of_mem _ (List.mem_cons_of_mem _ (List.mem_cons_of_mem _ (List.mem_cons_of_mem _ (List.mem_cons_of_mem _ (List.mem_cons_of_mem _ (List.mem_cons_of_mem _ List.mem_cons_self))))))))))))) (sub_cons (List.mem_cons_of_mem _ (List.mem_cons_of_mem _ (List.mem_cons_of_mem _ (List.mem_cons_of_mem _ (List.mem_cons_of_mem _ (List.mem_cons_of_mem _ (List.mem_cons_of_mem _ (List.mem_cons_of_mem _ (List.mem_cons_of_mem _ (List.mem_cons_of_mem _ (List.mem_cons_of_mem _ (List.mem_cons_of_mem _ (List.mem_cons_of_mem _ (List.mem_cons_of_mem _ List.mem_cons_self)))))))))))))) (sub_cons (List.mem_cons_of_mem _ (List.mem_cons_of_mem _ (List.mem_cons_of_mem _ (List.mem_cons_of_mem _ (List.mem_cons_of_mem _ (List.mem_cons_of_mem _ (List.mem_cons_of_mem _ (List.mem_cons_of_mem _ (List.mem_cons_of_mem _ (List.mem_cons_of_mem _ (List.mem_cons_of_mem _ (List.mem_cons_of_mem _ (List.mem_cons_of_mem _ (List.mem_cons_of_mem _ (List.mem_cons_of_mem _ List.mem_cons_self))))))))))))))) (sub_cons (List.mem_cons_of_mem _ (List.mem_cons_of_mem _ (List.mem_cons_of_mem _ (List.mem_cons_of_mem _ (List.mem_cons_of_mem _ (List.mem_cons_of_mem _ (List.mem_cons_of_mem _ (List.mem_cons_of_mem _ (List.mem_cons_of_mem _ (List.mem_cons_of_mem _ (List.mem_cons_of_mem _ (List.mem_cons_of_mem _ (List.mem_cons_of_mem _ (List.mem_cons_of_mem _ (List.mem_cons_of_mem _ (List.mem_cons_of_mem _ List.mem_cons_self)))))))))))))))) (sub_cons (List.mem_cons_of_mem _ (List.mem_cons_of_mem _ (List.mem_cons_of_mem _ (List.mem_cons_of_mem _ (List.mem_cons_of_mem _ (List.mem_cons_of_mem _ (List.mem_cons_of_mem _ (List.mem_cons_of_mem _ (List.mem_cons_of_mem _ (List.mem_cons_of_mem _ (List.mem_cons_of_mem _ (List.mem_cons_of_mem _ (List.mem_cons_of_mem _ (List.mem_cons_of_mem _ (List.mem_cons_of_mem _ (List.mem_cons_of_mem _ (List.mem_cons_of_mem _ List.mem_cons_self))))))))))))))))) (sub_cons (List.mem_cons_of_mem _ (List.mem_cons_of_mem _ (List.mem_cons_of_mem _ (List.mem_cons_of_mem _ (List.mem_cons_of_mem _ (List.mem_cons_of_mem _ (List.mem_cons_of_mem _ (List.mem_cons_of_mem _ (List.mem_cons_of_mem _ (List.mem_cons_of_mem _ (List.mem_cons_of_mem _ (List.mem_cons_of_mem _ (List.mem_cons_of_mem _ (List.mem_cons_of_mem _ (List.mem_cons_of_mem _ (List.mem_cons_of_mem _ (List.mem_cons_of_mem _ (List.mem_cons_of_mem _ List.mem_cons_self)))))))))))))))))) (sub_cons (List.mem_cons_of_mem _ (List.mem_cons_of_mem _ (List.mem_cons_of_mem _ (List.mem_cons_of_mem _ (List.mem_cons_of_mem _ (List.mem_cons_of_mem _ (List.mem_cons_of_mem _ (List.mem_cons_of_mem _ (List.mem_cons_of_mem _ (List.mem_cons_of_mem _ (List.mem_cons_of_mem _ (List.mem_cons_of_mem _ (List.mem_cons_of_mem _ (List.mem_cons_of_mem _ (List.mem_cons_of_mem _ (List.mem_cons_of_mem _ (List.mem_cons_of_mem _ (List.mem_cons_of_mem _ (List.mem_cons_of_mem _ List.mem_cons_self))))))))))))))))))) (sub_cons (List.mem_cons_of_mem _ (List.mem_cons_of_mem _ (List.mem_cons_of_mem _ (List.mem_cons_of_mem _ (List.mem_cons_of_mem _ (List.mem_cons_of_mem _ (List.mem_cons_of_mem _ (List.mem_cons_of_mem _ (List.mem_cons_of_mem _ (List.mem_cons_of_mem _ (List.mem_cons_of_mem _ (List.mem_cons_of_mem _ (List.mem_cons_of_mem _ (List.mem_cons_of_mem _ (List.mem_cons_of_mem _ (List.mem_cons_of_mem _ (List.mem_cons_of_mem _ (List.mem_cons_of_mem _ (List.mem_cons_of_mem _ (List.mem_cons_of_mem _ List.mem_cons_self)))))))))))))))))))) (sub_cons (List.mem_cons_of_mem _ (List.mem_cons_of_mem _ (List.mem_cons_of_mem _ (List.mem_cons_of_mem _ (List.mem_cons_of_mem _ (List.mem_cons_of_mem _ (List.mem_cons_of_mem _ (List.mem_cons_of_mem _ (List.mem_cons_of_mem _ (List.mem_cons_of_mem _ (List.mem_cons_of_mem _ (List.mem_cons_of_mem _ (List.mem_cons_of_mem _ (List.mem_cons_of_mem _ (List.mem_cons_of_mem _ (List.mem_cons_of_mem _ (List.mem_cons_of_mem _ (List.mem_cons_of_mem _ (List.mem_cons_of_mem _ (List.mem_cons_of_mem _ (List.mem_cons_of_mem _ List.mem_cons_self))))))))))))))))))))) (sub_cons (List.mem_cons_of_mem _ (List.mem_cons_of_mem _ (List.mem_cons_of_mem _ (List.mem_cons_of_mem _ (List.mem_cons_of_mem _ (List.mem_cons_of_mem _ (List.mem_cons_of_mem _ (List.mem_cons_of_mem _ (List.mem_cons_of_mem _ (List.mem_cons_of_mem _ (List.mem_cons_of_mem _ (List.mem_cons_of_mem _ (List.mem_cons_of_mem _ (List.mem_cons_of_mem _ (List.mem_cons_of_mem _ (List.mem_cons_of_mem _ (List.mem_cons_of_mem _ (List.mem_cons_of_mem _ (List.mem_cons_of_mem _ (List.mem_cons_of_mem _ (List.mem_cons_of_mem _ (List.mem_cons_of_mem _ List.mem_cons_self)))))))))))))))))))))) (sub_cons (List.mem_cons_of_mem _ (List.mem_cons_of_mem _ (List.mem_cons_of_mem _ (List.mem_cons_of_mem _ (List.mem_cons_of_mem _ (List.mem_cons_of_mem _ (List.mem_cons_of_mem _ (List.mem_cons_of_mem _ (List.mem_cons_of_mem _ (List.mem_cons_of_mem _ (List.mem_cons_of_mem _ (List.mem_cons_of_mem _ (List.mem_cons_of_mem _ (List.mem_cons_of_mem _ (List.mem_cons_of_mem _ (List.mem_cons_of_mem _ (List.mem_cons_of_mem _ (List.mem_cons_of_mem _ (List.mem_cons_of_mem _ (List.mem_cons_of_mem _ (List.mem_cons_of_mem _ (List.mem_cons_of_mem _ (List.mem_cons_of_mem _ List.mem_cons_self))))))))))))))))))))))) sub_nil))))))))))))))))))
  obtain ⟨xx, hxx, hx4⟩ := hSo1.2.2.2.2.1
  have h1 : f le = some (.inl (cI G, 16, .inl (jE (eSt S0) (e8r S1.1 S1.2.1 S1.2.2.1 S1.2.2.2.1 S1.2.2.2.2.1 S1.2.2.2.2.2.1 S1.2.2.2.2.2.2.1 (nI S1.2.2.2.2.2.2.2.2.length))))) := k_le
  obtain ⟨h40a, h40b⟩ := hact (fun e9 => by subst e9; exact absurd (by decide) hc)
  refine lv_iconst (v := 1) hx hb dL_links_621 (by decide) ?_
  refine lv_iload_n hx hb dL_links_622 rfl (lv_at hl9 7 rfl) ?_
  refine lv_iload_n hx hb dL_links_623 rfl (lv_at hl9 6 rfl) ?_
  refine lv_bipush (v := 48) hx hb dL_links_624 (by decide) ?_
  refine lv_iand hx hb dL_links_626 ?_
  refine lv_if_ne (tgt := 635) hx hb dL_links_627 (by decide) (fun c2 => ?_) (fun c2 => ?_)
  · refine lv_iconst (v := 5) hx hb dL_links_635 (by decide) ?_
    refine hp_S (As := [.int z, .int 5]) (rest := [.int 1]) B0 hw hS (c_L_low hl G f z 5 (by omega) (by omega)) mS_L_low qM_L_94 rfl rfl hl9.1 (Nat.le_of_ble_eq_true rfl) ⟨⟨Nat.le_of_ble_eq_true rfl, Nat.le_of_ble_eq_true rfl⟩, Nat.le_of_ble_eq_true rfl, Nat.le_of_ble_eq_true rfl⟩ dL_links_636 (fun E ce q9 f3 H locs hPX hw hS hce hcv hcl => ?_) (fun v f3 H locs hP hw hS => ?_)
    · exact hPX.elim
    · obtain ⟨ef9, j4, hj5, ev9⟩ := hP
      rw [ef9] at hw
      subst ev9
      refine W.eq (g2 := F0 m 639 ls [.int (nI j4), .int 1]) rfl ?_
      refine lv_iadd hx hb dL_links_639 ?_
      refine hp_c (v := (nI (1 + j4))) (nI_add 1 j4) ?_
      refine lv_istore (lv' := [(14, .int (nI (1 + j4))), (13, .int (nI j13)), (12, .ref ly), (11, .int 8), (10, .int 1), (0, .ref xo), (1, .int (nI ac)), (2, .int u), (3, .int z), (4, .ref lx), (5, .ref ly), (6, .ref lw), (7, .ref la), (8, .ref lq), (9, .ref le)]) hx hb dL_links_640 hl9 (by decide) rfl (fun ls hl9 => ?_)
      refine lv_iload hx hb dL_links_642 (lv_at hl9 0 rfl) ?_
      refine lv_aload hx hb dL_links_644 (lv_at hl9 9 rfl) ?_
      refine lv_aload hx hb dL_links_646 (lv_at hl9 10 rfl) ?_
      refine lv_aload hx hb dL_links_648 (lv_at hl9 13 rfl) ?_
      refine lv_aload hx hb dL_links_650 (lv_at hl9 14 rfl) ?_
      have hpo0 : pot S0 ≤ S0.2.2.2.2.2.2.2.2.length + 10 := Nat.add_le_add_left (Nat.sub_le _ _) _
      have hpo1 : pot S1 ≤ S1.2.2.2.2.2.2.2.2.length + 10 := Nat.add_le_add_left (Nat.sub_le _ _) _
      refine hp_S (As := [.int (nI (1 + j4)), .ref lx, .ref ly, .ref lq, .ref le]) (rest := []) B0 hw hS (c_L_goBy hl G f lx ly lq le S0 S1 b hSo0 hSo1 (by omega) (by have := hpo0; omega) (by have := hpo1; omega) (1 + j4) (by omega) (by omega) n_lx_ly xs0 xs1 hX0 hX1 k_lx k_ly k_lq h1) mS_L_goBy qM_L_111 rfl rfl hl9.1 (Nat.le_of_ble_eq_true rfl) ⟨⟨Nat.le_of_ble_eq_true rfl, Nat.le_of_ble_eq_true rfl⟩, Nat.le_of_ble_eq_true rfl, Nat.le_of_ble_eq_true rfl⟩ dL_links_652 (fun E ce q9 f6 H locs hPX hw hS hce hcv hcl => ?_) (fun v f6 H locs hP hw hS => ?_)
      · exact hPX.elim
      · obtain ⟨ev9, ⟨xs7, h8, hX10⟩, ⟨ys11, h12, hY13⟩, h14, h15, k16⟩ := hP
        subst ev9
        refine W.eq (g2 := F0 m 655 ls [.int ((passF (1 + j4) (S0, S1, 0)).2.2)]) rfl ?_
        refine lv_istore (lv' := [(15, .int ((passF (1 + j4) (S0, S1, 0)).2.2)), (14, .int (nI (1 + j4))), (13, .int (nI j13)), (12, .ref ly), (11, .int 8), (10, .int 1), (0, .ref xo), (1, .int (nI ac)), (2, .int u), (3, .int z), (4, .ref lx), (5, .ref ly), (6, .ref lw), (7, .ref la), (8, .ref lq), (9, .ref le)]) hx hb dL_links_655 hl9 (by decide) rfl (fun ls hl9 => ?_)
        refine lv_aload_n hx hb dL_links_657 rfl (lv_at hl9 6 rfl) ?_
        refine lv_iconst (v := 0) hx hb dL_links_658 (by decide) ?_
        have h17 : f6 lw = some (.inl (cI G, 12, .inl (j6r gw0 gw1))) := (hEq.k k16) _ _ k_lw (ninc (Ne.symm n_lx_lw) (ninc (Ne.symm n_ly_lw) (ninc n_lw_le nin0)))
        have h18 : f6 la = some (.inl (cI G, 12, .inl (j6r ga0 ga1))) := (hEq.k k16) _ _ k_la (ninc (Ne.symm n_lx_la) (ninc (Ne.symm n_ly_la) (ninc n_la_le nin0)))
        have hC19 : CXW G f6 xo ez eo bu nw0 na0 nq0 nr0 nw1 na1 nq1 nr1 bs bp bh bf bl bg S0 S1 gw0 ga0 gw1 ga1 n a cg x sa pk fl gv gh gl := CXW.eq hC (show hEq [lx, ly, lw, la, lq, le] f f6 from (hEq.mono k16 (sub_cons List.mem_cons_self (sub_cons (List.mem_cons_of_mem _ List.mem_cons_self) (sub_cons (List.mem_cons_of_mem _ (List.mem_cons_of_mem _ (List.mem_cons_of_mem _ (List.mem_cons_of_mem _ (List.mem_cons_of_mem _ List.mem_cons_self))))) sub_nil))))) hdis (fun b9 hb9 => by
            simp only [List.mem_cons, List.not_mem_nil, or_false] at hb9
            rcases hb9 with hb9 | hb9 | hb9 | hb9 | hb9 | hb9
            · rw [hb9]; exact ⟨_, _, k_lx, h8, (Nat.ne_of_beq_eq_false rfl), (Nat.ne_of_beq_eq_false rfl)⟩
            · rw [hb9]; exact ⟨_, _, k_ly, h12, (Nat.ne_of_beq_eq_false rfl), (Nat.ne_of_beq_eq_false rfl)⟩
            · rw [hb9]; exact ⟨_, _, k_lw, h17, (Nat.ne_of_beq_eq_false rfl), (Nat.ne_of_beq_eq_false rfl)⟩
            · rw [hb9]; exact ⟨_, _, k_la, h18, (Nat.ne_of_beq_eq_false rfl), (Nat.ne_of_beq_eq_false rfl)⟩
            · rw [hb9]; exact ⟨_, _, k_lq, h14, (Nat.ne_of_beq_eq_false rfl), (Nat.ne_of_beq_eq_false rfl)⟩
            · rw [hb9]; exact ⟨_, _, h1, h15, (Nat.ne_of_beq_eq_false rfl), (Nat.ne_of_beq_eq_false rfl)⟩)
        refine hp_SH (As := [.ref xo, .int 0]) (rest := []) B0 hw hS (c_V_pass_A hl G f6 xo ez eo bu nw0 na0 nq0 nr0 nw1 na1 nq1 nr1 bs bp bh bf bl bg S0 S1 gw0 ga0 gw1 ga1 n a cg x sa pk fl gv gh gl hC19 (Nat.lt_of_le_of_lt hl0 (by decide)) (Nat.lt_of_le_of_lt hl1 (by decide)) 0 (by decide)) mH_L_pass qM_L_115 rfl rfl hl9.1 (Nat.le_of_ble_eq_true rfl) ⟨⟨Nat.le_of_ble_eq_true rfl, Nat.le_of_ble_eq_true rfl⟩, Nat.le_of_ble_eq_true rfl, Nat.le_of_ble_eq_true rfl⟩ dL_links_659 (fun E ce q9 f20 H locs hPX hw hS hce hcv hcl => ?_) (fun v f20 H locs hP hw hS => ?_)
        · exact hPX.elim
        · obtain ⟨ev9, hC21, k22⟩ := hP
          subst ev9
          have hC21 : CXW G f20 xo ez eo bu nw0 na0 nq0 nr0 nw1 na1 nq1 nr1 bs bp bh bf bl bg S0 S1 gw0 ga0 gw1 ga1 n a cg x sa pk fl gv gh gl := hC21
          refine W.eq (g2 := F0 m 662 ls [.int (-72)]) rfl ?_
          refine lv_bipush (v := (-72)) hx hb dL_links_662 (by decide) ?_
          refine lv_icmp_ne (tgt := 704) hx hb dL_links_664 (by decide) (fun c9 => absurd (by decide) c9) (fun _ => ?_)
          refine lv_aload_n hx hb dL_links_667 rfl (lv_at hl9 6 rfl) ?_
          refine lv_bipush (v := 51) hx hb dL_links_668 (by decide) ?_
          refine hp_SH (As := [.ref xo, .int 51]) (rest := []) B0 hw hS (c_V_pass_A hl G f20 xo ez eo bu nw0 na0 nq0 nr0 nw1 na1 nq1 nr1 bs bp bh bf bl bg S0 S1 gw0 ga0 gw1 ga1 n a cg x sa pk fl gv gh gl hC21 (Nat.lt_of_le_of_lt hl0 (by decide)) (Nat.lt_of_le_of_lt hl1 (by decide)) 51 (by decide)) mH_L_pass qM_L_115 rfl rfl hl9.1 (Nat.le_of_ble_eq_true rfl) ⟨⟨Nat.le_of_ble_eq_true rfl, Nat.le_of_ble_eq_true rfl⟩, Nat.le_of_ble_eq_true rfl, Nat.le_of_ble_eq_true rfl⟩ dL_links_670 (fun E ce q9 f23 H locs hPX hw hS hce hcv hcl => ?_) (fun v f23 H locs hP hw hS => ?_)
          · exact hPX.elim
          · obtain ⟨ev9, hC24, k25⟩ := hP
            subst ev9
            have hC24 : CXW G f23 xo ez eo bu nw0 na0 nq0 nr0 nw1 na1 nq1 nr1 bs bp bh bf bl bg S0 S1 gw0 ga0 gw1 ga1 n a cg x sa pk fl gv gh gl := hC24
            refine W.eq (g2 := F0 m 673 ls [.int (-72)]) rfl ?_
            refine lv_bipush (v := (-72)) hx hb dL_links_673 (by decide) ?_
            refine lv_icmp_ne (tgt := 704) hx hb dL_links_675 (by decide) (fun c9 => absurd (by decide) c9) (fun _ => ?_)
            refine lv_aload_n hx hb dL_links_678 rfl (lv_at hl9 6 rfl) ?_
            refine lv_ldc (v := (-2147483648)) hx hb B0.2.2.2.1 (B0.2.2.2.2.1 _ qK_L_67) dL_links_679 ?_
            refine hp_SH (As := [.ref xo, .int (-2147483648)]) (rest := []) B0 hw hS (c_V_pass_A hl G f23 xo ez eo bu nw0 na0 nq0 nr0 nw1 na1 nq1 nr1 bs bp bh bf bl bg S0 S1 gw0 ga0 gw1 ga1 n a cg x sa pk fl gv gh gl hC24 (Nat.lt_of_le_of_lt hl0 (by decide)) (Nat.lt_of_le_of_lt hl1 (by decide)) (-2147483648) (by decide)) mH_L_pass qM_L_115 rfl rfl hl9.1 (Nat.le_of_ble_eq_true rfl) ⟨⟨Nat.le_of_ble_eq_true rfl, Nat.le_of_ble_eq_true rfl⟩, Nat.le_of_ble_eq_true rfl, Nat.le_of_ble_eq_true rfl⟩ dL_links_681 (fun E ce q9 f26 H locs hPX hw hS hce hcv hcl => ?_) (fun v f26 H locs hP hw hS => ?_)
            · exact hPX.elim
            · obtain ⟨ev9, hC27, k28⟩ := hP
              subst ev9
              have hC27 : CXW G f26 xo ez eo bu nw0 na0 nq0 nr0 nw1 na1 nq1 nr1 bs bp bh bf bl bg S0 S1 gw0 ga0 gw1 ga1 n a cg x sa pk fl gv gh gl := hC27
              refine W.eq (g2 := F0 m 684 ls [.int (-72)]) rfl ?_
              refine lv_bipush (v := (-72)) hx hb dL_links_684 (by decide) ?_
              refine lv_icmp_ne (tgt := 704) hx hb dL_links_686 (by decide) (fun c9 => absurd (by decide) c9) (fun _ => ?_)
              refine lv_aload_n hx hb dL_links_689 rfl (lv_at hl9 6 rfl) ?_
              refine lv_iload hx hb dL_links_690 (lv_at hl9 1 rfl) ?_
              refine hp_SH (As := [.ref xo, .int (nI (1 + j4))]) (rest := []) B0 hw hS (c_V_pass_ok hl G f26 xo ez eo bu nw0 na0 nq0 nr0 nw1 na1 nq1 nr1 bs bp bh bf bl bg S0 S1 gw0 ga0 gw1 ga1 n a cg x sa pk fl gv gh gl hC27 (Nat.lt_of_le_of_lt hl0 (by decide)) (Nat.lt_of_le_of_lt hl1 (by decide)) (1 + j4) (by omega) (by omega)) mH_L_pass qM_L_115 rfl rfl hl9.1 (Nat.le_of_ble_eq_true rfl) ⟨⟨Nat.le_of_ble_eq_true rfl, Nat.le_of_ble_eq_true rfl⟩, Nat.le_of_ble_eq_true rfl, Nat.le_of_ble_eq_true rfl⟩ dL_links_692 (fun E ce q9 f29 H locs hPX hw hS hce hcv hcl => ?_) (fun v f29 H locs hP hw hS => ?_)
              · exact hPX.elim
              · obtain ⟨ev9, hC30, k31⟩ := hP
                subst ev9
                have hC30 : CXW G f29 xo ez eo bu nw0 na0 nq0 nr0 nw1 na1 nq1 nr1 bs bp bh bf bl bg ((passF (1 + j4) (S0, S1, 0)).1) ((passF (1 + j4) (S0, S1, 0)).2.1) gw0 ga0 gw1 ga1 n a cg x sa pk fl gv gh gl := hC30
                refine W.eq (g2 := F0 m 695 ls [.int ((passF (1 + j4) (S0, S1, 0)).2.2)]) rfl ?_
                refine lv_iload hx hb dL_links_695 (lv_at hl9 0 rfl) ?_
                refine lv_icmp_ne (tgt := 704) hx hb dL_links_697 (by decide) (fun c9 => absurd rfl c9) (fun _ => ?_)
                refine lv_iconst (v := 1) hx hb dL_links_700 (by decide) ?_
                refine lv_goto (tgt := 705) hx hb dL_links_701 (by decide) ?_
                have h32 : f20 lx = some (.inl (cJ G, 64, .inr (.inl xs7))) := k22 _ _ h8 (Nat.ne_of_beq_eq_false rfl) (hdos _ List.mem_cons_self)
                have h33 : f23 lx = some (.inl (cJ G, 64, .inr (.inl xs7))) := k25 _ _ h32 (Nat.ne_of_beq_eq_false rfl) (hdos _ List.mem_cons_self)
                have h34 : f26 lx = some (.inl (cJ G, 64, .inr (.inl xs7))) := k28 _ _ h33 (Nat.ne_of_beq_eq_false rfl) (hdos _ List.mem_cons_self)
                have h35 : f29 lx = some (.inl (cJ G, 64, .inr (.inl xs7))) := k31 _ _ h34 (Nat.ne_of_beq_eq_false rfl) (hdos _ List.mem_cons_self)
                have h36 : f20 ly = some (.inl (cJ G, 64, .inr (.inl ys11))) := k22 _ _ h12 (Nat.ne_of_beq_eq_false rfl) (hdos _ (List.mem_cons_of_mem _ List.mem_cons_self))
                have h37 : f23 ly = some (.inl (cJ G, 64, .inr (.inl ys11))) := k25 _ _ h36 (Nat.ne_of_beq_eq_false rfl) (hdos _ (List.mem_cons_of_mem _ List.mem_cons_self))
                have h38 : f26 ly = some (.inl (cJ G, 64, .inr (.inl ys11))) := k28 _ _ h37 (Nat.ne_of_beq_eq_false rfl) (hdos _ (List.mem_cons_of_mem _ List.mem_cons_self))
                have h39 : f29 ly = some (.inl (cJ G, 64, .inr (.inl ys11))) := k31 _ _ h38 (Nat.ne_of_beq_eq_false rfl) (hdos _ (List.mem_cons_of_mem _ List.mem_cons_self))
                have h40 : f20 lw = some (.inl (cI G, 12, .inl (j6r gw0 gw1))) := k22 _ _ h17 (Nat.ne_of_beq_eq_false rfl) (hdos _ (List.mem_cons_of_mem _ (List.mem_cons_of_mem _ List.mem_cons_self)))
                have h41 : f23 lw = some (.inl (cI G, 12, .inl (j6r gw0 gw1))) := k25 _ _ h40 (Nat.ne_of_beq_eq_false rfl) (hdos _ (List.mem_cons_of_mem _ (List.mem_cons_of_mem _ List.mem_cons_self)))
                have h42 : f26 lw = some (.inl (cI G, 12, .inl (j6r gw0 gw1))) := k28 _ _ h41 (Nat.ne_of_beq_eq_false rfl) (hdos _ (List.mem_cons_of_mem _ (List.mem_cons_of_mem _ List.mem_cons_self)))
                have h43 : f29 lw = some (.inl (cI G, 12, .inl (j6r gw0 gw1))) := k31 _ _ h42 (Nat.ne_of_beq_eq_false rfl) (hdos _ (List.mem_cons_of_mem _ (List.mem_cons_of_mem _ List.mem_cons_self)))
                have h44 : f20 la = some (.inl (cI G, 12, .inl (j6r ga0 ga1))) := k22 _ _ h18 (Nat.ne_of_beq_eq_false rfl) (hdos _ (List.mem_cons_of_mem _ (List.mem_cons_of_mem _ (List.mem_cons_of_mem _ List.mem_cons_self))))
                have h45 : f23 la = some (.inl (cI G, 12, .inl (j6r ga0 ga1))) := k25 _ _ h44 (Nat.ne_of_beq_eq_false rfl) (hdos _ (List.mem_cons_of_mem _ (List.mem_cons_of_mem _ (List.mem_cons_of_mem _ List.mem_cons_self))))
                have h46 : f26 la = some (.inl (cI G, 12, .inl (j6r ga0 ga1))) := k28 _ _ h45 (Nat.ne_of_beq_eq_false rfl) (hdos _ (List.mem_cons_of_mem _ (List.mem_cons_of_mem _ (List.mem_cons_of_mem _ List.mem_cons_self))))
                have h47 : f29 la = some (.inl (cI G, 12, .inl (j6r ga0 ga1))) := k31 _ _ h46 (Nat.ne_of_beq_eq_false rfl) (hdos _ (List.mem_cons_of_mem _ (List.mem_cons_of_mem _ (List.mem_cons_of_mem _ List.mem_cons_self))))
                have h48 : f20 lq = some (.inl (cI G, 12, .inl (j6r (passF (1 + j4) (S0, S1, 0)).1.2.2.2.2.2.2.2.1 (passF (1 + j4) (S0, S1, 0)).2.1.2.2.2.2.2.2.2.1))) := k22 _ _ h14 (Nat.ne_of_beq_eq_false rfl) (hdos _ (List.mem_cons_of_mem _ (List.mem_cons_of_mem _ (List.mem_cons_of_mem _ (List.mem_cons_of_mem _ List.mem_cons_self)))))
                have h49 : f23 lq = some (.inl (cI G, 12, .inl (j6r (passF (1 + j4) (S0, S1, 0)).1.2.2.2.2.2.2.2.1 (passF (1 + j4) (S0, S1, 0)).2.1.2.2.2.2.2.2.2.1))) := k25 _ _ h48 (Nat.ne_of_beq_eq_false rfl) (hdos _ (List.mem_cons_of_mem _ (List.mem_cons_of_mem _ (List.mem_cons_of_mem _ (List.mem_cons_of_mem _ List.mem_cons_self)))))
                have h50 : f26 lq = some (.inl (cI G, 12, .inl (j6r (passF (1 + j4) (S0, S1, 0)).1.2.2.2.2.2.2.2.1 (passF (1 + j4) (S0, S1, 0)).2.1.2.2.2.2.2.2.2.1))) := k28 _ _ h49 (Nat.ne_of_beq_eq_false rfl) (hdos _ (List.mem_cons_of_mem _ (List.mem_cons_of_mem _ (List.mem_cons_of_mem _ (List.mem_cons_of_mem _ List.mem_cons_self)))))
                have h51 : f29 lq = some (.inl (cI G, 12, .inl (j6r (passF (1 + j4) (S0, S1, 0)).1.2.2.2.2.2.2.2.1 (passF (1 + j4) (S0, S1, 0)).2.1.2.2.2.2.2.2.2.1))) := k31 _ _ h50 (Nat.ne_of_beq_eq_false rfl) (hdos _ (List.mem_cons_of_mem _ (List.mem_cons_of_mem _ (List.mem_cons_of_mem _ (List.mem_cons_of_mem _ List.mem_cons_self)))))
                have h52 : f20 le = some (.inl (cI G, 16, .inl (jE (eSt (passF (1 + j4) (S0, S1, 0)).1) (eSt (passF (1 + j4) (S0, S1, 0)).2.1)))) := k22 _ _ h15 (Nat.ne_of_beq_eq_false rfl) (hdos _ (List.mem_cons_of_mem _ (List.mem_cons_of_mem _ (List.mem_cons_of_mem _ (List.mem_cons_of_mem _ (List.mem_cons_of_mem _ List.mem_cons_self))))))
                have h53 : f23 le = some (.inl (cI G, 16, .inl (jE (eSt (passF (1 + j4) (S0, S1, 0)).1) (eSt (passF (1 + j4) (S0, S1, 0)).2.1)))) := k25 _ _ h52 (Nat.ne_of_beq_eq_false rfl) (hdos _ (List.mem_cons_of_mem _ (List.mem_cons_of_mem _ (List.mem_cons_of_mem _ (List.mem_cons_of_mem _ (List.mem_cons_of_mem _ List.mem_cons_self))))))
                have h54 : f26 le = some (.inl (cI G, 16, .inl (jE (eSt (passF (1 + j4) (S0, S1, 0)).1) (eSt (passF (1 + j4) (S0, S1, 0)).2.1)))) := k28 _ _ h53 (Nat.ne_of_beq_eq_false rfl) (hdos _ (List.mem_cons_of_mem _ (List.mem_cons_of_mem _ (List.mem_cons_of_mem _ (List.mem_cons_of_mem _ (List.mem_cons_of_mem _ List.mem_cons_self))))))
                have h55 : f29 le = some (.inl (cI G, 16, .inl (jE (eSt (passF (1 + j4) (S0, S1, 0)).1) (eSt (passF (1 + j4) (S0, S1, 0)).2.1)))) := k31 _ _ h54 (Nat.ne_of_beq_eq_false rfl) (hdos _ (List.mem_cons_of_mem _ (List.mem_cons_of_mem _ (List.mem_cons_of_mem _ (List.mem_cons_of_mem _ (List.mem_cons_of_mem _ List.mem_cons_self))))))
                exact hp_zret (v := 1) B0 hw hS hr ⟨Nat.le_of_ble_eq_true rfl, Nat.le_of_ble_eq_true rfl⟩ (rfl) dL_links_705 (⟨rfl, (passF (1 + j4) (S0, S1, 0)).1, (passF (1 + j4) (S0, S1, 0)).2.1, gw0, ga0, gw1, ga1, hC30, ⟨⟨_, h35, hX10⟩, ⟨_, h39, hY13⟩, h43, h47, h51, h55⟩, ⟨SOK.mono (passF_ok (1 + j4) b (S0, S1, 0) hSo0 hSo1 (by omega)).1 (by omega), SOK.mono (passF_ok (1 + j4) b (S0, S1, 0) hSo0 hSo1 (by omega)).2 (by omega), hgw0, hga0, hgw1, hga1⟩, (Nat.le_trans (pot_len _) (Nat.le_trans (passF_pot (1 + j4) b (S0, S1, 0) hSo0 hSo1 (by omega)).1 (by have h9 := hpo0; show pot S0 ≤ 52; omega))), (Nat.le_trans (pot_len _) (Nat.le_trans (passF_pot (1 + j4) b (S0, S1, 0) hSo0 hSo1 (by omega)).2 (by have h9 := hpo1; show pot S1 ≤ 52; omega))), ((show hKn [lx, ly, lw, la, lq, le, xo, ez, eo, bu, nw0, na0, nq0, nr0, nw1, na1, nq1, nr1, bs, bp, bh, bf, bl, bg] f f6 from (hKn.mono (hKn.eq k16) (sub_cons List.mem_cons_self (sub_cons (List.mem_cons_of_mem _ List.mem_cons_self) (sub_cons (List.mem_cons_of_mem _ (List.mem_cons_of_mem _ (List.mem_cons_of_mem _ (List.mem_cons_of_mem _ (List.mem_cons_of_mem _ List.mem_cons_self))))) sub_nil))))).tr ((show hKn [lx, ly, lw, la, lq, le, xo, ez, eo, bu, nw0, na0, nq0, nr0, nw1, na1, nq1, nr1, bs, bp, bh, bf, bl, bg] f6 f20 from (hKn.mono k22 sbA)).tr ((show hKn [lx, ly, lw, la, lq, le, xo, ez, eo, bu, nw0, na0, nq0, nr0, nw1, na1, nq1, nr1, bs, bp, bh, bf, bl, bg] f20 f23 from (hKn.mono k25 sbA)).tr ((show hKn [lx, ly, lw, la, lq, le, xo, ez, eo, bu, nw0, na0, nq0, nr0, nw1, na1, nq1, nr1, bs, bp, bh, bf, bl, bg] f23 f26 from (hKn.mono k28 sbA)).tr (show hKn [lx, ly, lw, la, lq, le, xo, ez, eo, bu, nw0, na0, nq0, nr0, nw1, na1, nq1, nr1, bs, bp, bh, bf, bl, bg] f26 f29 from (hKn.mono k31 sbA))))))⟩)
  · refine lv_bipush (v := 50) hx hb dL_links_630 (by decide) ?_
    refine lv_goto (tgt := 636) hx hb dL_links_632 (by decide) ?_
    refine hp_S (As := [.int z, .int 50]) (rest := [.int 1]) B0 hw hS (c_L_low hl G f z 50 (by omega) (by omega)) mS_L_low qM_L_94 rfl rfl hl9.1 (Nat.le_of_ble_eq_true rfl) ⟨⟨Nat.le_of_ble_eq_true rfl, Nat.le_of_ble_eq_true rfl⟩, Nat.le_of_ble_eq_true rfl, Nat.le_of_ble_eq_true rfl⟩ dL_links_636 (fun E ce q9 f56 H locs hPX hw hS hce hcv hcl => ?_) (fun v f56 H locs hP hw hS => ?_)
    · exact hPX.elim
    · obtain ⟨ef9, j57, hj58, ev9⟩ := hP
      rw [ef9] at hw
      subst ev9
      refine W.eq (g2 := F0 m 639 ls [.int (nI j57), .int 1]) rfl ?_
      refine lv_iadd hx hb dL_links_639 ?_
      refine hp_c (v := (nI (1 + j57))) (nI_add 1 j57) ?_
      refine lv_istore (lv' := [(14, .int (nI (1 + j57))), (13, .int (nI j13)), (12, .ref ly), (11, .int 8), (10, .int 1), (0, .ref xo), (1, .int (nI ac)), (2, .int u), (3, .int z), (4, .ref lx), (5, .ref ly), (6, .ref lw), (7, .ref la), (8, .ref lq), (9, .ref le)]) hx hb dL_links_640 hl9 (by decide) rfl (fun ls hl9 => ?_)
      refine lv_iload hx hb dL_links_642 (lv_at hl9 0 rfl) ?_
      refine lv_aload hx hb dL_links_644 (lv_at hl9 9 rfl) ?_
      refine lv_aload hx hb dL_links_646 (lv_at hl9 10 rfl) ?_
      refine lv_aload hx hb dL_links_648 (lv_at hl9 13 rfl) ?_
      refine lv_aload hx hb dL_links_650 (lv_at hl9 14 rfl) ?_
      have hpo0 : pot S0 ≤ S0.2.2.2.2.2.2.2.2.length + 10 := Nat.add_le_add_left (Nat.sub_le _ _) _
      have hpo1 : pot S1 ≤ S1.2.2.2.2.2.2.2.2.length + 10 := Nat.add_le_add_left (Nat.sub_le _ _) _
      refine hp_S (As := [.int (nI (1 + j57)), .ref lx, .ref ly, .ref lq, .ref le]) (rest := []) B0 hw hS (c_L_goBy hl G f lx ly lq le S0 S1 b hSo0 hSo1 (by omega) (by have := hpo0; omega) (by have := hpo1; omega) (1 + j57) (by omega) (by omega) n_lx_ly xs0 xs1 hX0 hX1 k_lx k_ly k_lq h1) mS_L_goBy qM_L_111 rfl rfl hl9.1 (Nat.le_of_ble_eq_true rfl) ⟨⟨Nat.le_of_ble_eq_true rfl, Nat.le_of_ble_eq_true rfl⟩, Nat.le_of_ble_eq_true rfl, Nat.le_of_ble_eq_true rfl⟩ dL_links_652 (fun E ce q9 f59 H locs hPX hw hS hce hcv hcl => ?_) (fun v f59 H locs hP hw hS => ?_)
      · exact hPX.elim
      · obtain ⟨ev9, ⟨xs60, h61, hX62⟩, ⟨ys63, h64, hY65⟩, h66, h67, k68⟩ := hP
        subst ev9
        refine W.eq (g2 := F0 m 655 ls [.int ((passF (1 + j57) (S0, S1, 0)).2.2)]) rfl ?_
        refine lv_istore (lv' := [(15, .int ((passF (1 + j57) (S0, S1, 0)).2.2)), (14, .int (nI (1 + j57))), (13, .int (nI j13)), (12, .ref ly), (11, .int 8), (10, .int 1), (0, .ref xo), (1, .int (nI ac)), (2, .int u), (3, .int z), (4, .ref lx), (5, .ref ly), (6, .ref lw), (7, .ref la), (8, .ref lq), (9, .ref le)]) hx hb dL_links_655 hl9 (by decide) rfl (fun ls hl9 => ?_)
        refine lv_aload_n hx hb dL_links_657 rfl (lv_at hl9 6 rfl) ?_
        refine lv_iconst (v := 0) hx hb dL_links_658 (by decide) ?_
        have h69 : f59 lw = some (.inl (cI G, 12, .inl (j6r gw0 gw1))) := (hEq.k k68) _ _ k_lw (ninc (Ne.symm n_lx_lw) (ninc (Ne.symm n_ly_lw) (ninc n_lw_le nin0)))
        have h70 : f59 la = some (.inl (cI G, 12, .inl (j6r ga0 ga1))) := (hEq.k k68) _ _ k_la (ninc (Ne.symm n_lx_la) (ninc (Ne.symm n_ly_la) (ninc n_la_le nin0)))
        have hC71 : CXW G f59 xo ez eo bu nw0 na0 nq0 nr0 nw1 na1 nq1 nr1 bs bp bh bf bl bg S0 S1 gw0 ga0 gw1 ga1 n a cg x sa pk fl gv gh gl := CXW.eq hC (show hEq [lx, ly, lw, la, lq, le] f f59 from (hEq.mono k68 (sub_cons List.mem_cons_self (sub_cons (List.mem_cons_of_mem _ List.mem_cons_self) (sub_cons (List.mem_cons_of_mem _ (List.mem_cons_of_mem _ (List.mem_cons_of_mem _ (List.mem_cons_of_mem _ (List.mem_cons_of_mem _ List.mem_cons_self))))) sub_nil))))) hdis (fun b9 hb9 => by
            simp only [List.mem_cons, List.not_mem_nil, or_false] at hb9
            rcases hb9 with hb9 | hb9 | hb9 | hb9 | hb9 | hb9
            · rw [hb9]; exact ⟨_, _, k_lx, h61, (Nat.ne_of_beq_eq_false rfl), (Nat.ne_of_beq_eq_false rfl)⟩
            · rw [hb9]; exact ⟨_, _, k_ly, h64, (Nat.ne_of_beq_eq_false rfl), (Nat.ne_of_beq_eq_false rfl)⟩
            · rw [hb9]; exact ⟨_, _, k_lw, h69, (Nat.ne_of_beq_eq_false rfl), (Nat.ne_of_beq_eq_false rfl)⟩
            · rw [hb9]; exact ⟨_, _, k_la, h70, (Nat.ne_of_beq_eq_false rfl), (Nat.ne_of_beq_eq_false rfl)⟩
            · rw [hb9]; exact ⟨_, _, k_lq, h66, (Nat.ne_of_beq_eq_false rfl), (Nat.ne_of_beq_eq_false rfl)⟩
            · rw [hb9]; exact ⟨_, _, h1, h67, (Nat.ne_of_beq_eq_false rfl), (Nat.ne_of_beq_eq_false rfl)⟩)
        refine hp_SH (As := [.ref xo, .int 0]) (rest := []) B0 hw hS (c_V_pass_A hl G f59 xo ez eo bu nw0 na0 nq0 nr0 nw1 na1 nq1 nr1 bs bp bh bf bl bg S0 S1 gw0 ga0 gw1 ga1 n a cg x sa pk fl gv gh gl hC71 (Nat.lt_of_le_of_lt hl0 (by decide)) (Nat.lt_of_le_of_lt hl1 (by decide)) 0 (by decide)) mH_L_pass qM_L_115 rfl rfl hl9.1 (Nat.le_of_ble_eq_true rfl) ⟨⟨Nat.le_of_ble_eq_true rfl, Nat.le_of_ble_eq_true rfl⟩, Nat.le_of_ble_eq_true rfl, Nat.le_of_ble_eq_true rfl⟩ dL_links_659 (fun E ce q9 f72 H locs hPX hw hS hce hcv hcl => ?_) (fun v f72 H locs hP hw hS => ?_)
        · exact hPX.elim
        · obtain ⟨ev9, hC73, k74⟩ := hP
          subst ev9
          have hC73 : CXW G f72 xo ez eo bu nw0 na0 nq0 nr0 nw1 na1 nq1 nr1 bs bp bh bf bl bg S0 S1 gw0 ga0 gw1 ga1 n a cg x sa pk fl gv gh gl := hC73
          refine W.eq (g2 := F0 m 662 ls [.int (-72)]) rfl ?_
          refine lv_bipush (v := (-72)) hx hb dL_links_662 (by decide) ?_
          refine lv_icmp_ne (tgt := 704) hx hb dL_links_664 (by decide) (fun c9 => absurd (by decide) c9) (fun _ => ?_)
          refine lv_aload_n hx hb dL_links_667 rfl (lv_at hl9 6 rfl) ?_
          refine lv_bipush (v := 51) hx hb dL_links_668 (by decide) ?_
          refine hp_SH (As := [.ref xo, .int 51]) (rest := []) B0 hw hS (c_V_pass_A hl G f72 xo ez eo bu nw0 na0 nq0 nr0 nw1 na1 nq1 nr1 bs bp bh bf bl bg S0 S1 gw0 ga0 gw1 ga1 n a cg x sa pk fl gv gh gl hC73 (Nat.lt_of_le_of_lt hl0 (by decide)) (Nat.lt_of_le_of_lt hl1 (by decide)) 51 (by decide)) mH_L_pass qM_L_115 rfl rfl hl9.1 (Nat.le_of_ble_eq_true rfl) ⟨⟨Nat.le_of_ble_eq_true rfl, Nat.le_of_ble_eq_true rfl⟩, Nat.le_of_ble_eq_true rfl, Nat.le_of_ble_eq_true rfl⟩ dL_links_670 (fun E ce q9 f75 H locs hPX hw hS hce hcv hcl => ?_) (fun v f75 H locs hP hw hS => ?_)
          · exact hPX.elim
          · obtain ⟨ev9, hC76, k77⟩ := hP
            subst ev9
            have hC76 : CXW G f75 xo ez eo bu nw0 na0 nq0 nr0 nw1 na1 nq1 nr1 bs bp bh bf bl bg S0 S1 gw0 ga0 gw1 ga1 n a cg x sa pk fl gv gh gl := hC76
            refine W.eq (g2 := F0 m 673 ls [.int (-72)]) rfl ?_
            refine lv_bipush (v := (-72)) hx hb dL_links_673 (by decide) ?_
            refine lv_icmp_ne (tgt := 704) hx hb dL_links_675 (by decide) (fun c9 => absurd (by decide) c9) (fun _ => ?_)
            refine lv_aload_n hx hb dL_links_678 rfl (lv_at hl9 6 rfl) ?_
            refine lv_ldc (v := (-2147483648)) hx hb B0.2.2.2.1 (B0.2.2.2.2.1 _ qK_L_67) dL_links_679 ?_
            refine hp_SH (As := [.ref xo, .int (-2147483648)]) (rest := []) B0 hw hS (c_V_pass_A hl G f75 xo ez eo bu nw0 na0 nq0 nr0 nw1 na1 nq1 nr1 bs bp bh bf bl bg S0 S1 gw0 ga0 gw1 ga1 n a cg x sa pk fl gv gh gl hC76 (Nat.lt_of_le_of_lt hl0 (by decide)) (Nat.lt_of_le_of_lt hl1 (by decide)) (-2147483648) (by decide)) mH_L_pass qM_L_115 rfl rfl hl9.1 (Nat.le_of_ble_eq_true rfl) ⟨⟨Nat.le_of_ble_eq_true rfl, Nat.le_of_ble_eq_true rfl⟩, Nat.le_of_ble_eq_true rfl, Nat.le_of_ble_eq_true rfl⟩ dL_links_681 (fun E ce q9 f78 H locs hPX hw hS hce hcv hcl => ?_) (fun v f78 H locs hP hw hS => ?_)
            · exact hPX.elim
            · obtain ⟨ev9, hC79, k80⟩ := hP
              subst ev9
              have hC79 : CXW G f78 xo ez eo bu nw0 na0 nq0 nr0 nw1 na1 nq1 nr1 bs bp bh bf bl bg S0 S1 gw0 ga0 gw1 ga1 n a cg x sa pk fl gv gh gl := hC79
              refine W.eq (g2 := F0 m 684 ls [.int (-72)]) rfl ?_
              refine lv_bipush (v := (-72)) hx hb dL_links_684 (by decide) ?_
              refine lv_icmp_ne (tgt := 704) hx hb dL_links_686 (by decide) (fun c9 => absurd (by decide) c9) (fun _ => ?_)
              refine lv_aload_n hx hb dL_links_689 rfl (lv_at hl9 6 rfl) ?_
              refine lv_iload hx hb dL_links_690 (lv_at hl9 1 rfl) ?_
              refine hp_SH (As := [.ref xo, .int (nI (1 + j57))]) (rest := []) B0 hw hS (c_V_pass_ok hl G f78 xo ez eo bu nw0 na0 nq0 nr0 nw1 na1 nq1 nr1 bs bp bh bf bl bg S0 S1 gw0 ga0 gw1 ga1 n a cg x sa pk fl gv gh gl hC79 (Nat.lt_of_le_of_lt hl0 (by decide)) (Nat.lt_of_le_of_lt hl1 (by decide)) (1 + j57) (by omega) (by omega)) mH_L_pass qM_L_115 rfl rfl hl9.1 (Nat.le_of_ble_eq_true rfl) ⟨⟨Nat.le_of_ble_eq_true rfl, Nat.le_of_ble_eq_true rfl⟩, Nat.le_of_ble_eq_true rfl, Nat.le_of_ble_eq_true rfl⟩ dL_links_692 (fun E ce q9 f81 H locs hPX hw hS hce hcv hcl => ?_) (fun v f81 H locs hP hw hS => ?_)
              · exact hPX.elim
              · obtain ⟨ev9, hC82, k83⟩ := hP
                subst ev9
                have hC82 : CXW G f81 xo ez eo bu nw0 na0 nq0 nr0 nw1 na1 nq1 nr1 bs bp bh bf bl bg ((passF (1 + j57) (S0, S1, 0)).1) ((passF (1 + j57) (S0, S1, 0)).2.1) gw0 ga0 gw1 ga1 n a cg x sa pk fl gv gh gl := hC82
                refine W.eq (g2 := F0 m 695 ls [.int ((passF (1 + j57) (S0, S1, 0)).2.2)]) rfl ?_
                refine lv_iload hx hb dL_links_695 (lv_at hl9 0 rfl) ?_
                refine lv_icmp_ne (tgt := 704) hx hb dL_links_697 (by decide) (fun c9 => absurd rfl c9) (fun _ => ?_)
                refine lv_iconst (v := 1) hx hb dL_links_700 (by decide) ?_
                refine lv_goto (tgt := 705) hx hb dL_links_701 (by decide) ?_
                have h84 : f72 lx = some (.inl (cJ G, 64, .inr (.inl xs60))) := k74 _ _ h61 (Nat.ne_of_beq_eq_false rfl) (hdos _ List.mem_cons_self)
                have h85 : f75 lx = some (.inl (cJ G, 64, .inr (.inl xs60))) := k77 _ _ h84 (Nat.ne_of_beq_eq_false rfl) (hdos _ List.mem_cons_self)
                have h86 : f78 lx = some (.inl (cJ G, 64, .inr (.inl xs60))) := k80 _ _ h85 (Nat.ne_of_beq_eq_false rfl) (hdos _ List.mem_cons_self)
                have h87 : f81 lx = some (.inl (cJ G, 64, .inr (.inl xs60))) := k83 _ _ h86 (Nat.ne_of_beq_eq_false rfl) (hdos _ List.mem_cons_self)
                have h88 : f72 ly = some (.inl (cJ G, 64, .inr (.inl ys63))) := k74 _ _ h64 (Nat.ne_of_beq_eq_false rfl) (hdos _ (List.mem_cons_of_mem _ List.mem_cons_self))
                have h89 : f75 ly = some (.inl (cJ G, 64, .inr (.inl ys63))) := k77 _ _ h88 (Nat.ne_of_beq_eq_false rfl) (hdos _ (List.mem_cons_of_mem _ List.mem_cons_self))
                have h90 : f78 ly = some (.inl (cJ G, 64, .inr (.inl ys63))) := k80 _ _ h89 (Nat.ne_of_beq_eq_false rfl) (hdos _ (List.mem_cons_of_mem _ List.mem_cons_self))
                have h91 : f81 ly = some (.inl (cJ G, 64, .inr (.inl ys63))) := k83 _ _ h90 (Nat.ne_of_beq_eq_false rfl) (hdos _ (List.mem_cons_of_mem _ List.mem_cons_self))
                have h92 : f72 lw = some (.inl (cI G, 12, .inl (j6r gw0 gw1))) := k74 _ _ h69 (Nat.ne_of_beq_eq_false rfl) (hdos _ (List.mem_cons_of_mem _ (List.mem_cons_of_mem _ List.mem_cons_self)))
                have h93 : f75 lw = some (.inl (cI G, 12, .inl (j6r gw0 gw1))) := k77 _ _ h92 (Nat.ne_of_beq_eq_false rfl) (hdos _ (List.mem_cons_of_mem _ (List.mem_cons_of_mem _ List.mem_cons_self)))
                have h94 : f78 lw = some (.inl (cI G, 12, .inl (j6r gw0 gw1))) := k80 _ _ h93 (Nat.ne_of_beq_eq_false rfl) (hdos _ (List.mem_cons_of_mem _ (List.mem_cons_of_mem _ List.mem_cons_self)))
                have h95 : f81 lw = some (.inl (cI G, 12, .inl (j6r gw0 gw1))) := k83 _ _ h94 (Nat.ne_of_beq_eq_false rfl) (hdos _ (List.mem_cons_of_mem _ (List.mem_cons_of_mem _ List.mem_cons_self)))
                have h96 : f72 la = some (.inl (cI G, 12, .inl (j6r ga0 ga1))) := k74 _ _ h70 (Nat.ne_of_beq_eq_false rfl) (hdos _ (List.mem_cons_of_mem _ (List.mem_cons_of_mem _ (List.mem_cons_of_mem _ List.mem_cons_self))))
                have h97 : f75 la = some (.inl (cI G, 12, .inl (j6r ga0 ga1))) := k77 _ _ h96 (Nat.ne_of_beq_eq_false rfl) (hdos _ (List.mem_cons_of_mem _ (List.mem_cons_of_mem _ (List.mem_cons_of_mem _ List.mem_cons_self))))
                have h98 : f78 la = some (.inl (cI G, 12, .inl (j6r ga0 ga1))) := k80 _ _ h97 (Nat.ne_of_beq_eq_false rfl) (hdos _ (List.mem_cons_of_mem _ (List.mem_cons_of_mem _ (List.mem_cons_of_mem _ List.mem_cons_self))))
                have h99 : f81 la = some (.inl (cI G, 12, .inl (j6r ga0 ga1))) := k83 _ _ h98 (Nat.ne_of_beq_eq_false rfl) (hdos _ (List.mem_cons_of_mem _ (List.mem_cons_of_mem _ (List.mem_cons_of_mem _ List.mem_cons_self))))
                have h100 : f72 lq = some (.inl (cI G, 12, .inl (j6r (passF (1 + j57) (S0, S1, 0)).1.2.2.2.2.2.2.2.1 (passF (1 + j57) (S0, S1, 0)).2.1.2.2.2.2.2.2.2.1))) := k74 _ _ h66 (Nat.ne_of_beq_eq_false rfl) (hdos _ (List.mem_cons_of_mem _ (List.mem_cons_of_mem _ (List.mem_cons_of_mem _ (List.mem_cons_of_mem _ List.mem_cons_self)))))
                have h101 : f75 lq = some (.inl (cI G, 12, .inl (j6r (passF (1 + j57) (S0, S1, 0)).1.2.2.2.2.2.2.2.1 (passF (1 + j57) (S0, S1, 0)).2.1.2.2.2.2.2.2.2.1))) := k77 _ _ h100 (Nat.ne_of_beq_eq_false rfl) (hdos _ (List.mem_cons_of_mem _ (List.mem_cons_of_mem _ (List.mem_cons_of_mem _ (List.mem_cons_of_mem _ List.mem_cons_self)))))
                have h102 : f78 lq = some (.inl (cI G, 12, .inl (j6r (passF (1 + j57) (S0, S1, 0)).1.2.2.2.2.2.2.2.1 (passF (1 + j57) (S0, S1, 0)).2.1.2.2.2.2.2.2.2.1))) := k80 _ _ h101 (Nat.ne_of_beq_eq_false rfl) (hdos _ (List.mem_cons_of_mem _ (List.mem_cons_of_mem _ (List.mem_cons_of_mem _ (List.mem_cons_of_mem _ List.mem_cons_self)))))
                have h103 : f81 lq = some (.inl (cI G, 12, .inl (j6r (passF (1 + j57) (S0, S1, 0)).1.2.2.2.2.2.2.2.1 (passF (1 + j57) (S0, S1, 0)).2.1.2.2.2.2.2.2.2.1))) := k83 _ _ h102 (Nat.ne_of_beq_eq_false rfl) (hdos _ (List.mem_cons_of_mem _ (List.mem_cons_of_mem _ (List.mem_cons_of_mem _ (List.mem_cons_of_mem _ List.mem_cons_self)))))
                have h104 : f72 le = some (.inl (cI G, 16, .inl (jE (eSt (passF (1 + j57) (S0, S1, 0)).1) (eSt (passF (1 + j57) (S0, S1, 0)).2.1)))) := k74 _ _ h67 (Nat.ne_of_beq_eq_false rfl) (hdos _ (List.mem_cons_of_mem _ (List.mem_cons_of_mem _ (List.mem_cons_of_mem _ (List.mem_cons_of_mem _ (List.mem_cons_of_mem _ List.mem_cons_self))))))
                have h105 : f75 le = some (.inl (cI G, 16, .inl (jE (eSt (passF (1 + j57) (S0, S1, 0)).1) (eSt (passF (1 + j57) (S0, S1, 0)).2.1)))) := k77 _ _ h104 (Nat.ne_of_beq_eq_false rfl) (hdos _ (List.mem_cons_of_mem _ (List.mem_cons_of_mem _ (List.mem_cons_of_mem _ (List.mem_cons_of_mem _ (List.mem_cons_of_mem _ List.mem_cons_self))))))
                have h106 : f78 le = some (.inl (cI G, 16, .inl (jE (eSt (passF (1 + j57) (S0, S1, 0)).1) (eSt (passF (1 + j57) (S0, S1, 0)).2.1)))) := k80 _ _ h105 (Nat.ne_of_beq_eq_false rfl) (hdos _ (List.mem_cons_of_mem _ (List.mem_cons_of_mem _ (List.mem_cons_of_mem _ (List.mem_cons_of_mem _ (List.mem_cons_of_mem _ List.mem_cons_self))))))
                have h107 : f81 le = some (.inl (cI G, 16, .inl (jE (eSt (passF (1 + j57) (S0, S1, 0)).1) (eSt (passF (1 + j57) (S0, S1, 0)).2.1)))) := k83 _ _ h106 (Nat.ne_of_beq_eq_false rfl) (hdos _ (List.mem_cons_of_mem _ (List.mem_cons_of_mem _ (List.mem_cons_of_mem _ (List.mem_cons_of_mem _ (List.mem_cons_of_mem _ List.mem_cons_self))))))
                exact hp_zret (v := 1) B0 hw hS hr ⟨Nat.le_of_ble_eq_true rfl, Nat.le_of_ble_eq_true rfl⟩ (rfl) dL_links_705 (⟨rfl, (passF (1 + j57) (S0, S1, 0)).1, (passF (1 + j57) (S0, S1, 0)).2.1, gw0, ga0, gw1, ga1, hC82, ⟨⟨_, h87, hX62⟩, ⟨_, h91, hY65⟩, h95, h99, h103, h107⟩, ⟨SOK.mono (passF_ok (1 + j57) b (S0, S1, 0) hSo0 hSo1 (by omega)).1 (by omega), SOK.mono (passF_ok (1 + j57) b (S0, S1, 0) hSo0 hSo1 (by omega)).2 (by omega), hgw0, hga0, hgw1, hga1⟩, (Nat.le_trans (pot_len _) (Nat.le_trans (passF_pot (1 + j57) b (S0, S1, 0) hSo0 hSo1 (by omega)).1 (by have h9 := hpo0; show pot S0 ≤ 52; omega))), (Nat.le_trans (pot_len _) (Nat.le_trans (passF_pot (1 + j57) b (S0, S1, 0) hSo0 hSo1 (by omega)).2 (by have h9 := hpo1; show pot S1 ≤ 52; omega))), ((show hKn [lx, ly, lw, la, lq, le, xo, ez, eo, bu, nw0, na0, nq0, nr0, nw1, na1, nq1, nr1, bs, bp, bh, bf, bl, bg] f f59 from (hKn.mono (hKn.eq k68) (sub_cons List.mem_cons_self (sub_cons (List.mem_cons_of_mem _ List.mem_cons_self) (sub_cons (List.mem_cons_of_mem _ (List.mem_cons_of_mem _ (List.mem_cons_of_mem _ (List.mem_cons_of_mem _ (List.mem_cons_of_mem _ List.mem_cons_self))))) sub_nil))))).tr ((show hKn [lx, ly, lw, la, lq, le, xo, ez, eo, bu, nw0, na0, nq0, nr0, nw1, na1, nq1, nr1, bs, bp, bh, bf, bl, bg] f59 f72 from (hKn.mono k74 sbA)).tr ((show hKn [lx, ly, lw, la, lq, le, xo, ez, eo, bu, nw0, na0, nq0, nr0, nw1, na1, nq1, nr1, bs, bp, bh, bf, bl, bg] f72 f75 from (hKn.mono k77 sbA)).tr ((show hKn [lx, ly, lw, la, lq, le, xo, ez, eo, bu, nw0, na0, nq0, nr0, nw1, na1, nq1, nr1, bs, bp, bh, bf, bl, bg] f75 f78 from (hKn.mono k80 sbA)).tr (show hKn [lx, ly, lw, la, lq, le, xo, ez, eo, bu, nw0, na0, nq0, nr0, nw1, na1, nq1, nr1, bs, bp, bh, bf, bl, bg] f78 f81 from (hKn.mono k83 sbA))))))⟩)

set_option maxHeartbeats 4000000 in
set_option maxRecDepth 100000 in
theorem lk_d_0 {l : Launch} (hl : l.stackTraces = false) (G : hG) (f : hM) (xo ez eo bu nw0 na0 nq0 nr0 nw1 na1 nq1 nr1 bs bp bh bf bl bg : Nat) (S0 : ES) (S1 : ES) (gw0 : Nat → Int32) (ga0 : Nat → Int32) (gw1 : Nat → Int32) (ga1 : Nat → Int32) (n : Nat) (a : Nat) (cg : Nat) (x : Nat) (sa : Nat → Nat) (pk : Nat → Nat) (fl : Nat → Nat) (gv : Nat → Nat) (gh : Nat → Int32) (gl : Nat → Int32) (hC : CXW G f xo ez eo bu nw0 na0 nq0 nr0 nw1 na1 nq1 nr1 bs bp bh bf bl bg S0 S1 gw0 ga0 gw1 ga1 n a cg x sa pk fl gv gh gl) (lx ly lw la lq le : Nat) (hdis : ∀ p, p ∈ [xo, ez, eo, bu, nw0, na0, nq0, nr0, nw1, na1, nq1, nr1, bs, bp, bh, bf, bl, bg] → p ∉ [lx, ly, lw, la, lq, le]) (hdos : ∀ p, p ∈ [lx, ly, lw, la, lq, le] → p ∉ [xo, ez, eo, bu, nw0, na0, nq0, nr0, nw1, na1, nq1, nr1, bs, bp, bh, bf, bl, bg]) (n_lx_ly : lx ≠ ly) (n_lw_la : lw ≠ la) (n_lw_lq : lw ≠ lq) (n_la_lq : la ≠ lq) (hLX : LX G f lx ly lw la lq le S0 S1 gw0 ga0 gw1 ga1) (b : Nat) (hInv : INV b S0 S1 gw0 ga0 gw1 ga1) (hbb : b + 200 ≤ 1000000) (hl0 : S0.2.2.2.2.2.2.2.2.length ≤ 52) (hl1 : S1.2.2.2.2.2.2.2.2.length ≤ 52) (ac : Nat) (hac : ac < 24) (hact : ac ≠ 22 → S0.2.2.2.2.2.2.2.2.length ≤ 40 ∧ S1.2.2.2.2.2.2.2.2.length ≤ 40) (u z : Int32) {p : Program} {e : Env} {s : State} {m : MethodId} {args : Array Value} {below : List Frame} {meth : Method} {c : Code} (B0 : hB p l s m args meth c cL_links 17 RL G) (hr : meth.sig.returnType = some .boolean) {H : Heap} {locs : List Loc} {ls : Array Slot} (hw : hW G f H) (hS : va_S (hFr G) s.heap H locs) (j13 : Nat) (hj13 : j13 < 6) (hl9 : lv_has ls 17 [(13, .int (nI j13)), (12, .ref lx), (11, .int 0), (10, .int 0), (0, .ref xo), (1, .int (nI ac)), (2, .int u), (3, .int z), (4, .ref lx), (5, .ref ly), (6, .ref lw), (7, .ref la), (8, .ref lq), (9, .ref le)]) : W p l e { frames := 9, cells := 203, slots := 1118, locals := 178 } s m args below meth c H locs 0 0 (vx_MQ below (hQ G (fun v f1 => v = some (.int 1) ∧ ∃ (S2 S3 : ES) (w0 a0 w1 a1 : Nat → Int32), CXW G f1 xo ez eo bu nw0 na0 nq0 nr0 nw1 na1 nq1 nr1 bs bp bh bf bl bg S2 S3 w0 a0 w1 a1 n a cg x sa pk fl gv gh gl ∧ LX G f1 lx ly lw la lq le S2 S3 w0 a0 w1 a1 ∧ INV (b + 100) S2 S3 w0 a0 w1 a1 ∧ S2.2.2.2.2.2.2.2.2.length ≤ 52 ∧ S3.2.2.2.2.2.2.2.2.length ≤ 52 ∧ hKn [lx, ly, lw, la, lq, le, xo, ez, eo, bu, nw0, na0, nq0, nr0, nw1, na1, nq1, nr1, bs, bp, bh, bf, bl, bg] f f1)) (hX G (fun E f1 => False)) args s 203 1118 (hFr G)) (F0 m 706 ls []) := by
  have hx := B0.1
  have hb := B0.2.1
  obtain ⟨⟨xs0, k_lx, hX0⟩, ⟨xs1, k_ly, hX1⟩, k_lw, k_la, k_lq, k_le⟩ := hLX
  obtain ⟨hSo0, hSo1, hgw0, hga0, hgw1, hga1⟩ := id hInv
  have n_lx_lw : lx ≠ lw := hneL k_lx k_lw (Nat.ne_of_beq_eq_false rfl)
  have n_lx_la : lx ≠ la := hneL k_lx k_la (Nat.ne_of_beq_eq_false rfl)
  have n_lx_lq : lx ≠ lq := hneL k_lx k_lq (Nat.ne_of_beq_eq_false rfl)
  have n_lx_le : lx ≠ le := hneL k_lx k_le (Nat.ne_of_beq_eq_false rfl)
  have n_ly_lw : ly ≠ lw := hneL k_ly k_lw (Nat.ne_of_beq_eq_false rfl)
  have n_ly_la : ly ≠ la := hneL k_ly k_la (Nat.ne_of_beq_eq_false rfl)
  have n_ly_lq : ly ≠ lq := hneL k_ly k_lq (Nat.ne_of_beq_eq_false rfl)
  have n_ly_le : ly ≠ le := hneL k_ly k_le (Nat.ne_of_beq_eq_false rfl)
  have n_lw_le : lw ≠ le := hneL k_lw k_le (Nat.ne_of_beq_eq_false rfl)
  have n_la_le : la ≠ le := hneL k_la k_le (Nat.ne_of_beq_eq_false rfl)
  have n_lq_le : lq ≠ le := hneL k_lq k_le (Nat.ne_of_beq_eq_false rfl)
  have sbA : ∀ x9, x9 ∈ [xo, ez, eo, bu, nw0, na0, nq0, nr0, nw1, na1, nq1, nr1, bs, bp, bh, bf, bl, bg] → x9 ∈ [lx, ly, lw, la, lq, le, xo, ez, eo, bu, nw0, na0, nq0, nr0, nw1, na1, nq1, nr1, bs, bp, bh, bf, bl, bg] := (sub_cons (List.mem_cons_of_mem _ (List.mem_cons_of_mem _ (List.mem_cons_of_mem _ (List.mem_cons_of_mem _ (List.mem_cons_of_mem _ (List.mem_cons_of_mem _ List.mem_cons_self)))))) (sub_cons (List.mem_cons_of_mem _ (List.mem_cons_of_mem _ (List.mem_cons_of_mem _ (List.mem_cons_of_mem _ (List.mem_cons_of_mem _ (List.mem_cons_of_mem _ (List.mem_cons_of_mem _ List.mem_cons_self))))))) (sub_cons (List.mem_cons_of_mem _ (List.mem_cons_of_mem _ (List.mem_cons_of_mem _ (List.mem_cons_of_mem _ (List.mem_cons_of_mem _ (List.mem_cons_of_mem _ (List.mem_cons_of_mem _ (List.mem_cons_of_mem _ List.mem_cons_self)))))))) (sub_cons (List.mem_cons_of_mem _ (List.mem_cons_of_mem _ (List.mem_cons_of_mem _ (List.mem_cons_of_mem _ (List.mem_cons_of_mem _ (List.mem_cons_of_mem _ (List.mem_cons_of_mem _ (List.mem_cons_of_mem _ (List.mem_cons_of_mem _ List.mem_cons_self))))))))) (sub_cons (List.mem_cons_of_mem _ (List.mem_cons_of_mem _ (List.mem_cons_of_mem _ (List.mem_cons_of_mem _ (List.mem_cons_of_mem _ (List.mem_cons_of_mem _ (List.mem_cons_of_mem _ (List.mem_cons_of_mem _ (List.mem_cons_of_mem _ (List.mem_cons_of_mem _ List.mem_cons_self)))))))))) (sub_cons (List.mem_cons_of_mem _ (List.mem_cons_of_mem _ (List.mem_cons_of_mem _ (List.mem_cons_of_mem _ (List.mem_cons_of_mem _ (List.mem_cons_of_mem _ (List.mem_cons_of_mem _ (List.mem_cons_of_mem _ (List.mem_cons_of_mem _ (List.mem_cons_of_mem _ (List.mem_cons_of_mem _ List.mem_cons_self))))))))))) (sub_cons (List.mem_cons_of_mem _ (List.mem_cons_of_mem _ (List.mem_cons_of_mem _ (List.mem_cons_of_mem _ (List.mem_cons_of_mem _ (List.mem_cons_of_mem _ (List.mem_cons_of_mem _ (List.mem_cons_of_mem _ (List.mem_cons_of_mem _ (List.mem_cons_of_mem _ (List.mem_cons_of_mem _ (List.mem_cons_of_mem _ List.mem_cons_self)))))))))))) (sub_cons (List.mem_cons_of_mem _ (List.mem_cons_of_mem _ (List.mem_cons_of_mem _ (List.mem_cons_of_mem _ (List.mem_cons_of_mem _ (List.mem_cons_of_mem _ (List.mem_cons_of_mem _ (List.mem_cons_of_mem _ (List.mem_cons_of_mem _ (List.mem_cons_of_mem _ (List.mem_cons_of_mem _ (List.mem_cons_of_mem _ (List.mem_cons_of_mem _ List.mem_cons_self))))))))))))) (sub_cons (List.mem_cons_of_mem _ (List.mem_cons_of_mem _ (List.mem_cons_of_mem _ (List.mem_cons_of_mem _ (List.mem_cons_of_mem _ (List.mem_cons_of_mem _ (List.mem_cons_of_mem _ (List.mem_cons_of_mem _ (List.mem_cons_of_mem _ (List.mem_cons_of_mem _ (List.mem_cons_of_mem _ (List.mem_cons_of_mem _ (List.mem_cons_of_mem _ (List.mem_cons_of_mem _ List.mem_cons_self)))))))))))))) (sub_cons (List.mem_cons_of_mem _ (List.mem_cons_of_mem _ (List.mem_cons_of_mem _ (List.mem_cons_of_mem _ (List.mem_cons_of_mem _ (List.mem_cons_of_mem _ (List.mem_cons_of_mem _ (List.mem_cons_of_mem _ (List.mem_cons_of_mem _ (List.mem_cons_of_mem _ (List.mem_cons_of_mem _ (List.mem_cons_of_mem _ (List.mem_cons_of_mem _ (List.mem_cons_of_mem _ (List.mem_cons_of_mem _ List.mem_cons_self))))))))))))))) (sub_cons (List.mem_cons_of_mem _ (List.mem_cons_of_mem _ (List.mem_cons_of_mem _ (List.mem_cons_of_mem _ (List.mem_cons_of_mem _ (List.mem_cons_of_mem _ (List.mem_cons_of_mem _ (List.mem_cons_of_mem _ (List.mem_cons_of_mem _ (List.mem_cons_of_mem _ (List.mem_cons_of_mem _ (List.mem_cons_of_mem _ (List.mem_cons_of_mem _ (List.mem_cons_of_mem _ (List.mem_cons_of_mem _ (List.mem_cons_of_mem _ List.mem_cons_self)))))))))))))))) (sub_cons (List.mem_cons_of_mem _ (List.mem_cons_of_mem _ (List.mem_cons_of_mem _ (List.mem_cons_of_mem _ (List.mem_cons_of_mem _ (List.mem_cons_of_mem _ (List.mem_cons_of_mem _ (List.mem_cons_of_mem _ (List.mem_cons_of_mem _ (List.mem_cons_of_mem _ (List.mem_cons_of_mem _ (List.mem_cons_of_mem _ (List.mem_cons_of_mem _ (List.mem_cons_of_mem _ (List.mem_cons_of_mem _ (List.mem_cons_of_mem _ (List.mem_cons_of_mem _ List.mem_cons_self))))))))))))))))) (sub_cons (List.mem_cons_of_mem _ (List.mem_cons_of_mem _ (List.mem_cons_of_mem _ (List.mem_cons_of_mem _ (List.mem_cons_of_mem _ (List.mem_cons_of_mem _ (List.mem_cons_of_mem _ (List.mem_cons_of_mem _ (List.mem_cons_of_mem _ (List.mem_cons_of_mem _ (List.mem_cons_of_mem _ (List.mem_cons_of_mem _ (List.mem_cons_of_mem _ (List.mem_cons_of_mem _ (List.mem_cons_of_mem _ (List.mem_cons_of_mem _ (List.mem_cons_of_mem _ (List.mem_cons_of_mem _ List.mem_cons_self)))))))))))))))))) (sub_cons (List.mem_cons_of_mem _ (List.mem_cons_of_mem _ (List.mem_cons_of_mem _ (List.mem_cons_of_mem _ (List.mem_cons_of_mem _ (List.mem_cons_of_mem _ (List.mem_cons_of_mem _ (List.mem_cons_of_mem _ (List.mem_cons_of_mem _ (List.mem_cons_of_mem _ (List.mem_cons_of_mem _ (List.mem_cons_of_mem _ (List.mem_cons_of_mem _ (List.mem_cons_of_mem _ (List.mem_cons_of_mem _ (List.mem_cons_of_mem _ (List.mem_cons_of_mem _ (List.mem_cons_of_mem _ (List.mem_cons_of_mem _ List.mem_cons_self))))))))))))))))))) (sub_cons (List.mem_cons_of_mem _ (List.mem_cons_of_mem _ (List.mem_cons_of_mem _ (List.mem_cons_of_mem _ (List.mem_cons_of_mem _ (List.mem_cons_of_mem _ (List.mem_cons_of_mem _ (List.mem_cons_of_mem _ (List.mem_cons_of_mem _ (List.mem_cons_of_mem _ (List.mem_cons_of_mem _ (List.mem_cons_of_mem _ (List.mem_cons_of_mem _ (List.mem_cons_of_mem _ (List.mem_cons_of_mem _ (List.mem_cons_of_mem _ (List.mem_cons_of_mem _ (List.mem_cons_of_mem _ (List.mem_cons_of_mem _ (List.mem_cons_of_mem _ List.mem_cons_self)))))))))))))))))))) (sub_cons (List.mem_cons_of_mem _ (List.mem_cons_of_mem _ (List.mem_cons_of_mem _ (List.mem_cons_of_mem _ (List.mem_cons_of_mem _ (List.mem_cons_of_mem _ (List.mem_cons_of_mem _ (List.mem_cons_of_mem _ (List.mem_cons_of_mem _ (List.mem_cons_of_mem _ (List.mem_cons_of_mem _ (List.mem_cons_of_mem _ (List.mem_cons_of_mem _ (List.mem_cons_of_mem _ (List.mem_cons_of_mem _ (List.mem_cons_of_mem _ (List.mem_cons_of_mem _ (List.mem_cons_of_mem _ (List.mem_cons_of_mem _ (List.mem_cons_of_mem _ (List.mem_cons_of_mem _ List.mem_cons_self))))))))))))))))))))) (sub_cons (List.mem_cons_of_mem _ (List.mem_cons_of_mem _ (List.mem_cons_of_mem _ (List.mem_cons_of_mem _ (List.mem_cons_of_mem _ (List.mem_cons_of_mem _ (List.mem_cons_of_mem _ (List.mem_cons_of_mem _ (List.mem_cons_of_mem _ (List.mem_cons_of_mem _ (List.mem_cons_of_mem _ (List.mem_cons_of_mem _ (List.mem_cons_of_mem _ (List.mem_cons_of_mem _ (List.mem_cons_of_mem _ (List.mem_cons_of_mem _ (List.mem_cons_of_mem _ (List.mem_cons_of_mem _ (List.mem_cons_of_mem _ (List.mem_cons_of_mem _ (List.mem_cons_of_mem _ (List.mem_cons_of_mem _ List.mem_cons_self)))))))))))))))))))))) (sub_cons (List.mem_cons_of_mem _ (List.mem_cons_of_mem _ (List.mem_cons_of_mem _ (List.mem_cons_of_mem _ (List.mem_cons_of_mem _ (List.mem_cons_of_mem _ (List.mem_cons_of_mem _ (List.mem_cons_of_mem _ (List.mem_cons_of_mem _ (List.mem_cons_of_mem _ (List.mem_cons_of_mem _ (List.mem_cons_of_mem _ (List.mem_cons_of_mem _ (List.mem_cons_of_mem _ (List.mem_cons_of_mem _ (List.mem_cons_of_mem _ (List.mem_cons_of_mem _ (List.mem_cons_of_mem _ (List.mem_cons_of_mem _ (List.mem_cons_of_mem _ (List.mem_cons_of_mem _ (List.mem_cons_of_mem _ (List.mem_cons_of_mem _ List.mem_cons_self))))))))))))))))))))))) sub_nil))))))))))))))))))
  obtain ⟨xx, hxx, hx4⟩ := hSo0.2.2.2.2.1
  have h1 : f le = some (.inl (cI G, 16, .inl (jE (e8r S0.1 S0.2.1 S0.2.2.1 S0.2.2.2.1 S0.2.2.2.2.1 S0.2.2.2.2.2.1 S0.2.2.2.2.2.2.1 (nI S0.2.2.2.2.2.2.2.2.length)) (eSt S1)))) := k_le
  refine lv_aload_n hx hb dL_links_706 rfl (lv_at hl9 4 rfl) ?_
  refine lv_iconst (v := 2) hx hb dL_links_707 (by decide) ?_
  refine hp_SH (As := [.ref xo, .int 2]) (rest := []) B0 hw hS (c_V_deliver_E hl G f xo ez eo bu nw0 na0 nq0 nr0 nw1 na1 nq1 nr1 bs bp bh bf bl bg S0 S1 gw0 ga0 gw1 ga1 n a cg x sa pk fl gv gh gl hC (Nat.lt_of_le_of_lt hl0 (by decide)) (Nat.lt_of_le_of_lt hl1 (by decide)) 2 (by decide)) mH_L_deliver qM_L_117 rfl rfl hl9.1 (Nat.le_of_ble_eq_true rfl) ⟨⟨Nat.le_of_ble_eq_true rfl, Nat.le_of_ble_eq_true rfl⟩, Nat.le_of_ble_eq_true rfl, Nat.le_of_ble_eq_true rfl⟩ dL_links_708 (fun E ce q9 f2 H locs hPX hw hS hce hcv hcl => ?_) (fun v f2 H locs hP hw hS => ?_)
  · exact hPX.elim
  · obtain ⟨ev9, hC3, k4⟩ := hP
    subst ev9
    have hC3 : CXW G f2 xo ez eo bu nw0 na0 nq0 nr0 nw1 na1 nq1 nr1 bs bp bh bf bl bg S0 S1 gw0 ga0 gw1 ga1 n a cg x sa pk fl gv gh gl := hC3
    refine W.eq (g2 := F0 m 711 ls [.int (-71)]) rfl ?_
    refine lv_bipush (v := (-71)) hx hb dL_links_711 (by decide) ?_
    refine lv_icmp_ne (tgt := 736) hx hb dL_links_713 (by decide) (fun c9 => absurd (by decide) c9) (fun _ => ?_)
    refine lv_aload_n hx hb dL_links_716 rfl (lv_at hl9 4 rfl) ?_
    refine lv_iconst (v := (-1)) hx hb dL_links_717 (by decide) ?_
    refine hp_SH (As := [.ref xo, .int (-1)]) (rest := []) B0 hw hS (c_V_lose_E hl G f2 xo ez eo bu nw0 na0 nq0 nr0 nw1 na1 nq1 nr1 bs bp bh bf bl bg S0 S1 gw0 ga0 gw1 ga1 n a cg x sa pk fl gv gh gl hC3 (Nat.lt_of_le_of_lt hl0 (by decide)) (Nat.lt_of_le_of_lt hl1 (by decide)) (-1) (by decide)) mH_L_lose qM_L_119 rfl rfl hl9.1 (Nat.le_of_ble_eq_true rfl) ⟨⟨Nat.le_of_ble_eq_true rfl, Nat.le_of_ble_eq_true rfl⟩, Nat.le_of_ble_eq_true rfl, Nat.le_of_ble_eq_true rfl⟩ dL_links_718 (fun E ce q9 f5 H locs hPX hw hS hce hcv hcl => ?_) (fun v f5 H locs hP hw hS => ?_)
    · exact hPX.elim
    · obtain ⟨ev9, hC6, k7⟩ := hP
      subst ev9
      have hC6 : CXW G f5 xo ez eo bu nw0 na0 nq0 nr0 nw1 na1 nq1 nr1 bs bp bh bf bl bg S0 S1 gw0 ga0 gw1 ga1 n a cg x sa pk fl gv gh gl := hC6
      refine W.eq (g2 := F0 m 721 ls [.int (-71)]) rfl ?_
      refine lv_bipush (v := (-71)) hx hb dL_links_721 (by decide) ?_
      refine lv_icmp_ne (tgt := 736) hx hb dL_links_723 (by decide) (fun c9 => absurd (by decide) c9) (fun _ => ?_)
      refine lv_aload_n hx hb dL_links_726 rfl (lv_at hl9 4 rfl) ?_
      refine lv_iconst (v := 2) hx hb dL_links_727 (by decide) ?_
      refine hp_SH (As := [.ref xo, .int 2]) (rest := []) B0 hw hS (c_V_loop_E hl G f5 xo ez eo bu nw0 na0 nq0 nr0 nw1 na1 nq1 nr1 bs bp bh bf bl bg S0 S1 gw0 ga0 gw1 ga1 n a cg x sa pk fl gv gh gl hC6 (Nat.lt_of_le_of_lt hl0 (by decide)) (Nat.lt_of_le_of_lt hl1 (by decide)) 2 (by decide)) mH_L_loop qM_L_121 rfl rfl hl9.1 (Nat.le_of_ble_eq_true rfl) ⟨⟨Nat.le_of_ble_eq_true rfl, Nat.le_of_ble_eq_true rfl⟩, Nat.le_of_ble_eq_true rfl, Nat.le_of_ble_eq_true rfl⟩ dL_links_728 (fun E ce q9 f8 H locs hPX hw hS hce hcv hcl => ?_) (fun v f8 H locs hP hw hS => ?_)
      · exact hPX.elim
      · obtain ⟨ev9, hC10, k11⟩ := hP
        subst ev9
        have hC10 : CXW G f8 xo ez eo bu nw0 na0 nq0 nr0 nw1 na1 nq1 nr1 bs bp bh bf bl bg S0 S1 gw0 ga0 gw1 ga1 n a cg x sa pk fl gv gh gl := hC10
        refine W.eq (g2 := F0 m 731 ls [.int (-71)]) rfl ?_
        refine lv_bipush (v := (-71)) hx hb dL_links_731 (by decide) ?_
        refine lv_icmp_eq (tgt := 738) hx hb dL_links_733 (by decide) (fun _ => ?_) (fun c9 => absurd (by decide) c9)
        refine lv_aload hx hb dL_links_738 (lv_at hl9 13 rfl) ?_
        refine lv_iload hx hb dL_links_740 (lv_at hl9 2 rfl) ?_
        refine lv_bipush (v := 7) hx hb dL_links_742 (by decide) ?_
        refine lv_iadd hx hb dL_links_744 ?_
        refine hp_c (v := 7) (by decide) ?_
        have h12 : f2 le = some (.inl (cI G, 16, .inl (jE (e8r S0.1 S0.2.1 S0.2.2.1 S0.2.2.2.1 S0.2.2.2.2.1 S0.2.2.2.2.2.1 S0.2.2.2.2.2.2.1 (nI S0.2.2.2.2.2.2.2.2.length)) (eSt S1)))) := k4 _ _ h1 (Nat.ne_of_beq_eq_false rfl) (hdos _ (List.mem_cons_of_mem _ (List.mem_cons_of_mem _ (List.mem_cons_of_mem _ (List.mem_cons_of_mem _ (List.mem_cons_of_mem _ List.mem_cons_self))))))
        have h13 : f5 le = some (.inl (cI G, 16, .inl (jE (e8r S0.1 S0.2.1 S0.2.2.1 S0.2.2.2.1 S0.2.2.2.2.1 S0.2.2.2.2.2.1 S0.2.2.2.2.2.2.1 (nI S0.2.2.2.2.2.2.2.2.length)) (eSt S1)))) := k7 _ _ h12 (Nat.ne_of_beq_eq_false rfl) (hdos _ (List.mem_cons_of_mem _ (List.mem_cons_of_mem _ (List.mem_cons_of_mem _ (List.mem_cons_of_mem _ (List.mem_cons_of_mem _ List.mem_cons_self))))))
        have h14 : f8 le = some (.inl (cI G, 16, .inl (jE (e8r S0.1 S0.2.1 S0.2.2.1 S0.2.2.2.1 S0.2.2.2.2.1 S0.2.2.2.2.2.1 S0.2.2.2.2.2.2.1 (nI S0.2.2.2.2.2.2.2.2.length)) (eSt S1)))) := k11 _ _ h13 (Nat.ne_of_beq_eq_false rfl) (hdos _ (List.mem_cons_of_mem _ (List.mem_cons_of_mem _ (List.mem_cons_of_mem _ (List.mem_cons_of_mem _ (List.mem_cons_of_mem _ List.mem_cons_self))))))
        refine hp_iald B0 hw h14 (by unfold vp_in; decide) dL_links_745 ?_
        refine hp_c (v := (nI S0.2.2.2.2.2.2.2.2.length)) (rfl) ?_
        refine lv_if_ne (tgt := 788) hx hb dL_links_746 (by decide) (fun c15 => ?_) (fun c15 => ?_)
        · obtain ⟨r, L1, hLk⟩ := len_cons c15
          have hFo : FOK b r := hSo0.2.2.2.2.2.2 r (by rw [hLk]; exact List.mem_cons_self)
          have hXk : XS xs0 (r :: L1) := by rw [← hLk]; exact hX0
          have hlk : S0.2.2.2.2.2.2.2.2.length = L1.length + 1 := by rw [hLk]; rfl
          have hbo : b ≤ 1000000 := by omega
          refine lv_aload hx hb dL_links_788 (lv_at hl9 1 rfl) ?_
          refine lv_aload hx hb dL_links_790 (lv_at hl9 13 rfl) ?_
          refine lv_iload hx hb dL_links_792 (lv_at hl9 3 rfl) ?_
          have h16 : f2 lx = some (.inl (cJ G, 64, .inr (.inl xs0))) := k4 _ _ k_lx (Nat.ne_of_beq_eq_false rfl) (hdos _ List.mem_cons_self)
          have h17 : f5 lx = some (.inl (cJ G, 64, .inr (.inl xs0))) := k7 _ _ h16 (Nat.ne_of_beq_eq_false rfl) (hdos _ List.mem_cons_self)
          have h18 : f8 lx = some (.inl (cJ G, 64, .inr (.inl xs0))) := k11 _ _ h17 (Nat.ne_of_beq_eq_false rfl) (hdos _ List.mem_cons_self)
          refine hp_S (As := [.ref lx, .ref le, .int 0]) (rest := []) B0 hw hS (c_L_pull_0 hl G f8 lx le xs0 (jE (e8r S0.1 S0.2.1 S0.2.2.1 S0.2.2.2.1 S0.2.2.2.2.1 S0.2.2.2.2.2.1 S0.2.2.2.2.2.2.1 (nI S0.2.2.2.2.2.2.2.2.length)) (eSt S1)) h18 h14 L1.length (show nI S0.2.2.2.2.2.2.2.2.length = nI (L1.length + 1) from by rw [hlk]) (by omega)) mS_L_pull qM_L_123 rfl rfl hl9.1 (Nat.le_of_ble_eq_true rfl) ⟨⟨Nat.le_of_ble_eq_true rfl, Nat.le_of_ble_eq_true rfl⟩, Nat.le_of_ble_eq_true rfl, Nat.le_of_ble_eq_true rfl⟩ dL_links_794 (fun E ce q9 f19 H locs hPX hw hS hce hcv hcl => ?_) (fun v f19 H locs hP hw hS => ?_)
          · exact hPX.elim
          · obtain ⟨ev9, h20, h21, k22⟩ := hP
            subst ev9
            rw [show (upd (jE (e8r S0.1 S0.2.1 S0.2.2.1 S0.2.2.2.1 S0.2.2.2.2.1 S0.2.2.2.2.2.1 S0.2.2.2.2.2.2.1 (nI S0.2.2.2.2.2.2.2.2.length)) (eSt S1)) 7 (nI L1.length) : Nat → Int32) = (jE (e8r S0.1 S0.2.1 S0.2.2.1 S0.2.2.2.1 S0.2.2.2.2.1 S0.2.2.2.2.2.1 S0.2.2.2.2.2.2.1 (nI L1.length)) (eSt S1)) from (by rw [jE_u0 (by omega), e8_u7])] at h21
            rw [show nI L1.length = nI (takeS S0).2.2.2.2.2.2.2.2.length from (show _ = nI S0.2.2.2.2.2.2.2.2.tail.length from by rw [hLk]; rfl)] at h21
            have h23 : f19 le = some (.inl (cI G, 16, .inl (jE (e8r ((takeS S0).1) ((takeS S0).2.1) ((takeS S0).2.2.1) ((takeS S0).2.2.2.1) ((takeS S0).2.2.2.2.1) ((takeS S0).2.2.2.2.2.1) ((takeS S0).2.2.2.2.2.2.1) (nI (takeS S0).2.2.2.2.2.2.2.2.length)) (eSt S1)))) := h21
            refine W.eq (g2 := F0 m 797 ls [.long (xs0 0)]) rfl ?_
            refine hp_cl (v := lN (pkN r)) hXk.hd ?_
            refine lv_lstore (lv' := [(14, .long (lN (pkN r))), (13, .int (nI j13)), (12, .ref lx), (11, .int 0), (10, .int 0), (0, .ref xo), (1, .int (nI ac)), (2, .int u), (3, .int z), (4, .ref lx), (5, .ref ly), (6, .ref lw), (7, .ref la), (8, .ref lq), (9, .ref le)]) hx hb dL_links_797 hl9 (by decide) rfl (fun ls hl9 => ?_)
            refine lv_lload hx hb dL_links_799 (lv_at hl9 0 rfl) ?_
            refine lv_ldc2 (v := 7) hx hb B0.2.2.2.1 (B0.2.2.2.2.1 _ qK_L_81) dL_links_801 ?_
            refine hp_cl (v := lN 7) rfl ?_
            refine lv_land hx hb dL_links_804 ?_
            refine hp_cl (v := (lN ((pkN r) % 8))) (g_mask (s := 3) (p := 8) rfl (by omega) (by first | exact pkN_lt hFo hbo | exact Nat.lt_trans (pkN_lt hFo hbo) (by decide))) ?_
            refine lv_l2i (v := (nI ((pkN r) % 8))) hx hb dL_links_805 (lN_i _) ?_
            refine hp_c (v := r.1) (by rw [pkN_k hFo hbo]; exact hFo.r1) ?_
            refine lv_istore (lv' := [(16, .int r.1), (14, .long (lN (pkN r))), (13, .int (nI j13)), (12, .ref lx), (11, .int 0), (10, .int 0), (0, .ref xo), (1, .int (nI ac)), (2, .int u), (3, .int z), (4, .ref lx), (5, .ref ly), (6, .ref lw), (7, .ref la), (8, .ref lq), (9, .ref le)]) hx hb dL_links_806 hl9 (by decide) rfl (fun ls hl9 => ?_)
            refine lv_iload_n hx hb dL_links_808 rfl (lv_at hl9 7 rfl) ?_
            refine lv_bipush (v := 22) hx hb dL_links_809 (by decide) ?_
            refine lv_icmp_ge (tgt := 858) hx hb dL_links_811 (by decide) (fun c24 => ?_) (fun c24 => ?_)
            · refine lv_aload hx hb dL_links_858 (lv_at hl9 15 rfl) ?_
              refine lv_iload hx hb dL_links_860 (lv_at hl9 4 rfl) ?_
              refine lv_iconst (v := 5) hx hb dL_links_862 (by decide) ?_
              refine lv_iadd hx hb dL_links_863 ?_
              refine hp_c (v := 5) (by decide) ?_
              refine lv_dup2_11 hx hb dL_links_864 rfl rfl ?_
              refine hp_iald B0 hw h23 (by unfold vp_in; decide) dL_links_865 ?_
              refine hp_c (v := (takeS S0).2.2.2.2.2.1) (rfl) ?_
              refine lv_iconst (v := 1) hx hb dL_links_866 (by decide) ?_
              refine lv_iadd hx hb dL_links_867 ?_
              refine hp_iast B0 hw hS h23 (by unfold vp_in; decide) dL_links_868 (fun H locs f25 ef25 hw hS => ?_)
              rw [show (upd (jE (e8r ((takeS S0).1) ((takeS S0).2.1) ((takeS S0).2.2.1) ((takeS S0).2.2.2.1) ((takeS S0).2.2.2.2.1) ((takeS S0).2.2.2.2.2.1) ((takeS S0).2.2.2.2.2.2.1) (nI (takeS S0).2.2.2.2.2.2.2.2.length)) (eSt S1)) (5 : Int32).toNatClampNeg (((takeS S0).2.2.2.2.2.1) + 1) : Nat → Int32) = (jE (e8r ((takeS S0).1) ((takeS S0).2.1) ((takeS S0).2.2.1) ((takeS S0).2.2.2.1) ((takeS S0).2.2.2.2.1) (((takeS S0).2.2.2.2.2.1) + 1) ((takeS S0).2.2.2.2.2.2.1) (nI (takeS S0).2.2.2.2.2.2.2.2.length)) (eSt S1)) from (by rw [show (5 : Int32).toNatClampNeg = 5 from rfl, jE_u0 (by omega), e8_u5])] at ef25
              have h26 : f25 le = some (.inl (cI G, 16, .inl (jE (e8r ((takeS S0).1) ((takeS S0).2.1) ((takeS S0).2.2.1) ((takeS S0).2.2.2.1) ((takeS S0).2.2.2.2.1) (((takeS S0).2.2.2.2.2.1) + 1) ((takeS S0).2.2.2.2.2.2.1) (nI (takeS S0).2.2.2.2.2.2.2.2.length)) (eSt S1)))) := by rw [ef25, va_up_self]
              have h27 : f25 le = some (.inl (cI G, 16, .inl (jE (e8r ((missS (takeS S0)).1) ((missS (takeS S0)).2.1) ((missS (takeS S0)).2.2.1) ((missS (takeS S0)).2.2.2.1) ((missS (takeS S0)).2.2.2.2.1) ((missS (takeS S0)).2.2.2.2.2.1) ((missS (takeS S0)).2.2.2.2.2.2.1) (nI (missS (takeS S0)).2.2.2.2.2.2.2.2.length)) (eSt S1)))) := h26
              refine lv_iload_n hx hb dL_links_869 rfl (lv_at hl9 7 rfl) ?_
              refine lv_bipush (v := 22) hx hb dL_links_870 (by decide) ?_
              refine lv_icmp_ne (tgt := 892) hx hb dL_links_872 (by decide) (fun c28 => ?_) (fun c28 => ?_)
              · obtain ⟨h40a, h40b⟩ := hact (fun e9 => by subst e9; exact absurd (by decide) c28)
                refine lv_lload hx hb dL_links_892 (lv_at hl9 1 rfl) ?_
                refine lv_aload hx hb dL_links_894 (lv_at hl9 3 rfl) ?_
                refine lv_aload hx hb dL_links_896 (lv_at hl9 13 rfl) ?_
                refine lv_aload hx hb dL_links_898 (lv_at hl9 14 rfl) ?_
                refine lv_aload hx hb dL_links_900 (lv_at hl9 15 rfl) ?_
                refine lv_iload hx hb dL_links_902 (lv_at hl9 5 rfl) ?_
                have h29 : f25 le = some (.inl (cI G, 16, .inl (jE (e8r ((missS (takeS S0)).1) ((missS (takeS S0)).2.1) ((missS (takeS S0)).2.2.1) ((missS (takeS S0)).2.2.2.1) ((missS (takeS S0)).2.2.2.2.1) ((missS (takeS S0)).2.2.2.2.2.1) ((missS (takeS S0)).2.2.2.2.2.2.1) (nI (missS (takeS S0)).2.2.2.2.2.2.2.2.length)) (eSt S1)))) := h27
                have h30 : f25 lx = some (.inl (cJ G, 64, .inr (.inl (pullN xs0 L1.length)))) := by rw [ef25, va_up_ne _ _ n_lx_le]; exact h20
                have h31 : f2 la = some (.inl (cI G, 12, .inl (j6r ga0 ga1))) := k4 _ _ k_la (Nat.ne_of_beq_eq_false rfl) (hdos _ (List.mem_cons_of_mem _ (List.mem_cons_of_mem _ (List.mem_cons_of_mem _ List.mem_cons_self))))
                have h32 : f5 la = some (.inl (cI G, 12, .inl (j6r ga0 ga1))) := k7 _ _ h31 (Nat.ne_of_beq_eq_false rfl) (hdos _ (List.mem_cons_of_mem _ (List.mem_cons_of_mem _ (List.mem_cons_of_mem _ List.mem_cons_self))))
                have h33 : f8 la = some (.inl (cI G, 12, .inl (j6r ga0 ga1))) := k11 _ _ h32 (Nat.ne_of_beq_eq_false rfl) (hdos _ (List.mem_cons_of_mem _ (List.mem_cons_of_mem _ (List.mem_cons_of_mem _ List.mem_cons_self))))
                have h34 : f19 la = some (.inl (cI G, 12, .inl (j6r ga0 ga1))) := (hEq.k k22) _ _ h33 (ninc (Ne.symm n_lx_la) (ninc n_la_le nin0))
                have h35 : f25 la = some (.inl (cI G, 12, .inl (j6r ga0 ga1))) := by rw [ef25, va_up_ne _ _ n_la_le]; exact h34
                have h36 : f2 lq = some (.inl (cI G, 12, .inl (j6r S0.2.2.2.2.2.2.2.1 S1.2.2.2.2.2.2.2.1))) := k4 _ _ k_lq (Nat.ne_of_beq_eq_false rfl) (hdos _ (List.mem_cons_of_mem _ (List.mem_cons_of_mem _ (List.mem_cons_of_mem _ (List.mem_cons_of_mem _ List.mem_cons_self)))))
                have h37 : f5 lq = some (.inl (cI G, 12, .inl (j6r S0.2.2.2.2.2.2.2.1 S1.2.2.2.2.2.2.2.1))) := k7 _ _ h36 (Nat.ne_of_beq_eq_false rfl) (hdos _ (List.mem_cons_of_mem _ (List.mem_cons_of_mem _ (List.mem_cons_of_mem _ (List.mem_cons_of_mem _ List.mem_cons_self)))))
                have h38 : f8 lq = some (.inl (cI G, 12, .inl (j6r S0.2.2.2.2.2.2.2.1 S1.2.2.2.2.2.2.2.1))) := k11 _ _ h37 (Nat.ne_of_beq_eq_false rfl) (hdos _ (List.mem_cons_of_mem _ (List.mem_cons_of_mem _ (List.mem_cons_of_mem _ (List.mem_cons_of_mem _ List.mem_cons_self)))))
                have h39 : f19 lq = some (.inl (cI G, 12, .inl (j6r S0.2.2.2.2.2.2.2.1 S1.2.2.2.2.2.2.2.1))) := (hEq.k k22) _ _ h38 (ninc (Ne.symm n_lx_lq) (ninc n_lq_le nin0))
                have h40 : f25 lq = some (.inl (cI G, 12, .inl (j6r S0.2.2.2.2.2.2.2.1 S1.2.2.2.2.2.2.2.1))) := by rw [ef25, va_up_ne _ _ n_lq_le]; exact h39
                refine hp_S (As := [.long (lN (pkN r)), .ref lx, .ref la, .ref lq, .ref le, .int 0]) (rest := []) B0 hw hS (c_L_take_0 hl G f25 lx la lq le (missS (takeS S0)).1 (missS (takeS S0)).2.1 (missS (takeS S0)).2.2.1 (missS (takeS S0)).2.2.2.1 (missS (takeS S0)).2.2.2.2.1 (missS (takeS S0)).2.2.2.2.2.1 (missS (takeS S0)).2.2.2.2.2.2.1 (missS (takeS S0)).2.2.2.2.2.2.2.1 (missS (takeS S0)).2.2.2.2.2.2.2.2 (eSt S1) ga0 ga1 S1.2.2.2.2.2.2.2.1 b (SOK.miss (SOK.take hSo0)) (by omega) r.1 r.2.1 r.2.2.1 r.2.2.2 hFo hga0 n_la_lq (pullN xs0 L1.length) (show XS (pullN xs0 L1.length) (takeS S0).2.2.2.2.2.2.2.2 from (show XS _ S0.2.2.2.2.2.2.2.2.tail from by rw [hLk]; exact hXk.tail)) (Nat.lt_of_le_of_lt (Nat.le_trans (takeS_len S0) hl0) (by decide)) h30 h35 h40 h29) mS_L_take qM_L_127 rfl rfl hl9.1 (Nat.le_of_ble_eq_true rfl) ⟨⟨Nat.le_of_ble_eq_true rfl, Nat.le_of_ble_eq_true rfl⟩, Nat.le_of_ble_eq_true rfl, Nat.le_of_ble_eq_true rfl⟩ dL_links_904 (fun E ce q9 f41 H locs hPX hw hS hce hcv hcl => ?_) (fun v f41 H locs hP hw hS => ?_)
                · exact hPX.elim
                · obtain ⟨ev9, ⟨xs42, h43, hX44⟩, h45, h46, k47⟩ := hP
                  subst ev9
                  have h45 : f41 lq = some (.inl (cI G, 12, .inl (j6r (hearF ga0 r (missS (takeS S0))).2.2.2.2.2.2.2.1 S1.2.2.2.2.2.2.2.1))) := h45
                  have h48 : f41 le = some (.inl (cI G, 16, .inl (jE (e8r ((hearF ga0 r (missS (takeS S0))).1) ((hearF ga0 r (missS (takeS S0))).2.1) ((hearF ga0 r (missS (takeS S0))).2.2.1) ((hearF ga0 r (missS (takeS S0))).2.2.2.1) ((hearF ga0 r (missS (takeS S0))).2.2.2.2.1) ((hearF ga0 r (missS (takeS S0))).2.2.2.2.2.1) ((hearF ga0 r (missS (takeS S0))).2.2.2.2.2.2.1) (nI (hearF ga0 r (missS (takeS S0))).2.2.2.2.2.2.2.2.length)) (eSt S1)))) := h46
                  refine W.eq (g2 := F0 m 907 ls []) rfl ?_
                  refine lv_aload_n hx hb dL_links_907 rfl (lv_at hl9 6 rfl) ?_
                  refine lv_iload hx hb dL_links_908 (lv_at hl9 5 rfl) ?_
                  have h49 : f2 ly = some (.inl (cJ G, 64, .inr (.inl xs1))) := k4 _ _ k_ly (Nat.ne_of_beq_eq_false rfl) (hdos _ (List.mem_cons_of_mem _ List.mem_cons_self))
                  have h50 : f5 ly = some (.inl (cJ G, 64, .inr (.inl xs1))) := k7 _ _ h49 (Nat.ne_of_beq_eq_false rfl) (hdos _ (List.mem_cons_of_mem _ List.mem_cons_self))
                  have h51 : f8 ly = some (.inl (cJ G, 64, .inr (.inl xs1))) := k11 _ _ h50 (Nat.ne_of_beq_eq_false rfl) (hdos _ (List.mem_cons_of_mem _ List.mem_cons_self))
                  have h52 : f2 lw = some (.inl (cI G, 12, .inl (j6r gw0 gw1))) := k4 _ _ k_lw (Nat.ne_of_beq_eq_false rfl) (hdos _ (List.mem_cons_of_mem _ (List.mem_cons_of_mem _ List.mem_cons_self)))
                  have h53 : f5 lw = some (.inl (cI G, 12, .inl (j6r gw0 gw1))) := k7 _ _ h52 (Nat.ne_of_beq_eq_false rfl) (hdos _ (List.mem_cons_of_mem _ (List.mem_cons_of_mem _ List.mem_cons_self)))
                  have h54 : f8 lw = some (.inl (cI G, 12, .inl (j6r gw0 gw1))) := k11 _ _ h53 (Nat.ne_of_beq_eq_false rfl) (hdos _ (List.mem_cons_of_mem _ (List.mem_cons_of_mem _ List.mem_cons_self)))
                  have h55 : f19 ly = some (.inl (cJ G, 64, .inr (.inl xs1))) := (hEq.k k22) _ _ h51 (ninc (Ne.symm n_lx_ly) (ninc n_ly_le nin0))
                  have h56 : f25 ly = some (.inl (cJ G, 64, .inr (.inl xs1))) := by rw [ef25, va_up_ne _ _ n_ly_le]; exact h55
                  have h57 : f41 ly = some (.inl (cJ G, 64, .inr (.inl xs1))) := (hEq.k k47) _ _ h56 (ninc (Ne.symm n_lx_ly) (ninc n_ly_lq (ninc n_ly_le nin0)))
                  have h58 : f19 lw = some (.inl (cI G, 12, .inl (j6r gw0 gw1))) := (hEq.k k22) _ _ h54 (ninc (Ne.symm n_lx_lw) (ninc n_lw_le nin0))
                  have h59 : f25 lw = some (.inl (cI G, 12, .inl (j6r gw0 gw1))) := by rw [ef25, va_up_ne _ _ n_lw_le]; exact h58
                  have h60 : f41 lw = some (.inl (cI G, 12, .inl (j6r gw0 gw1))) := (hEq.k k47) _ _ h59 (ninc (Ne.symm n_lx_lw) (ninc n_lw_lq (ninc n_lw_le nin0)))
                  have h61 : f41 la = some (.inl (cI G, 12, .inl (j6r ga0 ga1))) := (hEq.k k47) _ _ h35 (ninc (Ne.symm n_lx_la) (ninc n_la_lq (ninc n_la_le nin0)))
                  have hC62 : CXW G f41 xo ez eo bu nw0 na0 nq0 nr0 nw1 na1 nq1 nr1 bs bp bh bf bl bg S0 S1 gw0 ga0 gw1 ga1 n a cg x sa pk fl gv gh gl := CXW.eq hC10 ((show hEq [lx, ly, lw, la, lq, le] f8 f19 from (hEq.mono k22 (sub_cons List.mem_cons_self (sub_cons (List.mem_cons_of_mem _ (List.mem_cons_of_mem _ (List.mem_cons_of_mem _ (List.mem_cons_of_mem _ (List.mem_cons_of_mem _ List.mem_cons_self))))) sub_nil)))).tr ((show hEq [lx, ly, lw, la, lq, le] f19 f25 from (by rw [ef25]; exact hEq.up (List.mem_cons_of_mem _ (List.mem_cons_of_mem _ (List.mem_cons_of_mem _ (List.mem_cons_of_mem _ (List.mem_cons_of_mem _ List.mem_cons_self))))))).tr (show hEq [lx, ly, lw, la, lq, le] f25 f41 from (hEq.mono k47 (sub_cons List.mem_cons_self (sub_cons (List.mem_cons_of_mem _ (List.mem_cons_of_mem _ (List.mem_cons_of_mem _ (List.mem_cons_of_mem _ List.mem_cons_self)))) (sub_cons (List.mem_cons_of_mem _ (List.mem_cons_of_mem _ (List.mem_cons_of_mem _ (List.mem_cons_of_mem _ (List.mem_cons_of_mem _ List.mem_cons_self))))) sub_nil))))))) hdis (fun b9 hb9 => by
                      simp only [List.mem_cons, List.not_mem_nil, or_false] at hb9
                      rcases hb9 with hb9 | hb9 | hb9 | hb9 | hb9 | hb9
                      · rw [hb9]; exact ⟨_, _, h18, h43, (Nat.ne_of_beq_eq_false rfl), (Nat.ne_of_beq_eq_false rfl)⟩
                      · rw [hb9]; exact ⟨_, _, h51, h57, (Nat.ne_of_beq_eq_false rfl), (Nat.ne_of_beq_eq_false rfl)⟩
                      · rw [hb9]; exact ⟨_, _, h54, h60, (Nat.ne_of_beq_eq_false rfl), (Nat.ne_of_beq_eq_false rfl)⟩
                      · rw [hb9]; exact ⟨_, _, h33, h61, (Nat.ne_of_beq_eq_false rfl), (Nat.ne_of_beq_eq_false rfl)⟩
                      · rw [hb9]; exact ⟨_, _, h38, h45, (Nat.ne_of_beq_eq_false rfl), (Nat.ne_of_beq_eq_false rfl)⟩
                      · rw [hb9]; exact ⟨_, _, h14, h48, (Nat.ne_of_beq_eq_false rfl), (Nat.ne_of_beq_eq_false rfl)⟩)
                  refine hp_SH (As := [.ref xo, .int 0]) (rest := []) B0 hw hS (c_V_loop_0 hl G f41 xo ez eo bu nw0 na0 nq0 nr0 nw1 na1 nq1 nr1 bs bp bh bf bl bg S0 S1 gw0 ga0 gw1 ga1 n a cg x sa pk fl gv gh gl hC62 (Nat.lt_of_le_of_lt hl0 (by decide)) (Nat.lt_of_le_of_lt hl1 (by decide)) (by rw [hLk]; exact fun h9 => nomatch h9)) mH_L_loop qM_L_121 rfl rfl hl9.1 (Nat.le_of_ble_eq_true rfl) ⟨⟨Nat.le_of_ble_eq_true rfl, Nat.le_of_ble_eq_true rfl⟩, Nat.le_of_ble_eq_true rfl, Nat.le_of_ble_eq_true rfl⟩ dL_links_910 (fun E ce q9 f63 H locs hPX hw hS hce hcv hcl => ?_) (fun v f63 H locs hP hw hS => ?_)
                  · exact hPX.elim
                  · obtain ⟨r9, L9, eL9, ev9, hC64, k65⟩ := hP
                    obtain ⟨er9, -⟩ := List.cons.inj (eL9.symm.trans hLk)
                    rw [er9] at ev9
                    try rw [er9] at hC64
                    subst ev9
                    have hC64 : CXW G f63 xo ez eo bu nw0 na0 nq0 nr0 nw1 na1 nq1 nr1 bs bp bh bf bl bg (hearF ga0 r (missS (takeS S0))) S1 gw0 ga0 gw1 ga1 n a cg x sa pk fl gv gh gl := hC64
                    refine W.eq (g2 := F0 m 913 ls [.int r.1]) rfl ?_
                    refine lv_iload hx hb dL_links_913 (lv_at hl9 0 rfl) ?_
                    refine lv_icmp_ne (tgt := 922) hx hb dL_links_915 (by decide) (fun c9 => absurd rfl c9) (fun _ => ?_)
                    refine lv_iconst (v := 1) hx hb dL_links_918 (by decide) ?_
                    refine lv_goto (tgt := 923) hx hb dL_links_919 (by decide) ?_
                    have h66 : f63 lx = some (.inl (cJ G, 64, .inr (.inl xs42))) := k65 _ _ h43 (Nat.ne_of_beq_eq_false rfl) (hdos _ List.mem_cons_self)
                    have h67 : f63 ly = some (.inl (cJ G, 64, .inr (.inl xs1))) := k65 _ _ h57 (Nat.ne_of_beq_eq_false rfl) (hdos _ (List.mem_cons_of_mem _ List.mem_cons_self))
                    have h68 : f63 lw = some (.inl (cI G, 12, .inl (j6r gw0 gw1))) := k65 _ _ h60 (Nat.ne_of_beq_eq_false rfl) (hdos _ (List.mem_cons_of_mem _ (List.mem_cons_of_mem _ List.mem_cons_self)))
                    have h69 : f63 la = some (.inl (cI G, 12, .inl (j6r ga0 ga1))) := k65 _ _ h61 (Nat.ne_of_beq_eq_false rfl) (hdos _ (List.mem_cons_of_mem _ (List.mem_cons_of_mem _ (List.mem_cons_of_mem _ List.mem_cons_self))))
                    have h70 : f63 lq = some (.inl (cI G, 12, .inl (j6r (hearF ga0 r (missS (takeS S0))).2.2.2.2.2.2.2.1 S1.2.2.2.2.2.2.2.1))) := k65 _ _ h45 (Nat.ne_of_beq_eq_false rfl) (hdos _ (List.mem_cons_of_mem _ (List.mem_cons_of_mem _ (List.mem_cons_of_mem _ (List.mem_cons_of_mem _ List.mem_cons_self)))))
                    have h71 : f63 le = some (.inl (cI G, 16, .inl (jE (e8r ((hearF ga0 r (missS (takeS S0))).1) ((hearF ga0 r (missS (takeS S0))).2.1) ((hearF ga0 r (missS (takeS S0))).2.2.1) ((hearF ga0 r (missS (takeS S0))).2.2.2.1) ((hearF ga0 r (missS (takeS S0))).2.2.2.2.1) ((hearF ga0 r (missS (takeS S0))).2.2.2.2.2.1) ((hearF ga0 r (missS (takeS S0))).2.2.2.2.2.2.1) (nI (hearF ga0 r (missS (takeS S0))).2.2.2.2.2.2.2.2.length)) (eSt S1)))) := k65 _ _ h48 (Nat.ne_of_beq_eq_false rfl) (hdos _ (List.mem_cons_of_mem _ (List.mem_cons_of_mem _ (List.mem_cons_of_mem _ (List.mem_cons_of_mem _ (List.mem_cons_of_mem _ List.mem_cons_self))))))
                    exact hp_zret (v := 1) B0 hw hS hr ⟨Nat.le_of_ble_eq_true rfl, Nat.le_of_ble_eq_true rfl⟩ (rfl) dL_links_923 (⟨rfl, (hearF ga0 r (missS (takeS S0))), S1, gw0, ga0, gw1, ga1, hC64, ⟨⟨_, h66, (show XS xs42 (hearF ga0 r (missS (takeS S0))).2.2.2.2.2.2.2.2 from hX44)⟩, ⟨_, h67, hX1⟩, h68, h69, h70, h71⟩, ⟨SOK.mono (SOK.hear (SOK.miss (SOK.take hSo0)) (by omega) hFo) (by omega), SOK.mono hSo1 (by omega), hgw0, hga0, hgw1, hga1⟩, (Nat.le_trans (hearF_len ga0 r (missS (takeS S0))) (Nat.le_trans (Nat.add_le_add_right (takeS_len S0) 2) (by omega))), hl1, ((show hKn [lx, ly, lw, la, lq, le, xo, ez, eo, bu, nw0, na0, nq0, nr0, nw1, na1, nq1, nr1, bs, bp, bh, bf, bl, bg] f f2 from (hKn.mono k4 sbA)).tr ((show hKn [lx, ly, lw, la, lq, le, xo, ez, eo, bu, nw0, na0, nq0, nr0, nw1, na1, nq1, nr1, bs, bp, bh, bf, bl, bg] f2 f5 from (hKn.mono k7 sbA)).tr ((show hKn [lx, ly, lw, la, lq, le, xo, ez, eo, bu, nw0, na0, nq0, nr0, nw1, na1, nq1, nr1, bs, bp, bh, bf, bl, bg] f5 f8 from (hKn.mono k11 sbA)).tr ((show hKn [lx, ly, lw, la, lq, le, xo, ez, eo, bu, nw0, na0, nq0, nr0, nw1, na1, nq1, nr1, bs, bp, bh, bf, bl, bg] f8 f19 from (hKn.mono (hKn.eq k22) (sub_cons List.mem_cons_self (sub_cons (List.mem_cons_of_mem _ (List.mem_cons_of_mem _ (List.mem_cons_of_mem _ (List.mem_cons_of_mem _ (List.mem_cons_of_mem _ List.mem_cons_self))))) sub_nil)))).tr ((show hKn [lx, ly, lw, la, lq, le, xo, ez, eo, bu, nw0, na0, nq0, nr0, nw1, na1, nq1, nr1, bs, bp, bh, bf, bl, bg] f19 f25 from (by rw [ef25]; exact hKn.up (List.mem_cons_of_mem _ (List.mem_cons_of_mem _ (List.mem_cons_of_mem _ (List.mem_cons_of_mem _ (List.mem_cons_of_mem _ List.mem_cons_self))))))).tr ((show hKn [lx, ly, lw, la, lq, le, xo, ez, eo, bu, nw0, na0, nq0, nr0, nw1, na1, nq1, nr1, bs, bp, bh, bf, bl, bg] f25 f41 from (hKn.mono (hKn.eq k47) (sub_cons List.mem_cons_self (sub_cons (List.mem_cons_of_mem _ (List.mem_cons_of_mem _ (List.mem_cons_of_mem _ (List.mem_cons_of_mem _ List.mem_cons_self)))) (sub_cons (List.mem_cons_of_mem _ (List.mem_cons_of_mem _ (List.mem_cons_of_mem _ (List.mem_cons_of_mem _ (List.mem_cons_of_mem _ List.mem_cons_self))))) sub_nil))))).tr (show hKn [lx, ly, lw, la, lq, le, xo, ez, eo, bu, nw0, na0, nq0, nr0, nw1, na1, nq1, nr1, bs, bp, bh, bf, bl, bg] f41 f63 from (hKn.mono k65 sbA))))))))⟩)
              · refine lv_aload_n hx hb dL_links_875 rfl (lv_at hl9 6 rfl) ?_
                refine lv_iload hx hb dL_links_876 (lv_at hl9 5 rfl) ?_
                have h72 : f2 ly = some (.inl (cJ G, 64, .inr (.inl xs1))) := k4 _ _ k_ly (Nat.ne_of_beq_eq_false rfl) (hdos _ (List.mem_cons_of_mem _ List.mem_cons_self))
                have h73 : f5 ly = some (.inl (cJ G, 64, .inr (.inl xs1))) := k7 _ _ h72 (Nat.ne_of_beq_eq_false rfl) (hdos _ (List.mem_cons_of_mem _ List.mem_cons_self))
                have h74 : f8 ly = some (.inl (cJ G, 64, .inr (.inl xs1))) := k11 _ _ h73 (Nat.ne_of_beq_eq_false rfl) (hdos _ (List.mem_cons_of_mem _ List.mem_cons_self))
                have h75 : f2 lw = some (.inl (cI G, 12, .inl (j6r gw0 gw1))) := k4 _ _ k_lw (Nat.ne_of_beq_eq_false rfl) (hdos _ (List.mem_cons_of_mem _ (List.mem_cons_of_mem _ List.mem_cons_self)))
                have h76 : f5 lw = some (.inl (cI G, 12, .inl (j6r gw0 gw1))) := k7 _ _ h75 (Nat.ne_of_beq_eq_false rfl) (hdos _ (List.mem_cons_of_mem _ (List.mem_cons_of_mem _ List.mem_cons_self)))
                have h77 : f8 lw = some (.inl (cI G, 12, .inl (j6r gw0 gw1))) := k11 _ _ h76 (Nat.ne_of_beq_eq_false rfl) (hdos _ (List.mem_cons_of_mem _ (List.mem_cons_of_mem _ List.mem_cons_self)))
                have h78 : f2 la = some (.inl (cI G, 12, .inl (j6r ga0 ga1))) := k4 _ _ k_la (Nat.ne_of_beq_eq_false rfl) (hdos _ (List.mem_cons_of_mem _ (List.mem_cons_of_mem _ (List.mem_cons_of_mem _ List.mem_cons_self))))
                have h79 : f5 la = some (.inl (cI G, 12, .inl (j6r ga0 ga1))) := k7 _ _ h78 (Nat.ne_of_beq_eq_false rfl) (hdos _ (List.mem_cons_of_mem _ (List.mem_cons_of_mem _ (List.mem_cons_of_mem _ List.mem_cons_self))))
                have h80 : f8 la = some (.inl (cI G, 12, .inl (j6r ga0 ga1))) := k11 _ _ h79 (Nat.ne_of_beq_eq_false rfl) (hdos _ (List.mem_cons_of_mem _ (List.mem_cons_of_mem _ (List.mem_cons_of_mem _ List.mem_cons_self))))
                have h81 : f2 lq = some (.inl (cI G, 12, .inl (j6r S0.2.2.2.2.2.2.2.1 S1.2.2.2.2.2.2.2.1))) := k4 _ _ k_lq (Nat.ne_of_beq_eq_false rfl) (hdos _ (List.mem_cons_of_mem _ (List.mem_cons_of_mem _ (List.mem_cons_of_mem _ (List.mem_cons_of_mem _ List.mem_cons_self)))))
                have h82 : f5 lq = some (.inl (cI G, 12, .inl (j6r S0.2.2.2.2.2.2.2.1 S1.2.2.2.2.2.2.2.1))) := k7 _ _ h81 (Nat.ne_of_beq_eq_false rfl) (hdos _ (List.mem_cons_of_mem _ (List.mem_cons_of_mem _ (List.mem_cons_of_mem _ (List.mem_cons_of_mem _ List.mem_cons_self)))))
                have h83 : f8 lq = some (.inl (cI G, 12, .inl (j6r S0.2.2.2.2.2.2.2.1 S1.2.2.2.2.2.2.2.1))) := k11 _ _ h82 (Nat.ne_of_beq_eq_false rfl) (hdos _ (List.mem_cons_of_mem _ (List.mem_cons_of_mem _ (List.mem_cons_of_mem _ (List.mem_cons_of_mem _ List.mem_cons_self)))))
                have h84 : f25 lx = some (.inl (cJ G, 64, .inr (.inl (pullN xs0 L1.length)))) := by rw [ef25, va_up_ne _ _ n_lx_le]; exact h20
                have h85 : f19 ly = some (.inl (cJ G, 64, .inr (.inl xs1))) := (hEq.k k22) _ _ h74 (ninc (Ne.symm n_lx_ly) (ninc n_ly_le nin0))
                have h86 : f25 ly = some (.inl (cJ G, 64, .inr (.inl xs1))) := by rw [ef25, va_up_ne _ _ n_ly_le]; exact h85
                have h87 : f19 lw = some (.inl (cI G, 12, .inl (j6r gw0 gw1))) := (hEq.k k22) _ _ h77 (ninc (Ne.symm n_lx_lw) (ninc n_lw_le nin0))
                have h88 : f25 lw = some (.inl (cI G, 12, .inl (j6r gw0 gw1))) := by rw [ef25, va_up_ne _ _ n_lw_le]; exact h87
                have h89 : f19 la = some (.inl (cI G, 12, .inl (j6r ga0 ga1))) := (hEq.k k22) _ _ h80 (ninc (Ne.symm n_lx_la) (ninc n_la_le nin0))
                have h90 : f25 la = some (.inl (cI G, 12, .inl (j6r ga0 ga1))) := by rw [ef25, va_up_ne _ _ n_la_le]; exact h89
                have h91 : f19 lq = some (.inl (cI G, 12, .inl (j6r S0.2.2.2.2.2.2.2.1 S1.2.2.2.2.2.2.2.1))) := (hEq.k k22) _ _ h83 (ninc (Ne.symm n_lx_lq) (ninc n_lq_le nin0))
                have h92 : f25 lq = some (.inl (cI G, 12, .inl (j6r S0.2.2.2.2.2.2.2.1 S1.2.2.2.2.2.2.2.1))) := by rw [ef25, va_up_ne _ _ n_lq_le]; exact h91
                have hC93 : CXW G f25 xo ez eo bu nw0 na0 nq0 nr0 nw1 na1 nq1 nr1 bs bp bh bf bl bg S0 S1 gw0 ga0 gw1 ga1 n a cg x sa pk fl gv gh gl := CXW.eq hC10 ((show hEq [lx, ly, lw, la, lq, le] f8 f19 from (hEq.mono k22 (sub_cons List.mem_cons_self (sub_cons (List.mem_cons_of_mem _ (List.mem_cons_of_mem _ (List.mem_cons_of_mem _ (List.mem_cons_of_mem _ (List.mem_cons_of_mem _ List.mem_cons_self))))) sub_nil)))).tr (show hEq [lx, ly, lw, la, lq, le] f19 f25 from (by rw [ef25]; exact hEq.up (List.mem_cons_of_mem _ (List.mem_cons_of_mem _ (List.mem_cons_of_mem _ (List.mem_cons_of_mem _ (List.mem_cons_of_mem _ List.mem_cons_self)))))))) hdis (fun b9 hb9 => by
                    simp only [List.mem_cons, List.not_mem_nil, or_false] at hb9
                    rcases hb9 with hb9 | hb9 | hb9 | hb9 | hb9 | hb9
                    · rw [hb9]; exact ⟨_, _, h18, h84, (Nat.ne_of_beq_eq_false rfl), (Nat.ne_of_beq_eq_false rfl)⟩
                    · rw [hb9]; exact ⟨_, _, h74, h86, (Nat.ne_of_beq_eq_false rfl), (Nat.ne_of_beq_eq_false rfl)⟩
                    · rw [hb9]; exact ⟨_, _, h77, h88, (Nat.ne_of_beq_eq_false rfl), (Nat.ne_of_beq_eq_false rfl)⟩
                    · rw [hb9]; exact ⟨_, _, h80, h90, (Nat.ne_of_beq_eq_false rfl), (Nat.ne_of_beq_eq_false rfl)⟩
                    · rw [hb9]; exact ⟨_, _, h83, h92, (Nat.ne_of_beq_eq_false rfl), (Nat.ne_of_beq_eq_false rfl)⟩
                    · rw [hb9]; exact ⟨_, _, h14, h27, (Nat.ne_of_beq_eq_false rfl), (Nat.ne_of_beq_eq_false rfl)⟩)
                refine hp_SH (As := [.ref xo, .int 0]) (rest := []) B0 hw hS (c_V_lose_0 hl G f25 xo ez eo bu nw0 na0 nq0 nr0 nw1 na1 nq1 nr1 bs bp bh bf bl bg S0 S1 gw0 ga0 gw1 ga1 n a cg x sa pk fl gv gh gl hC93 (Nat.lt_of_le_of_lt hl0 (by decide)) (Nat.lt_of_le_of_lt hl1 (by decide)) (by rw [hLk]; exact fun h9 => nomatch h9)) mH_L_lose qM_L_119 rfl rfl hl9.1 (Nat.le_of_ble_eq_true rfl) ⟨⟨Nat.le_of_ble_eq_true rfl, Nat.le_of_ble_eq_true rfl⟩, Nat.le_of_ble_eq_true rfl, Nat.le_of_ble_eq_true rfl⟩ dL_links_878 (fun E ce q9 f94 H locs hPX hw hS hce hcv hcl => ?_) (fun v f94 H locs hP hw hS => ?_)
                · exact hPX.elim
                · obtain ⟨r9, L9, eL9, ev9, hC95, k96⟩ := hP
                  obtain ⟨er9, -⟩ := List.cons.inj (eL9.symm.trans hLk)
                  rw [er9] at ev9
                  try rw [er9] at hC95
                  subst ev9
                  have hC95 : CXW G f94 xo ez eo bu nw0 na0 nq0 nr0 nw1 na1 nq1 nr1 bs bp bh bf bl bg (missS (takeS S0)) S1 gw0 ga0 gw1 ga1 n a cg x sa pk fl gv gh gl := hC95
                  refine W.eq (g2 := F0 m 881 ls [.int r.1]) rfl ?_
                  refine lv_iload hx hb dL_links_881 (lv_at hl9 0 rfl) ?_
                  refine lv_icmp_ne (tgt := 890) hx hb dL_links_883 (by decide) (fun c9 => absurd rfl c9) (fun _ => ?_)
                  refine lv_iconst (v := 1) hx hb dL_links_886 (by decide) ?_
                  refine lv_goto (tgt := 891) hx hb dL_links_887 (by decide) ?_
                  have h97 : f94 lx = some (.inl (cJ G, 64, .inr (.inl (pullN xs0 L1.length)))) := k96 _ _ h84 (Nat.ne_of_beq_eq_false rfl) (hdos _ List.mem_cons_self)
                  have h98 : f94 ly = some (.inl (cJ G, 64, .inr (.inl xs1))) := k96 _ _ h86 (Nat.ne_of_beq_eq_false rfl) (hdos _ (List.mem_cons_of_mem _ List.mem_cons_self))
                  have h99 : f94 lw = some (.inl (cI G, 12, .inl (j6r gw0 gw1))) := k96 _ _ h88 (Nat.ne_of_beq_eq_false rfl) (hdos _ (List.mem_cons_of_mem _ (List.mem_cons_of_mem _ List.mem_cons_self)))
                  have h100 : f94 la = some (.inl (cI G, 12, .inl (j6r ga0 ga1))) := k96 _ _ h90 (Nat.ne_of_beq_eq_false rfl) (hdos _ (List.mem_cons_of_mem _ (List.mem_cons_of_mem _ (List.mem_cons_of_mem _ List.mem_cons_self))))
                  have h101 : f94 lq = some (.inl (cI G, 12, .inl (j6r S0.2.2.2.2.2.2.2.1 S1.2.2.2.2.2.2.2.1))) := k96 _ _ h92 (Nat.ne_of_beq_eq_false rfl) (hdos _ (List.mem_cons_of_mem _ (List.mem_cons_of_mem _ (List.mem_cons_of_mem _ (List.mem_cons_of_mem _ List.mem_cons_self)))))
                  have h102 : f94 le = some (.inl (cI G, 16, .inl (jE (e8r ((missS (takeS S0)).1) ((missS (takeS S0)).2.1) ((missS (takeS S0)).2.2.1) ((missS (takeS S0)).2.2.2.1) ((missS (takeS S0)).2.2.2.2.1) ((missS (takeS S0)).2.2.2.2.2.1) ((missS (takeS S0)).2.2.2.2.2.2.1) (nI (missS (takeS S0)).2.2.2.2.2.2.2.2.length)) (eSt S1)))) := k96 _ _ h27 (Nat.ne_of_beq_eq_false rfl) (hdos _ (List.mem_cons_of_mem _ (List.mem_cons_of_mem _ (List.mem_cons_of_mem _ (List.mem_cons_of_mem _ (List.mem_cons_of_mem _ List.mem_cons_self))))))
                  exact hp_zret (v := 1) B0 hw hS hr ⟨Nat.le_of_ble_eq_true rfl, Nat.le_of_ble_eq_true rfl⟩ (rfl) dL_links_891 (⟨rfl, (missS (takeS S0)), S1, gw0, ga0, gw1, ga1, hC95, ⟨⟨_, h97, (show XS (pullN xs0 L1.length) (takeS S0).2.2.2.2.2.2.2.2 from (show XS _ S0.2.2.2.2.2.2.2.2.tail from by rw [hLk]; exact hXk.tail))⟩, ⟨_, h98, hX1⟩, h99, h100, h101, h102⟩, ⟨SOK.mono (SOK.miss (SOK.take hSo0)) (by omega), SOK.mono hSo1 (by omega), hgw0, hga0, hgw1, hga1⟩, (Nat.le_trans (takeS_len S0) hl0), hl1, ((show hKn [lx, ly, lw, la, lq, le, xo, ez, eo, bu, nw0, na0, nq0, nr0, nw1, na1, nq1, nr1, bs, bp, bh, bf, bl, bg] f f2 from (hKn.mono k4 sbA)).tr ((show hKn [lx, ly, lw, la, lq, le, xo, ez, eo, bu, nw0, na0, nq0, nr0, nw1, na1, nq1, nr1, bs, bp, bh, bf, bl, bg] f2 f5 from (hKn.mono k7 sbA)).tr ((show hKn [lx, ly, lw, la, lq, le, xo, ez, eo, bu, nw0, na0, nq0, nr0, nw1, na1, nq1, nr1, bs, bp, bh, bf, bl, bg] f5 f8 from (hKn.mono k11 sbA)).tr ((show hKn [lx, ly, lw, la, lq, le, xo, ez, eo, bu, nw0, na0, nq0, nr0, nw1, na1, nq1, nr1, bs, bp, bh, bf, bl, bg] f8 f19 from (hKn.mono (hKn.eq k22) (sub_cons List.mem_cons_self (sub_cons (List.mem_cons_of_mem _ (List.mem_cons_of_mem _ (List.mem_cons_of_mem _ (List.mem_cons_of_mem _ (List.mem_cons_of_mem _ List.mem_cons_self))))) sub_nil)))).tr ((show hKn [lx, ly, lw, la, lq, le, xo, ez, eo, bu, nw0, na0, nq0, nr0, nw1, na1, nq1, nr1, bs, bp, bh, bf, bl, bg] f19 f25 from (by rw [ef25]; exact hKn.up (List.mem_cons_of_mem _ (List.mem_cons_of_mem _ (List.mem_cons_of_mem _ (List.mem_cons_of_mem _ (List.mem_cons_of_mem _ List.mem_cons_self))))))).tr (show hKn [lx, ly, lw, la, lq, le, xo, ez, eo, bu, nw0, na0, nq0, nr0, nw1, na1, nq1, nr1, bs, bp, bh, bf, bl, bg] f25 f94 from (hKn.mono k96 sbA)))))))⟩)
            · obtain ⟨h40a, h40b⟩ := hact (fun e9 => by subst e9; exact absurd (by decide) c24)
              refine lv_lload hx hb dL_links_814 (lv_at hl9 1 rfl) ?_
              refine lv_iload hx hb dL_links_816 (lv_at hl9 5 rfl) ?_
              refine lv_if_ne (tgt := 826) hx hb dL_links_818 (by decide) (fun c9 => absurd (by decide) c9) (fun _ => ?_)
              refine lv_aload hx hb dL_links_821 (lv_at hl9 11 rfl) ?_
              refine lv_goto (tgt := 828) hx hb dL_links_823 (by decide) ?_
              refine lv_aload hx hb dL_links_828 (lv_at hl9 13 rfl) ?_
              refine lv_aload hx hb dL_links_830 (lv_at hl9 14 rfl) ?_
              refine lv_aload hx hb dL_links_832 (lv_at hl9 15 rfl) ?_
              refine lv_iconst (v := 1) hx hb dL_links_834 (by decide) ?_
              refine lv_iload hx hb dL_links_835 (lv_at hl9 5 rfl) ?_
              refine lv_isub hx hb dL_links_837 ?_
              refine hp_c (v := 1) (by decide) ?_
              have h103 : f19 le = some (.inl (cI G, 16, .inl (jE (eSt (takeS S0)) (e8r S1.1 S1.2.1 S1.2.2.1 S1.2.2.2.1 S1.2.2.2.2.1 S1.2.2.2.2.2.1 S1.2.2.2.2.2.2.1 (nI S1.2.2.2.2.2.2.2.2.length))))) := h23
              have h104 : f2 ly = some (.inl (cJ G, 64, .inr (.inl xs1))) := k4 _ _ k_ly (Nat.ne_of_beq_eq_false rfl) (hdos _ (List.mem_cons_of_mem _ List.mem_cons_self))
              have h105 : f5 ly = some (.inl (cJ G, 64, .inr (.inl xs1))) := k7 _ _ h104 (Nat.ne_of_beq_eq_false rfl) (hdos _ (List.mem_cons_of_mem _ List.mem_cons_self))
              have h106 : f8 ly = some (.inl (cJ G, 64, .inr (.inl xs1))) := k11 _ _ h105 (Nat.ne_of_beq_eq_false rfl) (hdos _ (List.mem_cons_of_mem _ List.mem_cons_self))
              have h107 : f19 ly = some (.inl (cJ G, 64, .inr (.inl xs1))) := (hEq.k k22) _ _ h106 (ninc (Ne.symm n_lx_ly) (ninc n_ly_le nin0))
              have h108 : f2 la = some (.inl (cI G, 12, .inl (j6r ga0 ga1))) := k4 _ _ k_la (Nat.ne_of_beq_eq_false rfl) (hdos _ (List.mem_cons_of_mem _ (List.mem_cons_of_mem _ (List.mem_cons_of_mem _ List.mem_cons_self))))
              have h109 : f5 la = some (.inl (cI G, 12, .inl (j6r ga0 ga1))) := k7 _ _ h108 (Nat.ne_of_beq_eq_false rfl) (hdos _ (List.mem_cons_of_mem _ (List.mem_cons_of_mem _ (List.mem_cons_of_mem _ List.mem_cons_self))))
              have h110 : f8 la = some (.inl (cI G, 12, .inl (j6r ga0 ga1))) := k11 _ _ h109 (Nat.ne_of_beq_eq_false rfl) (hdos _ (List.mem_cons_of_mem _ (List.mem_cons_of_mem _ (List.mem_cons_of_mem _ List.mem_cons_self))))
              have h111 : f19 la = some (.inl (cI G, 12, .inl (j6r ga0 ga1))) := (hEq.k k22) _ _ h110 (ninc (Ne.symm n_lx_la) (ninc n_la_le nin0))
              have h112 : f2 lq = some (.inl (cI G, 12, .inl (j6r S0.2.2.2.2.2.2.2.1 S1.2.2.2.2.2.2.2.1))) := k4 _ _ k_lq (Nat.ne_of_beq_eq_false rfl) (hdos _ (List.mem_cons_of_mem _ (List.mem_cons_of_mem _ (List.mem_cons_of_mem _ (List.mem_cons_of_mem _ List.mem_cons_self)))))
              have h113 : f5 lq = some (.inl (cI G, 12, .inl (j6r S0.2.2.2.2.2.2.2.1 S1.2.2.2.2.2.2.2.1))) := k7 _ _ h112 (Nat.ne_of_beq_eq_false rfl) (hdos _ (List.mem_cons_of_mem _ (List.mem_cons_of_mem _ (List.mem_cons_of_mem _ (List.mem_cons_of_mem _ List.mem_cons_self)))))
              have h114 : f8 lq = some (.inl (cI G, 12, .inl (j6r S0.2.2.2.2.2.2.2.1 S1.2.2.2.2.2.2.2.1))) := k11 _ _ h113 (Nat.ne_of_beq_eq_false rfl) (hdos _ (List.mem_cons_of_mem _ (List.mem_cons_of_mem _ (List.mem_cons_of_mem _ (List.mem_cons_of_mem _ List.mem_cons_self)))))
              have h115 : f19 lq = some (.inl (cI G, 12, .inl (j6r S0.2.2.2.2.2.2.2.1 S1.2.2.2.2.2.2.2.1))) := (hEq.k k22) _ _ h114 (ninc (Ne.symm n_lx_lq) (ninc n_lq_le nin0))
              refine hp_S (As := [.long (lN (pkN r)), .ref ly, .ref la, .ref lq, .ref le, .int 1]) (rest := []) B0 hw hS (c_L_take_1 hl G f19 ly la lq le S1.1 S1.2.1 S1.2.2.1 S1.2.2.2.1 S1.2.2.2.2.1 S1.2.2.2.2.2.1 S1.2.2.2.2.2.2.1 S1.2.2.2.2.2.2.2.1 S1.2.2.2.2.2.2.2.2 (eSt (takeS S0)) ga1 ga0 (takeS S0).2.2.2.2.2.2.2.1 b hSo1 (by omega) r.1 r.2.1 r.2.2.1 r.2.2.2 hFo hga1 n_la_lq xs1 hX1 (Nat.lt_of_le_of_lt hl1 (by decide)) h107 h111 h115 h103) mS_L_take qM_L_127 rfl rfl hl9.1 (Nat.le_of_ble_eq_true rfl) ⟨⟨Nat.le_of_ble_eq_true rfl, Nat.le_of_ble_eq_true rfl⟩, Nat.le_of_ble_eq_true rfl, Nat.le_of_ble_eq_true rfl⟩ dL_links_838 (fun E ce q9 f116 H locs hPX hw hS hce hcv hcl => ?_) (fun v f116 H locs hP hw hS => ?_)
              · exact hPX.elim
              · obtain ⟨ev9, ⟨xs117, h118, hX119⟩, h120, h121, k122⟩ := hP
                subst ev9
                have h120 : f116 lq = some (.inl (cI G, 12, .inl (j6r (takeS S0).2.2.2.2.2.2.2.1 (hearF ga1 r S1).2.2.2.2.2.2.2.1))) := h120
                have h123 : f116 le = some (.inl (cI G, 16, .inl (jE (e8r ((takeS S0).1) ((takeS S0).2.1) ((takeS S0).2.2.1) ((takeS S0).2.2.2.1) ((takeS S0).2.2.2.2.1) ((takeS S0).2.2.2.2.2.1) ((takeS S0).2.2.2.2.2.2.1) (nI (takeS S0).2.2.2.2.2.2.2.2.length)) (eSt (hearF ga1 r S1))))) := h121
                refine W.eq (g2 := F0 m 841 ls []) rfl ?_
                refine lv_aload_n hx hb dL_links_841 rfl (lv_at hl9 6 rfl) ?_
                refine lv_iload hx hb dL_links_842 (lv_at hl9 5 rfl) ?_
                have h124 : f2 lw = some (.inl (cI G, 12, .inl (j6r gw0 gw1))) := k4 _ _ k_lw (Nat.ne_of_beq_eq_false rfl) (hdos _ (List.mem_cons_of_mem _ (List.mem_cons_of_mem _ List.mem_cons_self)))
                have h125 : f5 lw = some (.inl (cI G, 12, .inl (j6r gw0 gw1))) := k7 _ _ h124 (Nat.ne_of_beq_eq_false rfl) (hdos _ (List.mem_cons_of_mem _ (List.mem_cons_of_mem _ List.mem_cons_self)))
                have h126 : f8 lw = some (.inl (cI G, 12, .inl (j6r gw0 gw1))) := k11 _ _ h125 (Nat.ne_of_beq_eq_false rfl) (hdos _ (List.mem_cons_of_mem _ (List.mem_cons_of_mem _ List.mem_cons_self)))
                have h127 : f116 lx = some (.inl (cJ G, 64, .inr (.inl (pullN xs0 L1.length)))) := (hEq.k k122) _ _ h20 (ninc n_lx_ly (ninc n_lx_lq (ninc n_lx_le nin0)))
                have h128 : f19 lw = some (.inl (cI G, 12, .inl (j6r gw0 gw1))) := (hEq.k k22) _ _ h126 (ninc (Ne.symm n_lx_lw) (ninc n_lw_le nin0))
                have h129 : f116 lw = some (.inl (cI G, 12, .inl (j6r gw0 gw1))) := (hEq.k k122) _ _ h128 (ninc (Ne.symm n_ly_lw) (ninc n_lw_lq (ninc n_lw_le nin0)))
                have h130 : f116 la = some (.inl (cI G, 12, .inl (j6r ga0 ga1))) := (hEq.k k122) _ _ h111 (ninc (Ne.symm n_ly_la) (ninc n_la_lq (ninc n_la_le nin0)))
                have hC131 : CXW G f116 xo ez eo bu nw0 na0 nq0 nr0 nw1 na1 nq1 nr1 bs bp bh bf bl bg S0 S1 gw0 ga0 gw1 ga1 n a cg x sa pk fl gv gh gl := CXW.eq hC10 ((show hEq [lx, ly, lw, la, lq, le] f8 f19 from (hEq.mono k22 (sub_cons List.mem_cons_self (sub_cons (List.mem_cons_of_mem _ (List.mem_cons_of_mem _ (List.mem_cons_of_mem _ (List.mem_cons_of_mem _ (List.mem_cons_of_mem _ List.mem_cons_self))))) sub_nil)))).tr (show hEq [lx, ly, lw, la, lq, le] f19 f116 from (hEq.mono k122 (sub_cons (List.mem_cons_of_mem _ List.mem_cons_self) (sub_cons (List.mem_cons_of_mem _ (List.mem_cons_of_mem _ (List.mem_cons_of_mem _ (List.mem_cons_of_mem _ List.mem_cons_self)))) (sub_cons (List.mem_cons_of_mem _ (List.mem_cons_of_mem _ (List.mem_cons_of_mem _ (List.mem_cons_of_mem _ (List.mem_cons_of_mem _ List.mem_cons_self))))) sub_nil)))))) hdis (fun b9 hb9 => by
                    simp only [List.mem_cons, List.not_mem_nil, or_false] at hb9
                    rcases hb9 with hb9 | hb9 | hb9 | hb9 | hb9 | hb9
                    · rw [hb9]; exact ⟨_, _, h18, h127, (Nat.ne_of_beq_eq_false rfl), (Nat.ne_of_beq_eq_false rfl)⟩
                    · rw [hb9]; exact ⟨_, _, h106, h118, (Nat.ne_of_beq_eq_false rfl), (Nat.ne_of_beq_eq_false rfl)⟩
                    · rw [hb9]; exact ⟨_, _, h126, h129, (Nat.ne_of_beq_eq_false rfl), (Nat.ne_of_beq_eq_false rfl)⟩
                    · rw [hb9]; exact ⟨_, _, h110, h130, (Nat.ne_of_beq_eq_false rfl), (Nat.ne_of_beq_eq_false rfl)⟩
                    · rw [hb9]; exact ⟨_, _, h114, h120, (Nat.ne_of_beq_eq_false rfl), (Nat.ne_of_beq_eq_false rfl)⟩
                    · rw [hb9]; exact ⟨_, _, h14, h123, (Nat.ne_of_beq_eq_false rfl), (Nat.ne_of_beq_eq_false rfl)⟩)
                refine hp_SH (As := [.ref xo, .int 0]) (rest := []) B0 hw hS (c_V_deliver_0 hl G f116 xo ez eo bu nw0 na0 nq0 nr0 nw1 na1 nq1 nr1 bs bp bh bf bl bg S0 S1 gw0 ga0 gw1 ga1 n a cg x sa pk fl gv gh gl hC131 (Nat.lt_of_le_of_lt hl0 (by decide)) (Nat.lt_of_le_of_lt hl1 (by decide)) (by rw [hLk]; exact fun h9 => nomatch h9)) mH_L_deliver qM_L_117 rfl rfl hl9.1 (Nat.le_of_ble_eq_true rfl) ⟨⟨Nat.le_of_ble_eq_true rfl, Nat.le_of_ble_eq_true rfl⟩, Nat.le_of_ble_eq_true rfl, Nat.le_of_ble_eq_true rfl⟩ dL_links_844 (fun E ce q9 f132 H locs hPX hw hS hce hcv hcl => ?_) (fun v f132 H locs hP hw hS => ?_)
                · exact hPX.elim
                · obtain ⟨r9, L9, eL9, ev9, hC133, k134⟩ := hP
                  obtain ⟨er9, -⟩ := List.cons.inj (eL9.symm.trans hLk)
                  rw [er9] at ev9
                  try rw [er9] at hC133
                  subst ev9
                  have hC133 : CXW G f132 xo ez eo bu nw0 na0 nq0 nr0 nw1 na1 nq1 nr1 bs bp bh bf bl bg (takeS S0) (hearF ga1 r S1) gw0 ga0 gw1 ga1 n a cg x sa pk fl gv gh gl := hC133
                  refine W.eq (g2 := F0 m 847 ls [.int r.1]) rfl ?_
                  refine lv_iload hx hb dL_links_847 (lv_at hl9 0 rfl) ?_
                  refine lv_icmp_ne (tgt := 856) hx hb dL_links_849 (by decide) (fun c9 => absurd rfl c9) (fun _ => ?_)
                  refine lv_iconst (v := 1) hx hb dL_links_852 (by decide) ?_
                  refine lv_goto (tgt := 857) hx hb dL_links_853 (by decide) ?_
                  have h135 : f132 lx = some (.inl (cJ G, 64, .inr (.inl (pullN xs0 L1.length)))) := k134 _ _ h127 (Nat.ne_of_beq_eq_false rfl) (hdos _ List.mem_cons_self)
                  have h136 : f132 ly = some (.inl (cJ G, 64, .inr (.inl xs117))) := k134 _ _ h118 (Nat.ne_of_beq_eq_false rfl) (hdos _ (List.mem_cons_of_mem _ List.mem_cons_self))
                  have h137 : f132 lw = some (.inl (cI G, 12, .inl (j6r gw0 gw1))) := k134 _ _ h129 (Nat.ne_of_beq_eq_false rfl) (hdos _ (List.mem_cons_of_mem _ (List.mem_cons_of_mem _ List.mem_cons_self)))
                  have h138 : f132 la = some (.inl (cI G, 12, .inl (j6r ga0 ga1))) := k134 _ _ h130 (Nat.ne_of_beq_eq_false rfl) (hdos _ (List.mem_cons_of_mem _ (List.mem_cons_of_mem _ (List.mem_cons_of_mem _ List.mem_cons_self))))
                  have h139 : f132 lq = some (.inl (cI G, 12, .inl (j6r (takeS S0).2.2.2.2.2.2.2.1 (hearF ga1 r S1).2.2.2.2.2.2.2.1))) := k134 _ _ h120 (Nat.ne_of_beq_eq_false rfl) (hdos _ (List.mem_cons_of_mem _ (List.mem_cons_of_mem _ (List.mem_cons_of_mem _ (List.mem_cons_of_mem _ List.mem_cons_self)))))
                  have h140 : f132 le = some (.inl (cI G, 16, .inl (jE (e8r ((takeS S0).1) ((takeS S0).2.1) ((takeS S0).2.2.1) ((takeS S0).2.2.2.1) ((takeS S0).2.2.2.2.1) ((takeS S0).2.2.2.2.2.1) ((takeS S0).2.2.2.2.2.2.1) (nI (takeS S0).2.2.2.2.2.2.2.2.length)) (eSt (hearF ga1 r S1))))) := k134 _ _ h123 (Nat.ne_of_beq_eq_false rfl) (hdos _ (List.mem_cons_of_mem _ (List.mem_cons_of_mem _ (List.mem_cons_of_mem _ (List.mem_cons_of_mem _ (List.mem_cons_of_mem _ List.mem_cons_self))))))
                  exact hp_zret (v := 1) B0 hw hS hr ⟨Nat.le_of_ble_eq_true rfl, Nat.le_of_ble_eq_true rfl⟩ (rfl) dL_links_857 (⟨rfl, (takeS S0), (hearF ga1 r S1), gw0, ga0, gw1, ga1, hC133, ⟨⟨_, h135, (show XS (pullN xs0 L1.length) (takeS S0).2.2.2.2.2.2.2.2 from (show XS _ S0.2.2.2.2.2.2.2.2.tail from by rw [hLk]; exact hXk.tail))⟩, ⟨_, h136, (show XS xs117 (hearF ga1 r S1).2.2.2.2.2.2.2.2 from hX119)⟩, h137, h138, h139, h140⟩, ⟨SOK.mono (SOK.take hSo0) (by omega), SOK.mono (SOK.hear hSo1 (by omega) hFo) (by omega), hgw0, hga0, hgw1, hga1⟩, (Nat.le_trans (takeS_len S0) hl0), (Nat.le_trans (hearF_len ga1 r S1) (by have h9 := Nat.le_refl S1.2.2.2.2.2.2.2.2.length; omega)), ((show hKn [lx, ly, lw, la, lq, le, xo, ez, eo, bu, nw0, na0, nq0, nr0, nw1, na1, nq1, nr1, bs, bp, bh, bf, bl, bg] f f2 from (hKn.mono k4 sbA)).tr ((show hKn [lx, ly, lw, la, lq, le, xo, ez, eo, bu, nw0, na0, nq0, nr0, nw1, na1, nq1, nr1, bs, bp, bh, bf, bl, bg] f2 f5 from (hKn.mono k7 sbA)).tr ((show hKn [lx, ly, lw, la, lq, le, xo, ez, eo, bu, nw0, na0, nq0, nr0, nw1, na1, nq1, nr1, bs, bp, bh, bf, bl, bg] f5 f8 from (hKn.mono k11 sbA)).tr ((show hKn [lx, ly, lw, la, lq, le, xo, ez, eo, bu, nw0, na0, nq0, nr0, nw1, na1, nq1, nr1, bs, bp, bh, bf, bl, bg] f8 f19 from (hKn.mono (hKn.eq k22) (sub_cons List.mem_cons_self (sub_cons (List.mem_cons_of_mem _ (List.mem_cons_of_mem _ (List.mem_cons_of_mem _ (List.mem_cons_of_mem _ (List.mem_cons_of_mem _ List.mem_cons_self))))) sub_nil)))).tr ((show hKn [lx, ly, lw, la, lq, le, xo, ez, eo, bu, nw0, na0, nq0, nr0, nw1, na1, nq1, nr1, bs, bp, bh, bf, bl, bg] f19 f116 from (hKn.mono (hKn.eq k122) (sub_cons (List.mem_cons_of_mem _ List.mem_cons_self) (sub_cons (List.mem_cons_of_mem _ (List.mem_cons_of_mem _ (List.mem_cons_of_mem _ (List.mem_cons_of_mem _ List.mem_cons_self)))) (sub_cons (List.mem_cons_of_mem _ (List.mem_cons_of_mem _ (List.mem_cons_of_mem _ (List.mem_cons_of_mem _ (List.mem_cons_of_mem _ List.mem_cons_self))))) sub_nil))))).tr (show hKn [lx, ly, lw, la, lq, le, xo, ez, eo, bu, nw0, na0, nq0, nr0, nw1, na1, nq1, nr1, bs, bp, bh, bf, bl, bg] f116 f132 from (hKn.mono k134 sbA)))))))⟩)
        · refine lv_aload_n hx hb dL_links_749 rfl (lv_at hl9 4 rfl) ?_
          refine lv_iload hx hb dL_links_750 (lv_at hl9 3 rfl) ?_
          refine hp_SH (As := [.ref xo, .int 0]) (rest := []) B0 hw hS (c_V_deliver_S0 hl G f8 xo ez eo bu nw0 na0 nq0 nr0 nw1 na1 nq1 nr1 bs bp bh bf bl bg S0 S1 gw0 ga0 gw1 ga1 n a cg x sa pk fl gv gh gl hC10 (Nat.lt_of_le_of_lt hl0 (by decide)) (Nat.lt_of_le_of_lt hl1 (by decide)) (len_nil c15 (by omega))) mH_L_deliver qM_L_117 rfl rfl hl9.1 (Nat.le_of_ble_eq_true rfl) ⟨⟨Nat.le_of_ble_eq_true rfl, Nat.le_of_ble_eq_true rfl⟩, Nat.le_of_ble_eq_true rfl, Nat.le_of_ble_eq_true rfl⟩ dL_links_752 (fun E ce q9 f141 H locs hPX hw hS hce hcv hcl => ?_) (fun v f141 H locs hP hw hS => ?_)
          · exact hPX.elim
          · obtain ⟨ev9, hC142, k143⟩ := hP
            subst ev9
            have hC142 : CXW G f141 xo ez eo bu nw0 na0 nq0 nr0 nw1 na1 nq1 nr1 bs bp bh bf bl bg S0 S1 gw0 ga0 gw1 ga1 n a cg x sa pk fl gv gh gl := hC142
            refine W.eq (g2 := F0 m 755 ls [.int (-73)]) rfl ?_
            refine lv_bipush (v := (-73)) hx hb dL_links_755 (by decide) ?_
            refine lv_icmp_ne (tgt := 786) hx hb dL_links_757 (by decide) (fun c9 => absurd (by decide) c9) (fun _ => ?_)
            refine lv_aload_n hx hb dL_links_760 rfl (lv_at hl9 4 rfl) ?_
            refine lv_iload hx hb dL_links_761 (lv_at hl9 3 rfl) ?_
            refine hp_SH (As := [.ref xo, .int 0]) (rest := []) B0 hw hS (c_V_lose_S0 hl G f141 xo ez eo bu nw0 na0 nq0 nr0 nw1 na1 nq1 nr1 bs bp bh bf bl bg S0 S1 gw0 ga0 gw1 ga1 n a cg x sa pk fl gv gh gl hC142 (Nat.lt_of_le_of_lt hl0 (by decide)) (Nat.lt_of_le_of_lt hl1 (by decide)) (len_nil c15 (by omega))) mH_L_lose qM_L_119 rfl rfl hl9.1 (Nat.le_of_ble_eq_true rfl) ⟨⟨Nat.le_of_ble_eq_true rfl, Nat.le_of_ble_eq_true rfl⟩, Nat.le_of_ble_eq_true rfl, Nat.le_of_ble_eq_true rfl⟩ dL_links_763 (fun E ce q9 f144 H locs hPX hw hS hce hcv hcl => ?_) (fun v f144 H locs hP hw hS => ?_)
            · exact hPX.elim
            · obtain ⟨ev9, hC145, k146⟩ := hP
              subst ev9
              have hC145 : CXW G f144 xo ez eo bu nw0 na0 nq0 nr0 nw1 na1 nq1 nr1 bs bp bh bf bl bg S0 S1 gw0 ga0 gw1 ga1 n a cg x sa pk fl gv gh gl := hC145
              refine W.eq (g2 := F0 m 766 ls [.int (-73)]) rfl ?_
              refine lv_bipush (v := (-73)) hx hb dL_links_766 (by decide) ?_
              refine lv_icmp_ne (tgt := 786) hx hb dL_links_768 (by decide) (fun c9 => absurd (by decide) c9) (fun _ => ?_)
              refine lv_aload_n hx hb dL_links_771 rfl (lv_at hl9 4 rfl) ?_
              refine lv_iload hx hb dL_links_772 (lv_at hl9 3 rfl) ?_
              refine hp_SH (As := [.ref xo, .int 0]) (rest := []) B0 hw hS (c_V_loop_S0 hl G f144 xo ez eo bu nw0 na0 nq0 nr0 nw1 na1 nq1 nr1 bs bp bh bf bl bg S0 S1 gw0 ga0 gw1 ga1 n a cg x sa pk fl gv gh gl hC145 (Nat.lt_of_le_of_lt hl0 (by decide)) (Nat.lt_of_le_of_lt hl1 (by decide)) (len_nil c15 (by omega))) mH_L_loop qM_L_121 rfl rfl hl9.1 (Nat.le_of_ble_eq_true rfl) ⟨⟨Nat.le_of_ble_eq_true rfl, Nat.le_of_ble_eq_true rfl⟩, Nat.le_of_ble_eq_true rfl, Nat.le_of_ble_eq_true rfl⟩ dL_links_774 (fun E ce q9 f147 H locs hPX hw hS hce hcv hcl => ?_) (fun v f147 H locs hP hw hS => ?_)
              · exact hPX.elim
              · obtain ⟨ev9, hC148, k149⟩ := hP
                subst ev9
                have hC148 : CXW G f147 xo ez eo bu nw0 na0 nq0 nr0 nw1 na1 nq1 nr1 bs bp bh bf bl bg S0 S1 gw0 ga0 gw1 ga1 n a cg x sa pk fl gv gh gl := hC148
                refine W.eq (g2 := F0 m 777 ls [.int (-73)]) rfl ?_
                refine lv_bipush (v := (-73)) hx hb dL_links_777 (by decide) ?_
                refine lv_icmp_ne (tgt := 786) hx hb dL_links_779 (by decide) (fun c9 => absurd (by decide) c9) (fun _ => ?_)
                refine lv_iconst (v := 1) hx hb dL_links_782 (by decide) ?_
                refine lv_goto (tgt := 787) hx hb dL_links_783 (by decide) ?_
                have h150 : f2 lx = some (.inl (cJ G, 64, .inr (.inl xs0))) := k4 _ _ k_lx (Nat.ne_of_beq_eq_false rfl) (hdos _ List.mem_cons_self)
                have h151 : f5 lx = some (.inl (cJ G, 64, .inr (.inl xs0))) := k7 _ _ h150 (Nat.ne_of_beq_eq_false rfl) (hdos _ List.mem_cons_self)
                have h152 : f8 lx = some (.inl (cJ G, 64, .inr (.inl xs0))) := k11 _ _ h151 (Nat.ne_of_beq_eq_false rfl) (hdos _ List.mem_cons_self)
                have h153 : f141 lx = some (.inl (cJ G, 64, .inr (.inl xs0))) := k143 _ _ h152 (Nat.ne_of_beq_eq_false rfl) (hdos _ List.mem_cons_self)
                have h154 : f144 lx = some (.inl (cJ G, 64, .inr (.inl xs0))) := k146 _ _ h153 (Nat.ne_of_beq_eq_false rfl) (hdos _ List.mem_cons_self)
                have h155 : f147 lx = some (.inl (cJ G, 64, .inr (.inl xs0))) := k149 _ _ h154 (Nat.ne_of_beq_eq_false rfl) (hdos _ List.mem_cons_self)
                have h156 : f2 ly = some (.inl (cJ G, 64, .inr (.inl xs1))) := k4 _ _ k_ly (Nat.ne_of_beq_eq_false rfl) (hdos _ (List.mem_cons_of_mem _ List.mem_cons_self))
                have h157 : f5 ly = some (.inl (cJ G, 64, .inr (.inl xs1))) := k7 _ _ h156 (Nat.ne_of_beq_eq_false rfl) (hdos _ (List.mem_cons_of_mem _ List.mem_cons_self))
                have h158 : f8 ly = some (.inl (cJ G, 64, .inr (.inl xs1))) := k11 _ _ h157 (Nat.ne_of_beq_eq_false rfl) (hdos _ (List.mem_cons_of_mem _ List.mem_cons_self))
                have h159 : f141 ly = some (.inl (cJ G, 64, .inr (.inl xs1))) := k143 _ _ h158 (Nat.ne_of_beq_eq_false rfl) (hdos _ (List.mem_cons_of_mem _ List.mem_cons_self))
                have h160 : f144 ly = some (.inl (cJ G, 64, .inr (.inl xs1))) := k146 _ _ h159 (Nat.ne_of_beq_eq_false rfl) (hdos _ (List.mem_cons_of_mem _ List.mem_cons_self))
                have h161 : f147 ly = some (.inl (cJ G, 64, .inr (.inl xs1))) := k149 _ _ h160 (Nat.ne_of_beq_eq_false rfl) (hdos _ (List.mem_cons_of_mem _ List.mem_cons_self))
                have h162 : f2 lw = some (.inl (cI G, 12, .inl (j6r gw0 gw1))) := k4 _ _ k_lw (Nat.ne_of_beq_eq_false rfl) (hdos _ (List.mem_cons_of_mem _ (List.mem_cons_of_mem _ List.mem_cons_self)))
                have h163 : f5 lw = some (.inl (cI G, 12, .inl (j6r gw0 gw1))) := k7 _ _ h162 (Nat.ne_of_beq_eq_false rfl) (hdos _ (List.mem_cons_of_mem _ (List.mem_cons_of_mem _ List.mem_cons_self)))
                have h164 : f8 lw = some (.inl (cI G, 12, .inl (j6r gw0 gw1))) := k11 _ _ h163 (Nat.ne_of_beq_eq_false rfl) (hdos _ (List.mem_cons_of_mem _ (List.mem_cons_of_mem _ List.mem_cons_self)))
                have h165 : f141 lw = some (.inl (cI G, 12, .inl (j6r gw0 gw1))) := k143 _ _ h164 (Nat.ne_of_beq_eq_false rfl) (hdos _ (List.mem_cons_of_mem _ (List.mem_cons_of_mem _ List.mem_cons_self)))
                have h166 : f144 lw = some (.inl (cI G, 12, .inl (j6r gw0 gw1))) := k146 _ _ h165 (Nat.ne_of_beq_eq_false rfl) (hdos _ (List.mem_cons_of_mem _ (List.mem_cons_of_mem _ List.mem_cons_self)))
                have h167 : f147 lw = some (.inl (cI G, 12, .inl (j6r gw0 gw1))) := k149 _ _ h166 (Nat.ne_of_beq_eq_false rfl) (hdos _ (List.mem_cons_of_mem _ (List.mem_cons_of_mem _ List.mem_cons_self)))
                have h168 : f2 la = some (.inl (cI G, 12, .inl (j6r ga0 ga1))) := k4 _ _ k_la (Nat.ne_of_beq_eq_false rfl) (hdos _ (List.mem_cons_of_mem _ (List.mem_cons_of_mem _ (List.mem_cons_of_mem _ List.mem_cons_self))))
                have h169 : f5 la = some (.inl (cI G, 12, .inl (j6r ga0 ga1))) := k7 _ _ h168 (Nat.ne_of_beq_eq_false rfl) (hdos _ (List.mem_cons_of_mem _ (List.mem_cons_of_mem _ (List.mem_cons_of_mem _ List.mem_cons_self))))
                have h170 : f8 la = some (.inl (cI G, 12, .inl (j6r ga0 ga1))) := k11 _ _ h169 (Nat.ne_of_beq_eq_false rfl) (hdos _ (List.mem_cons_of_mem _ (List.mem_cons_of_mem _ (List.mem_cons_of_mem _ List.mem_cons_self))))
                have h171 : f141 la = some (.inl (cI G, 12, .inl (j6r ga0 ga1))) := k143 _ _ h170 (Nat.ne_of_beq_eq_false rfl) (hdos _ (List.mem_cons_of_mem _ (List.mem_cons_of_mem _ (List.mem_cons_of_mem _ List.mem_cons_self))))
                have h172 : f144 la = some (.inl (cI G, 12, .inl (j6r ga0 ga1))) := k146 _ _ h171 (Nat.ne_of_beq_eq_false rfl) (hdos _ (List.mem_cons_of_mem _ (List.mem_cons_of_mem _ (List.mem_cons_of_mem _ List.mem_cons_self))))
                have h173 : f147 la = some (.inl (cI G, 12, .inl (j6r ga0 ga1))) := k149 _ _ h172 (Nat.ne_of_beq_eq_false rfl) (hdos _ (List.mem_cons_of_mem _ (List.mem_cons_of_mem _ (List.mem_cons_of_mem _ List.mem_cons_self))))
                have h174 : f2 lq = some (.inl (cI G, 12, .inl (j6r S0.2.2.2.2.2.2.2.1 S1.2.2.2.2.2.2.2.1))) := k4 _ _ k_lq (Nat.ne_of_beq_eq_false rfl) (hdos _ (List.mem_cons_of_mem _ (List.mem_cons_of_mem _ (List.mem_cons_of_mem _ (List.mem_cons_of_mem _ List.mem_cons_self)))))
                have h175 : f5 lq = some (.inl (cI G, 12, .inl (j6r S0.2.2.2.2.2.2.2.1 S1.2.2.2.2.2.2.2.1))) := k7 _ _ h174 (Nat.ne_of_beq_eq_false rfl) (hdos _ (List.mem_cons_of_mem _ (List.mem_cons_of_mem _ (List.mem_cons_of_mem _ (List.mem_cons_of_mem _ List.mem_cons_self)))))
                have h176 : f8 lq = some (.inl (cI G, 12, .inl (j6r S0.2.2.2.2.2.2.2.1 S1.2.2.2.2.2.2.2.1))) := k11 _ _ h175 (Nat.ne_of_beq_eq_false rfl) (hdos _ (List.mem_cons_of_mem _ (List.mem_cons_of_mem _ (List.mem_cons_of_mem _ (List.mem_cons_of_mem _ List.mem_cons_self)))))
                have h177 : f141 lq = some (.inl (cI G, 12, .inl (j6r S0.2.2.2.2.2.2.2.1 S1.2.2.2.2.2.2.2.1))) := k143 _ _ h176 (Nat.ne_of_beq_eq_false rfl) (hdos _ (List.mem_cons_of_mem _ (List.mem_cons_of_mem _ (List.mem_cons_of_mem _ (List.mem_cons_of_mem _ List.mem_cons_self)))))
                have h178 : f144 lq = some (.inl (cI G, 12, .inl (j6r S0.2.2.2.2.2.2.2.1 S1.2.2.2.2.2.2.2.1))) := k146 _ _ h177 (Nat.ne_of_beq_eq_false rfl) (hdos _ (List.mem_cons_of_mem _ (List.mem_cons_of_mem _ (List.mem_cons_of_mem _ (List.mem_cons_of_mem _ List.mem_cons_self)))))
                have h179 : f147 lq = some (.inl (cI G, 12, .inl (j6r S0.2.2.2.2.2.2.2.1 S1.2.2.2.2.2.2.2.1))) := k149 _ _ h178 (Nat.ne_of_beq_eq_false rfl) (hdos _ (List.mem_cons_of_mem _ (List.mem_cons_of_mem _ (List.mem_cons_of_mem _ (List.mem_cons_of_mem _ List.mem_cons_self)))))
                have h180 : f141 le = some (.inl (cI G, 16, .inl (jE (e8r S0.1 S0.2.1 S0.2.2.1 S0.2.2.2.1 S0.2.2.2.2.1 S0.2.2.2.2.2.1 S0.2.2.2.2.2.2.1 (nI S0.2.2.2.2.2.2.2.2.length)) (eSt S1)))) := k143 _ _ h14 (Nat.ne_of_beq_eq_false rfl) (hdos _ (List.mem_cons_of_mem _ (List.mem_cons_of_mem _ (List.mem_cons_of_mem _ (List.mem_cons_of_mem _ (List.mem_cons_of_mem _ List.mem_cons_self))))))
                have h181 : f144 le = some (.inl (cI G, 16, .inl (jE (e8r S0.1 S0.2.1 S0.2.2.1 S0.2.2.2.1 S0.2.2.2.2.1 S0.2.2.2.2.2.1 S0.2.2.2.2.2.2.1 (nI S0.2.2.2.2.2.2.2.2.length)) (eSt S1)))) := k146 _ _ h180 (Nat.ne_of_beq_eq_false rfl) (hdos _ (List.mem_cons_of_mem _ (List.mem_cons_of_mem _ (List.mem_cons_of_mem _ (List.mem_cons_of_mem _ (List.mem_cons_of_mem _ List.mem_cons_self))))))
                have h182 : f147 le = some (.inl (cI G, 16, .inl (jE (e8r S0.1 S0.2.1 S0.2.2.1 S0.2.2.2.1 S0.2.2.2.2.1 S0.2.2.2.2.2.1 S0.2.2.2.2.2.2.1 (nI S0.2.2.2.2.2.2.2.2.length)) (eSt S1)))) := k149 _ _ h181 (Nat.ne_of_beq_eq_false rfl) (hdos _ (List.mem_cons_of_mem _ (List.mem_cons_of_mem _ (List.mem_cons_of_mem _ (List.mem_cons_of_mem _ (List.mem_cons_of_mem _ List.mem_cons_self))))))
                exact hp_zret (v := 1) B0 hw hS hr ⟨Nat.le_of_ble_eq_true rfl, Nat.le_of_ble_eq_true rfl⟩ (rfl) dL_links_787 (⟨rfl, S0, S1, gw0, ga0, gw1, ga1, hC148, ⟨⟨_, h155, hX0⟩, ⟨_, h161, hX1⟩, h167, h173, h179, h182⟩, ⟨SOK.mono hSo0 (by omega), SOK.mono hSo1 (by omega), hgw0, hga0, hgw1, hga1⟩, hl0, hl1, ((show hKn [lx, ly, lw, la, lq, le, xo, ez, eo, bu, nw0, na0, nq0, nr0, nw1, na1, nq1, nr1, bs, bp, bh, bf, bl, bg] f f2 from (hKn.mono k4 sbA)).tr ((show hKn [lx, ly, lw, la, lq, le, xo, ez, eo, bu, nw0, na0, nq0, nr0, nw1, na1, nq1, nr1, bs, bp, bh, bf, bl, bg] f2 f5 from (hKn.mono k7 sbA)).tr ((show hKn [lx, ly, lw, la, lq, le, xo, ez, eo, bu, nw0, na0, nq0, nr0, nw1, na1, nq1, nr1, bs, bp, bh, bf, bl, bg] f5 f8 from (hKn.mono k11 sbA)).tr ((show hKn [lx, ly, lw, la, lq, le, xo, ez, eo, bu, nw0, na0, nq0, nr0, nw1, na1, nq1, nr1, bs, bp, bh, bf, bl, bg] f8 f141 from (hKn.mono k143 sbA)).tr ((show hKn [lx, ly, lw, la, lq, le, xo, ez, eo, bu, nw0, na0, nq0, nr0, nw1, na1, nq1, nr1, bs, bp, bh, bf, bl, bg] f141 f144 from (hKn.mono k146 sbA)).tr (show hKn [lx, ly, lw, la, lq, le, xo, ez, eo, bu, nw0, na0, nq0, nr0, nw1, na1, nq1, nr1, bs, bp, bh, bf, bl, bg] f144 f147 from (hKn.mono k149 sbA)))))))⟩)

set_option maxHeartbeats 4000000 in
set_option maxRecDepth 100000 in
theorem lk_d_1 {l : Launch} (hl : l.stackTraces = false) (G : hG) (f : hM) (xo ez eo bu nw0 na0 nq0 nr0 nw1 na1 nq1 nr1 bs bp bh bf bl bg : Nat) (S0 : ES) (S1 : ES) (gw0 : Nat → Int32) (ga0 : Nat → Int32) (gw1 : Nat → Int32) (ga1 : Nat → Int32) (n : Nat) (a : Nat) (cg : Nat) (x : Nat) (sa : Nat → Nat) (pk : Nat → Nat) (fl : Nat → Nat) (gv : Nat → Nat) (gh : Nat → Int32) (gl : Nat → Int32) (hC : CXW G f xo ez eo bu nw0 na0 nq0 nr0 nw1 na1 nq1 nr1 bs bp bh bf bl bg S0 S1 gw0 ga0 gw1 ga1 n a cg x sa pk fl gv gh gl) (lx ly lw la lq le : Nat) (hdis : ∀ p, p ∈ [xo, ez, eo, bu, nw0, na0, nq0, nr0, nw1, na1, nq1, nr1, bs, bp, bh, bf, bl, bg] → p ∉ [lx, ly, lw, la, lq, le]) (hdos : ∀ p, p ∈ [lx, ly, lw, la, lq, le] → p ∉ [xo, ez, eo, bu, nw0, na0, nq0, nr0, nw1, na1, nq1, nr1, bs, bp, bh, bf, bl, bg]) (n_lx_ly : lx ≠ ly) (n_lw_la : lw ≠ la) (n_lw_lq : lw ≠ lq) (n_la_lq : la ≠ lq) (hLX : LX G f lx ly lw la lq le S0 S1 gw0 ga0 gw1 ga1) (b : Nat) (hInv : INV b S0 S1 gw0 ga0 gw1 ga1) (hbb : b + 200 ≤ 1000000) (hl0 : S0.2.2.2.2.2.2.2.2.length ≤ 52) (hl1 : S1.2.2.2.2.2.2.2.2.length ≤ 52) (ac : Nat) (hac : ac < 24) (hact : ac ≠ 22 → S0.2.2.2.2.2.2.2.2.length ≤ 40 ∧ S1.2.2.2.2.2.2.2.2.length ≤ 40) (u z : Int32) {p : Program} {e : Env} {s : State} {m : MethodId} {args : Array Value} {below : List Frame} {meth : Method} {c : Code} (B0 : hB p l s m args meth c cL_links 17 RL G) (hr : meth.sig.returnType = some .boolean) {H : Heap} {locs : List Loc} {ls : Array Slot} (hw : hW G f H) (hS : va_S (hFr G) s.heap H locs) (j13 : Nat) (hj13 : j13 < 6) (hl9 : lv_has ls 17 [(13, .int (nI j13)), (12, .ref ly), (11, .int 8), (10, .int 1), (0, .ref xo), (1, .int (nI ac)), (2, .int u), (3, .int z), (4, .ref lx), (5, .ref ly), (6, .ref lw), (7, .ref la), (8, .ref lq), (9, .ref le)]) : W p l e { frames := 9, cells := 203, slots := 1118, locals := 178 } s m args below meth c H locs 0 0 (vx_MQ below (hQ G (fun v f1 => v = some (.int 1) ∧ ∃ (S2 S3 : ES) (w0 a0 w1 a1 : Nat → Int32), CXW G f1 xo ez eo bu nw0 na0 nq0 nr0 nw1 na1 nq1 nr1 bs bp bh bf bl bg S2 S3 w0 a0 w1 a1 n a cg x sa pk fl gv gh gl ∧ LX G f1 lx ly lw la lq le S2 S3 w0 a0 w1 a1 ∧ INV (b + 100) S2 S3 w0 a0 w1 a1 ∧ S2.2.2.2.2.2.2.2.2.length ≤ 52 ∧ S3.2.2.2.2.2.2.2.2.length ≤ 52 ∧ hKn [lx, ly, lw, la, lq, le, xo, ez, eo, bu, nw0, na0, nq0, nr0, nw1, na1, nq1, nr1, bs, bp, bh, bf, bl, bg] f f1)) (hX G (fun E f1 => False)) args s 203 1118 (hFr G)) (F0 m 706 ls []) := by
  have hx := B0.1
  have hb := B0.2.1
  obtain ⟨⟨xs0, k_lx, hX0⟩, ⟨xs1, k_ly, hX1⟩, k_lw, k_la, k_lq, k_le⟩ := hLX
  obtain ⟨hSo0, hSo1, hgw0, hga0, hgw1, hga1⟩ := id hInv
  have n_lx_lw : lx ≠ lw := hneL k_lx k_lw (Nat.ne_of_beq_eq_false rfl)
  have n_lx_la : lx ≠ la := hneL k_lx k_la (Nat.ne_of_beq_eq_false rfl)
  have n_lx_lq : lx ≠ lq := hneL k_lx k_lq (Nat.ne_of_beq_eq_false rfl)
  have n_lx_le : lx ≠ le := hneL k_lx k_le (Nat.ne_of_beq_eq_false rfl)
  have n_ly_lw : ly ≠ lw := hneL k_ly k_lw (Nat.ne_of_beq_eq_false rfl)
  have n_ly_la : ly ≠ la := hneL k_ly k_la (Nat.ne_of_beq_eq_false rfl)
  have n_ly_lq : ly ≠ lq := hneL k_ly k_lq (Nat.ne_of_beq_eq_false rfl)
  have n_ly_le : ly ≠ le := hneL k_ly k_le (Nat.ne_of_beq_eq_false rfl)
  have n_lw_le : lw ≠ le := hneL k_lw k_le (Nat.ne_of_beq_eq_false rfl)
  have n_la_le : la ≠ le := hneL k_la k_le (Nat.ne_of_beq_eq_false rfl)
  have n_lq_le : lq ≠ le := hneL k_lq k_le (Nat.ne_of_beq_eq_false rfl)
  have sbA : ∀ x9, x9 ∈ [xo, ez, eo, bu, nw0, na0, nq0, nr0, nw1, na1, nq1, nr1, bs, bp, bh, bf, bl, bg] → x9 ∈ [lx, ly, lw, la, lq, le, xo, ez, eo, bu, nw0, na0, nq0, nr0, nw1, na1, nq1, nr1, bs, bp, bh, bf, bl, bg] := (sub_cons (List.mem_cons_of_mem _ (List.mem_cons_of_mem _ (List.mem_cons_of_mem _ (List.mem_cons_of_mem _ (List.mem_cons_of_mem _ (List.mem_cons_of_mem _ List.mem_cons_self)))))) (sub_cons (List.mem_cons_of_mem _ (List.mem_cons_of_mem _ (List.mem_cons_of_mem _ (List.mem_cons_of_mem _ (List.mem_cons_of_mem _ (List.mem_cons_of_mem _ (List.mem_cons_of_mem _ List.mem_cons_self))))))) (sub_cons (List.mem_cons_of_mem _ (List.mem_cons_of_mem _ (List.mem_cons_of_mem _ (List.mem_cons_of_mem _ (List.mem_cons_of_mem _ (List.mem_cons_of_mem _ (List.mem_cons_of_mem _ (List.mem_cons_of_mem _ List.mem_cons_self)))))))) (sub_cons (List.mem_cons_of_mem _ (List.mem_cons_of_mem _ (List.mem_cons_of_mem _ (List.mem_cons_of_mem _ (List.mem_cons_of_mem _ (List.mem_cons_of_mem _ (List.mem_cons_of_mem _ (List.mem_cons_of_mem _ (List.mem_cons_of_mem _ List.mem_cons_self))))))))) (sub_cons (List.mem_cons_of_mem _ (List.mem_cons_of_mem _ (List.mem_cons_of_mem _ (List.mem_cons_of_mem _ (List.mem_cons_of_mem _ (List.mem_cons_of_mem _ (List.mem_cons_of_mem _ (List.mem_cons_of_mem _ (List.mem_cons_of_mem _ (List.mem_cons_of_mem _ List.mem_cons_self)))))))))) (sub_cons (List.mem_cons_of_mem _ (List.mem_cons_of_mem _ (List.mem_cons_of_mem _ (List.mem_cons_of_mem _ (List.mem_cons_of_mem _ (List.mem_cons_of_mem _ (List.mem_cons_of_mem _ (List.mem_cons_of_mem _ (List.mem_cons_of_mem _ (List.mem_cons_of_mem _ (List.mem_cons_of_mem _ List.mem_cons_self))))))))))) (sub_cons (List.mem_cons_of_mem _ (List.mem_cons_of_mem _ (List.mem_cons_of_mem _ (List.mem_cons_of_mem _ (List.mem_cons_of_mem _ (List.mem_cons_of_mem _ (List.mem_cons_of_mem _ (List.mem_cons_of_mem _ (List.mem_cons_of_mem _ (List.mem_cons_of_mem _ (List.mem_cons_of_mem _ (List.mem_cons_of_mem _ List.mem_cons_self)))))))))))) (sub_cons (List.mem_cons_of_mem _ (List.mem_cons_of_mem _ (List.mem_cons_of_mem _ (List.mem_cons_of_mem _ (List.mem_cons_of_mem _ (List.mem_cons_of_mem _ (List.mem_cons_of_mem _ (List.mem_cons_of_mem _ (List.mem_cons_of_mem _ (List.mem_cons_of_mem _ (List.mem_cons_of_mem _ (List.mem_cons_of_mem _ (List.mem_cons_of_mem _ List.mem_cons_self))))))))))))) (sub_cons (List.mem_cons_of_mem _ (List.mem_cons_of_mem _ (List.mem_cons_of_mem _ (List.mem_cons_of_mem _ (List.mem_cons_of_mem _ (List.mem_cons_of_mem _ (List.mem_cons_of_mem _ (List.mem_cons_of_mem _ (List.mem_cons_of_mem _ (List.mem_cons_of_mem _ (List.mem_cons_of_mem _ (List.mem_cons_of_mem _ (List.mem_cons_of_mem _ (List.mem_cons_of_mem _ List.mem_cons_self)))))))))))))) (sub_cons (List.mem_cons_of_mem _ (List.mem_cons_of_mem _ (List.mem_cons_of_mem _ (List.mem_cons_of_mem _ (List.mem_cons_of_mem _ (List.mem_cons_of_mem _ (List.mem_cons_of_mem _ (List.mem_cons_of_mem _ (List.mem_cons_of_mem _ (List.mem_cons_of_mem _ (List.mem_cons_of_mem _ (List.mem_cons_of_mem _ (List.mem_cons_of_mem _ (List.mem_cons_of_mem _ (List.mem_cons_of_mem _ List.mem_cons_self))))))))))))))) (sub_cons (List.mem_cons_of_mem _ (List.mem_cons_of_mem _ (List.mem_cons_of_mem _ (List.mem_cons_of_mem _ (List.mem_cons_of_mem _ (List.mem_cons_of_mem _ (List.mem_cons_of_mem _ (List.mem_cons_of_mem _ (List.mem_cons_of_mem _ (List.mem_cons_of_mem _ (List.mem_cons_of_mem _ (List.mem_cons_of_mem _ (List.mem_cons_of_mem _ (List.mem_cons_of_mem _ (List.mem_cons_of_mem _ (List.mem_cons_of_mem _ List.mem_cons_self)))))))))))))))) (sub_cons (List.mem_cons_of_mem _ (List.mem_cons_of_mem _ (List.mem_cons_of_mem _ (List.mem_cons_of_mem _ (List.mem_cons_of_mem _ (List.mem_cons_of_mem _ (List.mem_cons_of_mem _ (List.mem_cons_of_mem _ (List.mem_cons_of_mem _ (List.mem_cons_of_mem _ (List.mem_cons_of_mem _ (List.mem_cons_of_mem _ (List.mem_cons_of_mem _ (List.mem_cons_of_mem _ (List.mem_cons_of_mem _ (List.mem_cons_of_mem _ (List.mem_cons_of_mem _ List.mem_cons_self))))))))))))))))) (sub_cons (List.mem_cons_of_mem _ (List.mem_cons_of_mem _ (List.mem_cons_of_mem _ (List.mem_cons_of_mem _ (List.mem_cons_of_mem _ (List.mem_cons_of_mem _ (List.mem_cons_of_mem _ (List.mem_cons_of_mem _ (List.mem_cons_of_mem _ (List.mem_cons_of_mem _ (List.mem_cons_of_mem _ (List.mem_cons_of_mem _ (List.mem_cons_of_mem _ (List.mem_cons_of_mem _ (List.mem_cons_of_mem _ (List.mem_cons_of_mem _ (List.mem_cons_of_mem _ (List.mem_cons_of_mem _ List.mem_cons_self)))))))))))))))))) (sub_cons (List.mem_cons_of_mem _ (List.mem_cons_of_mem _ (List.mem_cons_of_mem _ (List.mem_cons_of_mem _ (List.mem_cons_of_mem _ (List.mem_cons_of_mem _ (List.mem_cons_of_mem _ (List.mem_cons_of_mem _ (List.mem_cons_of_mem _ (List.mem_cons_of_mem _ (List.mem_cons_of_mem _ (List.mem_cons_of_mem _ (List.mem_cons_of_mem _ (List.mem_cons_of_mem _ (List.mem_cons_of_mem _ (List.mem_cons_of_mem _ (List.mem_cons_of_mem _ (List.mem_cons_of_mem _ (List.mem_cons_of_mem _ List.mem_cons_self))))))))))))))))))) (sub_cons (List.mem_cons_of_mem _ (List.mem_cons_of_mem _ (List.mem_cons_of_mem _ (List.mem_cons_of_mem _ (List.mem_cons_of_mem _ (List.mem_cons_of_mem _ (List.mem_cons_of_mem _ (List.mem_cons_of_mem _ (List.mem_cons_of_mem _ (List.mem_cons_of_mem _ (List.mem_cons_of_mem _ (List.mem_cons_of_mem _ (List.mem_cons_of_mem _ (List.mem_cons_of_mem _ (List.mem_cons_of_mem _ (List.mem_cons_of_mem _ (List.mem_cons_of_mem _ (List.mem_cons_of_mem _ (List.mem_cons_of_mem _ (List.mem_cons_of_mem _ List.mem_cons_self)))))))))))))))))))) (sub_cons (List.mem_cons_of_mem _ (List.mem_cons_of_mem _ (List.mem_cons_of_mem _ (List.mem_cons_of_mem _ (List.mem_cons_of_mem _ (List.mem_cons_of_mem _ (List.mem_cons_of_mem _ (List.mem_cons_of_mem _ (List.mem_cons_of_mem _ (List.mem_cons_of_mem _ (List.mem_cons_of_mem _ (List.mem_cons_of_mem _ (List.mem_cons_of_mem _ (List.mem_cons_of_mem _ (List.mem_cons_of_mem _ (List.mem_cons_of_mem _ (List.mem_cons_of_mem _ (List.mem_cons_of_mem _ (List.mem_cons_of_mem _ (List.mem_cons_of_mem _ (List.mem_cons_of_mem _ List.mem_cons_self))))))))))))))))))))) (sub_cons (List.mem_cons_of_mem _ (List.mem_cons_of_mem _ (List.mem_cons_of_mem _ (List.mem_cons_of_mem _ (List.mem_cons_of_mem _ (List.mem_cons_of_mem _ (List.mem_cons_of_mem _ (List.mem_cons_of_mem _ (List.mem_cons_of_mem _ (List.mem_cons_of_mem _ (List.mem_cons_of_mem _ (List.mem_cons_of_mem _ (List.mem_cons_of_mem _ (List.mem_cons_of_mem _ (List.mem_cons_of_mem _ (List.mem_cons_of_mem _ (List.mem_cons_of_mem _ (List.mem_cons_of_mem _ (List.mem_cons_of_mem _ (List.mem_cons_of_mem _ (List.mem_cons_of_mem _ (List.mem_cons_of_mem _ List.mem_cons_self)))))))))))))))))))))) (sub_cons (List.mem_cons_of_mem _ (List.mem_cons_of_mem _ (List.mem_cons_of_mem _ (List.mem_cons_of_mem _ (List.mem_cons_of_mem _ (List.mem_cons_of_mem _ (List.mem_cons_of_mem _ (List.mem_cons_of_mem _ (List.mem_cons_of_mem _ (List.mem_cons_of_mem _ (List.mem_cons_of_mem _ (List.mem_cons_of_mem _ (List.mem_cons_of_mem _ (List.mem_cons_of_mem _ (List.mem_cons_of_mem _ (List.mem_cons_of_mem _ (List.mem_cons_of_mem _ (List.mem_cons_of_mem _ (List.mem_cons_of_mem _ (List.mem_cons_of_mem _ (List.mem_cons_of_mem _ (List.mem_cons_of_mem _ (List.mem_cons_of_mem _ List.mem_cons_self))))))))))))))))))))))) sub_nil))))))))))))))))))
  obtain ⟨xx, hxx, hx4⟩ := hSo1.2.2.2.2.1
  have h1 : f le = some (.inl (cI G, 16, .inl (jE (eSt S0) (e8r S1.1 S1.2.1 S1.2.2.1 S1.2.2.2.1 S1.2.2.2.2.1 S1.2.2.2.2.2.1 S1.2.2.2.2.2.2.1 (nI S1.2.2.2.2.2.2.2.2.length))))) := k_le
  refine lv_aload_n hx hb dL_links_706 rfl (lv_at hl9 4 rfl) ?_
  refine lv_iconst (v := 2) hx hb dL_links_707 (by decide) ?_
  refine hp_SH (As := [.ref xo, .int 2]) (rest := []) B0 hw hS (c_V_deliver_E hl G f xo ez eo bu nw0 na0 nq0 nr0 nw1 na1 nq1 nr1 bs bp bh bf bl bg S0 S1 gw0 ga0 gw1 ga1 n a cg x sa pk fl gv gh gl hC (Nat.lt_of_le_of_lt hl0 (by decide)) (Nat.lt_of_le_of_lt hl1 (by decide)) 2 (by decide)) mH_L_deliver qM_L_117 rfl rfl hl9.1 (Nat.le_of_ble_eq_true rfl) ⟨⟨Nat.le_of_ble_eq_true rfl, Nat.le_of_ble_eq_true rfl⟩, Nat.le_of_ble_eq_true rfl, Nat.le_of_ble_eq_true rfl⟩ dL_links_708 (fun E ce q9 f2 H locs hPX hw hS hce hcv hcl => ?_) (fun v f2 H locs hP hw hS => ?_)
  · exact hPX.elim
  · obtain ⟨ev9, hC3, k4⟩ := hP
    subst ev9
    have hC3 : CXW G f2 xo ez eo bu nw0 na0 nq0 nr0 nw1 na1 nq1 nr1 bs bp bh bf bl bg S0 S1 gw0 ga0 gw1 ga1 n a cg x sa pk fl gv gh gl := hC3
    refine W.eq (g2 := F0 m 711 ls [.int (-71)]) rfl ?_
    refine lv_bipush (v := (-71)) hx hb dL_links_711 (by decide) ?_
    refine lv_icmp_ne (tgt := 736) hx hb dL_links_713 (by decide) (fun c9 => absurd (by decide) c9) (fun _ => ?_)
    refine lv_aload_n hx hb dL_links_716 rfl (lv_at hl9 4 rfl) ?_
    refine lv_iconst (v := (-1)) hx hb dL_links_717 (by decide) ?_
    refine hp_SH (As := [.ref xo, .int (-1)]) (rest := []) B0 hw hS (c_V_lose_E hl G f2 xo ez eo bu nw0 na0 nq0 nr0 nw1 na1 nq1 nr1 bs bp bh bf bl bg S0 S1 gw0 ga0 gw1 ga1 n a cg x sa pk fl gv gh gl hC3 (Nat.lt_of_le_of_lt hl0 (by decide)) (Nat.lt_of_le_of_lt hl1 (by decide)) (-1) (by decide)) mH_L_lose qM_L_119 rfl rfl hl9.1 (Nat.le_of_ble_eq_true rfl) ⟨⟨Nat.le_of_ble_eq_true rfl, Nat.le_of_ble_eq_true rfl⟩, Nat.le_of_ble_eq_true rfl, Nat.le_of_ble_eq_true rfl⟩ dL_links_718 (fun E ce q9 f5 H locs hPX hw hS hce hcv hcl => ?_) (fun v f5 H locs hP hw hS => ?_)
    · exact hPX.elim
    · obtain ⟨ev9, hC6, k7⟩ := hP
      subst ev9
      have hC6 : CXW G f5 xo ez eo bu nw0 na0 nq0 nr0 nw1 na1 nq1 nr1 bs bp bh bf bl bg S0 S1 gw0 ga0 gw1 ga1 n a cg x sa pk fl gv gh gl := hC6
      refine W.eq (g2 := F0 m 721 ls [.int (-71)]) rfl ?_
      refine lv_bipush (v := (-71)) hx hb dL_links_721 (by decide) ?_
      refine lv_icmp_ne (tgt := 736) hx hb dL_links_723 (by decide) (fun c9 => absurd (by decide) c9) (fun _ => ?_)
      refine lv_aload_n hx hb dL_links_726 rfl (lv_at hl9 4 rfl) ?_
      refine lv_iconst (v := 2) hx hb dL_links_727 (by decide) ?_
      refine hp_SH (As := [.ref xo, .int 2]) (rest := []) B0 hw hS (c_V_loop_E hl G f5 xo ez eo bu nw0 na0 nq0 nr0 nw1 na1 nq1 nr1 bs bp bh bf bl bg S0 S1 gw0 ga0 gw1 ga1 n a cg x sa pk fl gv gh gl hC6 (Nat.lt_of_le_of_lt hl0 (by decide)) (Nat.lt_of_le_of_lt hl1 (by decide)) 2 (by decide)) mH_L_loop qM_L_121 rfl rfl hl9.1 (Nat.le_of_ble_eq_true rfl) ⟨⟨Nat.le_of_ble_eq_true rfl, Nat.le_of_ble_eq_true rfl⟩, Nat.le_of_ble_eq_true rfl, Nat.le_of_ble_eq_true rfl⟩ dL_links_728 (fun E ce q9 f8 H locs hPX hw hS hce hcv hcl => ?_) (fun v f8 H locs hP hw hS => ?_)
      · exact hPX.elim
      · obtain ⟨ev9, hC10, k11⟩ := hP
        subst ev9
        have hC10 : CXW G f8 xo ez eo bu nw0 na0 nq0 nr0 nw1 na1 nq1 nr1 bs bp bh bf bl bg S0 S1 gw0 ga0 gw1 ga1 n a cg x sa pk fl gv gh gl := hC10
        refine W.eq (g2 := F0 m 731 ls [.int (-71)]) rfl ?_
        refine lv_bipush (v := (-71)) hx hb dL_links_731 (by decide) ?_
        refine lv_icmp_eq (tgt := 738) hx hb dL_links_733 (by decide) (fun _ => ?_) (fun c9 => absurd (by decide) c9)
        refine lv_aload hx hb dL_links_738 (lv_at hl9 13 rfl) ?_
        refine lv_iload hx hb dL_links_740 (lv_at hl9 2 rfl) ?_
        refine lv_bipush (v := 7) hx hb dL_links_742 (by decide) ?_
        refine lv_iadd hx hb dL_links_744 ?_
        refine hp_c (v := 15) (by decide) ?_
        have h12 : f2 le = some (.inl (cI G, 16, .inl (jE (eSt S0) (e8r S1.1 S1.2.1 S1.2.2.1 S1.2.2.2.1 S1.2.2.2.2.1 S1.2.2.2.2.2.1 S1.2.2.2.2.2.2.1 (nI S1.2.2.2.2.2.2.2.2.length))))) := k4 _ _ h1 (Nat.ne_of_beq_eq_false rfl) (hdos _ (List.mem_cons_of_mem _ (List.mem_cons_of_mem _ (List.mem_cons_of_mem _ (List.mem_cons_of_mem _ (List.mem_cons_of_mem _ List.mem_cons_self))))))
        have h13 : f5 le = some (.inl (cI G, 16, .inl (jE (eSt S0) (e8r S1.1 S1.2.1 S1.2.2.1 S1.2.2.2.1 S1.2.2.2.2.1 S1.2.2.2.2.2.1 S1.2.2.2.2.2.2.1 (nI S1.2.2.2.2.2.2.2.2.length))))) := k7 _ _ h12 (Nat.ne_of_beq_eq_false rfl) (hdos _ (List.mem_cons_of_mem _ (List.mem_cons_of_mem _ (List.mem_cons_of_mem _ (List.mem_cons_of_mem _ (List.mem_cons_of_mem _ List.mem_cons_self))))))
        have h14 : f8 le = some (.inl (cI G, 16, .inl (jE (eSt S0) (e8r S1.1 S1.2.1 S1.2.2.1 S1.2.2.2.1 S1.2.2.2.2.1 S1.2.2.2.2.2.1 S1.2.2.2.2.2.2.1 (nI S1.2.2.2.2.2.2.2.2.length))))) := k11 _ _ h13 (Nat.ne_of_beq_eq_false rfl) (hdos _ (List.mem_cons_of_mem _ (List.mem_cons_of_mem _ (List.mem_cons_of_mem _ (List.mem_cons_of_mem _ (List.mem_cons_of_mem _ List.mem_cons_self))))))
        refine hp_iald B0 hw h14 (by unfold vp_in; decide) dL_links_745 ?_
        refine hp_c (v := (nI S1.2.2.2.2.2.2.2.2.length)) (rfl) ?_
        refine lv_if_ne (tgt := 788) hx hb dL_links_746 (by decide) (fun c15 => ?_) (fun c15 => ?_)
        · obtain ⟨r, L1, hLk⟩ := len_cons c15
          have hFo : FOK b r := hSo1.2.2.2.2.2.2 r (by rw [hLk]; exact List.mem_cons_self)
          have hXk : XS xs1 (r :: L1) := by rw [← hLk]; exact hX1
          have hlk : S1.2.2.2.2.2.2.2.2.length = L1.length + 1 := by rw [hLk]; rfl
          have hbo : b ≤ 1000000 := by omega
          refine lv_aload hx hb dL_links_788 (lv_at hl9 1 rfl) ?_
          refine lv_aload hx hb dL_links_790 (lv_at hl9 13 rfl) ?_
          refine lv_iload hx hb dL_links_792 (lv_at hl9 3 rfl) ?_
          have h16 : f2 ly = some (.inl (cJ G, 64, .inr (.inl xs1))) := k4 _ _ k_ly (Nat.ne_of_beq_eq_false rfl) (hdos _ (List.mem_cons_of_mem _ List.mem_cons_self))
          have h17 : f5 ly = some (.inl (cJ G, 64, .inr (.inl xs1))) := k7 _ _ h16 (Nat.ne_of_beq_eq_false rfl) (hdos _ (List.mem_cons_of_mem _ List.mem_cons_self))
          have h18 : f8 ly = some (.inl (cJ G, 64, .inr (.inl xs1))) := k11 _ _ h17 (Nat.ne_of_beq_eq_false rfl) (hdos _ (List.mem_cons_of_mem _ List.mem_cons_self))
          refine hp_S (As := [.ref ly, .ref le, .int 1]) (rest := []) B0 hw hS (c_L_pull_1 hl G f8 ly le xs1 (jE (eSt S0) (e8r S1.1 S1.2.1 S1.2.2.1 S1.2.2.2.1 S1.2.2.2.2.1 S1.2.2.2.2.2.1 S1.2.2.2.2.2.2.1 (nI S1.2.2.2.2.2.2.2.2.length))) h18 h14 L1.length (show nI S1.2.2.2.2.2.2.2.2.length = nI (L1.length + 1) from by rw [hlk]) (by omega)) mS_L_pull qM_L_123 rfl rfl hl9.1 (Nat.le_of_ble_eq_true rfl) ⟨⟨Nat.le_of_ble_eq_true rfl, Nat.le_of_ble_eq_true rfl⟩, Nat.le_of_ble_eq_true rfl, Nat.le_of_ble_eq_true rfl⟩ dL_links_794 (fun E ce q9 f19 H locs hPX hw hS hce hcv hcl => ?_) (fun v f19 H locs hP hw hS => ?_)
          · exact hPX.elim
          · obtain ⟨ev9, h20, h21, k22⟩ := hP
            subst ev9
            rw [show (upd (jE (eSt S0) (e8r S1.1 S1.2.1 S1.2.2.1 S1.2.2.2.1 S1.2.2.2.2.1 S1.2.2.2.2.2.1 S1.2.2.2.2.2.2.1 (nI S1.2.2.2.2.2.2.2.2.length))) 15 (nI L1.length) : Nat → Int32) = (jE (eSt S0) (e8r S1.1 S1.2.1 S1.2.2.1 S1.2.2.2.1 S1.2.2.2.2.1 S1.2.2.2.2.2.1 S1.2.2.2.2.2.2.1 (nI L1.length))) from (by rw [show 15 = 8 + 7 from rfl, jE_u1, e8_u7])] at h21
            rw [show nI L1.length = nI (takeS S1).2.2.2.2.2.2.2.2.length from (show _ = nI S1.2.2.2.2.2.2.2.2.tail.length from by rw [hLk]; rfl)] at h21
            have h23 : f19 le = some (.inl (cI G, 16, .inl (jE (eSt S0) (e8r ((takeS S1).1) ((takeS S1).2.1) ((takeS S1).2.2.1) ((takeS S1).2.2.2.1) ((takeS S1).2.2.2.2.1) ((takeS S1).2.2.2.2.2.1) ((takeS S1).2.2.2.2.2.2.1) (nI (takeS S1).2.2.2.2.2.2.2.2.length))))) := h21
            refine W.eq (g2 := F0 m 797 ls [.long (xs1 0)]) rfl ?_
            refine hp_cl (v := lN (pkN r)) hXk.hd ?_
            refine lv_lstore (lv' := [(14, .long (lN (pkN r))), (13, .int (nI j13)), (12, .ref ly), (11, .int 8), (10, .int 1), (0, .ref xo), (1, .int (nI ac)), (2, .int u), (3, .int z), (4, .ref lx), (5, .ref ly), (6, .ref lw), (7, .ref la), (8, .ref lq), (9, .ref le)]) hx hb dL_links_797 hl9 (by decide) rfl (fun ls hl9 => ?_)
            refine lv_lload hx hb dL_links_799 (lv_at hl9 0 rfl) ?_
            refine lv_ldc2 (v := 7) hx hb B0.2.2.2.1 (B0.2.2.2.2.1 _ qK_L_81) dL_links_801 ?_
            refine hp_cl (v := lN 7) rfl ?_
            refine lv_land hx hb dL_links_804 ?_
            refine hp_cl (v := (lN ((pkN r) % 8))) (g_mask (s := 3) (p := 8) rfl (by omega) (by first | exact pkN_lt hFo hbo | exact Nat.lt_trans (pkN_lt hFo hbo) (by decide))) ?_
            refine lv_l2i (v := (nI ((pkN r) % 8))) hx hb dL_links_805 (lN_i _) ?_
            refine hp_c (v := r.1) (by rw [pkN_k hFo hbo]; exact hFo.r1) ?_
            refine lv_istore (lv' := [(16, .int r.1), (14, .long (lN (pkN r))), (13, .int (nI j13)), (12, .ref ly), (11, .int 8), (10, .int 1), (0, .ref xo), (1, .int (nI ac)), (2, .int u), (3, .int z), (4, .ref lx), (5, .ref ly), (6, .ref lw), (7, .ref la), (8, .ref lq), (9, .ref le)]) hx hb dL_links_806 hl9 (by decide) rfl (fun ls hl9 => ?_)
            refine lv_iload_n hx hb dL_links_808 rfl (lv_at hl9 7 rfl) ?_
            refine lv_bipush (v := 22) hx hb dL_links_809 (by decide) ?_
            refine lv_icmp_ge (tgt := 858) hx hb dL_links_811 (by decide) (fun c24 => ?_) (fun c24 => ?_)
            · refine lv_aload hx hb dL_links_858 (lv_at hl9 15 rfl) ?_
              refine lv_iload hx hb dL_links_860 (lv_at hl9 4 rfl) ?_
              refine lv_iconst (v := 5) hx hb dL_links_862 (by decide) ?_
              refine lv_iadd hx hb dL_links_863 ?_
              refine hp_c (v := 13) (by decide) ?_
              refine lv_dup2_11 hx hb dL_links_864 rfl rfl ?_
              refine hp_iald B0 hw h23 (by unfold vp_in; decide) dL_links_865 ?_
              refine hp_c (v := (takeS S1).2.2.2.2.2.1) (rfl) ?_
              refine lv_iconst (v := 1) hx hb dL_links_866 (by decide) ?_
              refine lv_iadd hx hb dL_links_867 ?_
              refine hp_iast B0 hw hS h23 (by unfold vp_in; decide) dL_links_868 (fun H locs f25 ef25 hw hS => ?_)
              rw [show (upd (jE (eSt S0) (e8r ((takeS S1).1) ((takeS S1).2.1) ((takeS S1).2.2.1) ((takeS S1).2.2.2.1) ((takeS S1).2.2.2.2.1) ((takeS S1).2.2.2.2.2.1) ((takeS S1).2.2.2.2.2.2.1) (nI (takeS S1).2.2.2.2.2.2.2.2.length))) (13 : Int32).toNatClampNeg (((takeS S1).2.2.2.2.2.1) + 1) : Nat → Int32) = (jE (eSt S0) (e8r ((takeS S1).1) ((takeS S1).2.1) ((takeS S1).2.2.1) ((takeS S1).2.2.2.1) ((takeS S1).2.2.2.2.1) (((takeS S1).2.2.2.2.2.1) + 1) ((takeS S1).2.2.2.2.2.2.1) (nI (takeS S1).2.2.2.2.2.2.2.2.length))) from (by rw [show (13 : Int32).toNatClampNeg = 8 + 5 from rfl, jE_u1, e8_u5])] at ef25
              have h26 : f25 le = some (.inl (cI G, 16, .inl (jE (eSt S0) (e8r ((takeS S1).1) ((takeS S1).2.1) ((takeS S1).2.2.1) ((takeS S1).2.2.2.1) ((takeS S1).2.2.2.2.1) (((takeS S1).2.2.2.2.2.1) + 1) ((takeS S1).2.2.2.2.2.2.1) (nI (takeS S1).2.2.2.2.2.2.2.2.length))))) := by rw [ef25, va_up_self]
              have h27 : f25 le = some (.inl (cI G, 16, .inl (jE (eSt S0) (e8r ((missS (takeS S1)).1) ((missS (takeS S1)).2.1) ((missS (takeS S1)).2.2.1) ((missS (takeS S1)).2.2.2.1) ((missS (takeS S1)).2.2.2.2.1) ((missS (takeS S1)).2.2.2.2.2.1) ((missS (takeS S1)).2.2.2.2.2.2.1) (nI (missS (takeS S1)).2.2.2.2.2.2.2.2.length))))) := h26
              refine lv_iload_n hx hb dL_links_869 rfl (lv_at hl9 7 rfl) ?_
              refine lv_bipush (v := 22) hx hb dL_links_870 (by decide) ?_
              refine lv_icmp_ne (tgt := 892) hx hb dL_links_872 (by decide) (fun c28 => ?_) (fun c28 => ?_)
              · obtain ⟨h40a, h40b⟩ := hact (fun e9 => by subst e9; exact absurd (by decide) c28)
                refine lv_lload hx hb dL_links_892 (lv_at hl9 1 rfl) ?_
                refine lv_aload hx hb dL_links_894 (lv_at hl9 3 rfl) ?_
                refine lv_aload hx hb dL_links_896 (lv_at hl9 13 rfl) ?_
                refine lv_aload hx hb dL_links_898 (lv_at hl9 14 rfl) ?_
                refine lv_aload hx hb dL_links_900 (lv_at hl9 15 rfl) ?_
                refine lv_iload hx hb dL_links_902 (lv_at hl9 5 rfl) ?_
                have h29 : f25 le = some (.inl (cI G, 16, .inl (jE (eSt S0) (e8r ((missS (takeS S1)).1) ((missS (takeS S1)).2.1) ((missS (takeS S1)).2.2.1) ((missS (takeS S1)).2.2.2.1) ((missS (takeS S1)).2.2.2.2.1) ((missS (takeS S1)).2.2.2.2.2.1) ((missS (takeS S1)).2.2.2.2.2.2.1) (nI (missS (takeS S1)).2.2.2.2.2.2.2.2.length))))) := h27
                have h30 : f25 ly = some (.inl (cJ G, 64, .inr (.inl (pullN xs1 L1.length)))) := by rw [ef25, va_up_ne _ _ n_ly_le]; exact h20
                have h31 : f2 la = some (.inl (cI G, 12, .inl (j6r ga0 ga1))) := k4 _ _ k_la (Nat.ne_of_beq_eq_false rfl) (hdos _ (List.mem_cons_of_mem _ (List.mem_cons_of_mem _ (List.mem_cons_of_mem _ List.mem_cons_self))))
                have h32 : f5 la = some (.inl (cI G, 12, .inl (j6r ga0 ga1))) := k7 _ _ h31 (Nat.ne_of_beq_eq_false rfl) (hdos _ (List.mem_cons_of_mem _ (List.mem_cons_of_mem _ (List.mem_cons_of_mem _ List.mem_cons_self))))
                have h33 : f8 la = some (.inl (cI G, 12, .inl (j6r ga0 ga1))) := k11 _ _ h32 (Nat.ne_of_beq_eq_false rfl) (hdos _ (List.mem_cons_of_mem _ (List.mem_cons_of_mem _ (List.mem_cons_of_mem _ List.mem_cons_self))))
                have h34 : f19 la = some (.inl (cI G, 12, .inl (j6r ga0 ga1))) := (hEq.k k22) _ _ h33 (ninc (Ne.symm n_ly_la) (ninc n_la_le nin0))
                have h35 : f25 la = some (.inl (cI G, 12, .inl (j6r ga0 ga1))) := by rw [ef25, va_up_ne _ _ n_la_le]; exact h34
                have h36 : f2 lq = some (.inl (cI G, 12, .inl (j6r S0.2.2.2.2.2.2.2.1 S1.2.2.2.2.2.2.2.1))) := k4 _ _ k_lq (Nat.ne_of_beq_eq_false rfl) (hdos _ (List.mem_cons_of_mem _ (List.mem_cons_of_mem _ (List.mem_cons_of_mem _ (List.mem_cons_of_mem _ List.mem_cons_self)))))
                have h37 : f5 lq = some (.inl (cI G, 12, .inl (j6r S0.2.2.2.2.2.2.2.1 S1.2.2.2.2.2.2.2.1))) := k7 _ _ h36 (Nat.ne_of_beq_eq_false rfl) (hdos _ (List.mem_cons_of_mem _ (List.mem_cons_of_mem _ (List.mem_cons_of_mem _ (List.mem_cons_of_mem _ List.mem_cons_self)))))
                have h38 : f8 lq = some (.inl (cI G, 12, .inl (j6r S0.2.2.2.2.2.2.2.1 S1.2.2.2.2.2.2.2.1))) := k11 _ _ h37 (Nat.ne_of_beq_eq_false rfl) (hdos _ (List.mem_cons_of_mem _ (List.mem_cons_of_mem _ (List.mem_cons_of_mem _ (List.mem_cons_of_mem _ List.mem_cons_self)))))
                have h39 : f19 lq = some (.inl (cI G, 12, .inl (j6r S0.2.2.2.2.2.2.2.1 S1.2.2.2.2.2.2.2.1))) := (hEq.k k22) _ _ h38 (ninc (Ne.symm n_ly_lq) (ninc n_lq_le nin0))
                have h40 : f25 lq = some (.inl (cI G, 12, .inl (j6r S0.2.2.2.2.2.2.2.1 S1.2.2.2.2.2.2.2.1))) := by rw [ef25, va_up_ne _ _ n_lq_le]; exact h39
                refine hp_S (As := [.long (lN (pkN r)), .ref ly, .ref la, .ref lq, .ref le, .int 1]) (rest := []) B0 hw hS (c_L_take_1 hl G f25 ly la lq le (missS (takeS S1)).1 (missS (takeS S1)).2.1 (missS (takeS S1)).2.2.1 (missS (takeS S1)).2.2.2.1 (missS (takeS S1)).2.2.2.2.1 (missS (takeS S1)).2.2.2.2.2.1 (missS (takeS S1)).2.2.2.2.2.2.1 (missS (takeS S1)).2.2.2.2.2.2.2.1 (missS (takeS S1)).2.2.2.2.2.2.2.2 (eSt S0) ga1 ga0 S0.2.2.2.2.2.2.2.1 b (SOK.miss (SOK.take hSo1)) (by omega) r.1 r.2.1 r.2.2.1 r.2.2.2 hFo hga1 n_la_lq (pullN xs1 L1.length) (show XS (pullN xs1 L1.length) (takeS S1).2.2.2.2.2.2.2.2 from (show XS _ S1.2.2.2.2.2.2.2.2.tail from by rw [hLk]; exact hXk.tail)) (Nat.lt_of_le_of_lt (Nat.le_trans (takeS_len S1) hl1) (by decide)) h30 h35 h40 h29) mS_L_take qM_L_127 rfl rfl hl9.1 (Nat.le_of_ble_eq_true rfl) ⟨⟨Nat.le_of_ble_eq_true rfl, Nat.le_of_ble_eq_true rfl⟩, Nat.le_of_ble_eq_true rfl, Nat.le_of_ble_eq_true rfl⟩ dL_links_904 (fun E ce q9 f41 H locs hPX hw hS hce hcv hcl => ?_) (fun v f41 H locs hP hw hS => ?_)
                · exact hPX.elim
                · obtain ⟨ev9, ⟨xs42, h43, hX44⟩, h45, h46, k47⟩ := hP
                  subst ev9
                  have h45 : f41 lq = some (.inl (cI G, 12, .inl (j6r S0.2.2.2.2.2.2.2.1 (hearF ga1 r (missS (takeS S1))).2.2.2.2.2.2.2.1))) := h45
                  have h48 : f41 le = some (.inl (cI G, 16, .inl (jE (eSt S0) (e8r ((hearF ga1 r (missS (takeS S1))).1) ((hearF ga1 r (missS (takeS S1))).2.1) ((hearF ga1 r (missS (takeS S1))).2.2.1) ((hearF ga1 r (missS (takeS S1))).2.2.2.1) ((hearF ga1 r (missS (takeS S1))).2.2.2.2.1) ((hearF ga1 r (missS (takeS S1))).2.2.2.2.2.1) ((hearF ga1 r (missS (takeS S1))).2.2.2.2.2.2.1) (nI (hearF ga1 r (missS (takeS S1))).2.2.2.2.2.2.2.2.length))))) := h46
                  refine W.eq (g2 := F0 m 907 ls []) rfl ?_
                  refine lv_aload_n hx hb dL_links_907 rfl (lv_at hl9 6 rfl) ?_
                  refine lv_iload hx hb dL_links_908 (lv_at hl9 5 rfl) ?_
                  have h49 : f2 lx = some (.inl (cJ G, 64, .inr (.inl xs0))) := k4 _ _ k_lx (Nat.ne_of_beq_eq_false rfl) (hdos _ List.mem_cons_self)
                  have h50 : f5 lx = some (.inl (cJ G, 64, .inr (.inl xs0))) := k7 _ _ h49 (Nat.ne_of_beq_eq_false rfl) (hdos _ List.mem_cons_self)
                  have h51 : f8 lx = some (.inl (cJ G, 64, .inr (.inl xs0))) := k11 _ _ h50 (Nat.ne_of_beq_eq_false rfl) (hdos _ List.mem_cons_self)
                  have h52 : f2 lw = some (.inl (cI G, 12, .inl (j6r gw0 gw1))) := k4 _ _ k_lw (Nat.ne_of_beq_eq_false rfl) (hdos _ (List.mem_cons_of_mem _ (List.mem_cons_of_mem _ List.mem_cons_self)))
                  have h53 : f5 lw = some (.inl (cI G, 12, .inl (j6r gw0 gw1))) := k7 _ _ h52 (Nat.ne_of_beq_eq_false rfl) (hdos _ (List.mem_cons_of_mem _ (List.mem_cons_of_mem _ List.mem_cons_self)))
                  have h54 : f8 lw = some (.inl (cI G, 12, .inl (j6r gw0 gw1))) := k11 _ _ h53 (Nat.ne_of_beq_eq_false rfl) (hdos _ (List.mem_cons_of_mem _ (List.mem_cons_of_mem _ List.mem_cons_self)))
                  have h55 : f19 lx = some (.inl (cJ G, 64, .inr (.inl xs0))) := (hEq.k k22) _ _ h51 (ninc n_lx_ly (ninc n_lx_le nin0))
                  have h56 : f25 lx = some (.inl (cJ G, 64, .inr (.inl xs0))) := by rw [ef25, va_up_ne _ _ n_lx_le]; exact h55
                  have h57 : f41 lx = some (.inl (cJ G, 64, .inr (.inl xs0))) := (hEq.k k47) _ _ h56 (ninc n_lx_ly (ninc n_lx_lq (ninc n_lx_le nin0)))
                  have h58 : f19 lw = some (.inl (cI G, 12, .inl (j6r gw0 gw1))) := (hEq.k k22) _ _ h54 (ninc (Ne.symm n_ly_lw) (ninc n_lw_le nin0))
                  have h59 : f25 lw = some (.inl (cI G, 12, .inl (j6r gw0 gw1))) := by rw [ef25, va_up_ne _ _ n_lw_le]; exact h58
                  have h60 : f41 lw = some (.inl (cI G, 12, .inl (j6r gw0 gw1))) := (hEq.k k47) _ _ h59 (ninc (Ne.symm n_ly_lw) (ninc n_lw_lq (ninc n_lw_le nin0)))
                  have h61 : f41 la = some (.inl (cI G, 12, .inl (j6r ga0 ga1))) := (hEq.k k47) _ _ h35 (ninc (Ne.symm n_ly_la) (ninc n_la_lq (ninc n_la_le nin0)))
                  have hC62 : CXW G f41 xo ez eo bu nw0 na0 nq0 nr0 nw1 na1 nq1 nr1 bs bp bh bf bl bg S0 S1 gw0 ga0 gw1 ga1 n a cg x sa pk fl gv gh gl := CXW.eq hC10 ((show hEq [lx, ly, lw, la, lq, le] f8 f19 from (hEq.mono k22 (sub_cons (List.mem_cons_of_mem _ List.mem_cons_self) (sub_cons (List.mem_cons_of_mem _ (List.mem_cons_of_mem _ (List.mem_cons_of_mem _ (List.mem_cons_of_mem _ (List.mem_cons_of_mem _ List.mem_cons_self))))) sub_nil)))).tr ((show hEq [lx, ly, lw, la, lq, le] f19 f25 from (by rw [ef25]; exact hEq.up (List.mem_cons_of_mem _ (List.mem_cons_of_mem _ (List.mem_cons_of_mem _ (List.mem_cons_of_mem _ (List.mem_cons_of_mem _ List.mem_cons_self))))))).tr (show hEq [lx, ly, lw, la, lq, le] f25 f41 from (hEq.mono k47 (sub_cons (List.mem_cons_of_mem _ List.mem_cons_self) (sub_cons (List.mem_cons_of_mem _ (List.mem_cons_of_mem _ (List.mem_cons_of_mem _ (List.mem_cons_of_mem _ List.mem_cons_self)))) (sub_cons (List.mem_cons_of_mem _ (List.mem_cons_of_mem _ (List.mem_cons_of_mem _ (List.mem_cons_of_mem _ (List.mem_cons_of_mem _ List.mem_cons_self))))) sub_nil))))))) hdis (fun b9 hb9 => by
                      simp only [List.mem_cons, List.not_mem_nil, or_false] at hb9
                      rcases hb9 with hb9 | hb9 | hb9 | hb9 | hb9 | hb9
                      · rw [hb9]; exact ⟨_, _, h51, h57, (Nat.ne_of_beq_eq_false rfl), (Nat.ne_of_beq_eq_false rfl)⟩
                      · rw [hb9]; exact ⟨_, _, h18, h43, (Nat.ne_of_beq_eq_false rfl), (Nat.ne_of_beq_eq_false rfl)⟩
                      · rw [hb9]; exact ⟨_, _, h54, h60, (Nat.ne_of_beq_eq_false rfl), (Nat.ne_of_beq_eq_false rfl)⟩
                      · rw [hb9]; exact ⟨_, _, h33, h61, (Nat.ne_of_beq_eq_false rfl), (Nat.ne_of_beq_eq_false rfl)⟩
                      · rw [hb9]; exact ⟨_, _, h38, h45, (Nat.ne_of_beq_eq_false rfl), (Nat.ne_of_beq_eq_false rfl)⟩
                      · rw [hb9]; exact ⟨_, _, h14, h48, (Nat.ne_of_beq_eq_false rfl), (Nat.ne_of_beq_eq_false rfl)⟩)
                  refine hp_SH (As := [.ref xo, .int 1]) (rest := []) B0 hw hS (c_V_loop_1 hl G f41 xo ez eo bu nw0 na0 nq0 nr0 nw1 na1 nq1 nr1 bs bp bh bf bl bg S0 S1 gw0 ga0 gw1 ga1 n a cg x sa pk fl gv gh gl hC62 (Nat.lt_of_le_of_lt hl0 (by decide)) (Nat.lt_of_le_of_lt hl1 (by decide)) (by rw [hLk]; exact fun h9 => nomatch h9)) mH_L_loop qM_L_121 rfl rfl hl9.1 (Nat.le_of_ble_eq_true rfl) ⟨⟨Nat.le_of_ble_eq_true rfl, Nat.le_of_ble_eq_true rfl⟩, Nat.le_of_ble_eq_true rfl, Nat.le_of_ble_eq_true rfl⟩ dL_links_910 (fun E ce q9 f63 H locs hPX hw hS hce hcv hcl => ?_) (fun v f63 H locs hP hw hS => ?_)
                  · exact hPX.elim
                  · obtain ⟨r9, L9, eL9, ev9, hC64, k65⟩ := hP
                    obtain ⟨er9, -⟩ := List.cons.inj (eL9.symm.trans hLk)
                    rw [er9] at ev9
                    try rw [er9] at hC64
                    subst ev9
                    have hC64 : CXW G f63 xo ez eo bu nw0 na0 nq0 nr0 nw1 na1 nq1 nr1 bs bp bh bf bl bg S0 (hearF ga1 r (missS (takeS S1))) gw0 ga0 gw1 ga1 n a cg x sa pk fl gv gh gl := hC64
                    refine W.eq (g2 := F0 m 913 ls [.int r.1]) rfl ?_
                    refine lv_iload hx hb dL_links_913 (lv_at hl9 0 rfl) ?_
                    refine lv_icmp_ne (tgt := 922) hx hb dL_links_915 (by decide) (fun c9 => absurd rfl c9) (fun _ => ?_)
                    refine lv_iconst (v := 1) hx hb dL_links_918 (by decide) ?_
                    refine lv_goto (tgt := 923) hx hb dL_links_919 (by decide) ?_
                    have h66 : f63 lx = some (.inl (cJ G, 64, .inr (.inl xs0))) := k65 _ _ h57 (Nat.ne_of_beq_eq_false rfl) (hdos _ List.mem_cons_self)
                    have h67 : f63 ly = some (.inl (cJ G, 64, .inr (.inl xs42))) := k65 _ _ h43 (Nat.ne_of_beq_eq_false rfl) (hdos _ (List.mem_cons_of_mem _ List.mem_cons_self))
                    have h68 : f63 lw = some (.inl (cI G, 12, .inl (j6r gw0 gw1))) := k65 _ _ h60 (Nat.ne_of_beq_eq_false rfl) (hdos _ (List.mem_cons_of_mem _ (List.mem_cons_of_mem _ List.mem_cons_self)))
                    have h69 : f63 la = some (.inl (cI G, 12, .inl (j6r ga0 ga1))) := k65 _ _ h61 (Nat.ne_of_beq_eq_false rfl) (hdos _ (List.mem_cons_of_mem _ (List.mem_cons_of_mem _ (List.mem_cons_of_mem _ List.mem_cons_self))))
                    have h70 : f63 lq = some (.inl (cI G, 12, .inl (j6r S0.2.2.2.2.2.2.2.1 (hearF ga1 r (missS (takeS S1))).2.2.2.2.2.2.2.1))) := k65 _ _ h45 (Nat.ne_of_beq_eq_false rfl) (hdos _ (List.mem_cons_of_mem _ (List.mem_cons_of_mem _ (List.mem_cons_of_mem _ (List.mem_cons_of_mem _ List.mem_cons_self)))))
                    have h71 : f63 le = some (.inl (cI G, 16, .inl (jE (eSt S0) (e8r ((hearF ga1 r (missS (takeS S1))).1) ((hearF ga1 r (missS (takeS S1))).2.1) ((hearF ga1 r (missS (takeS S1))).2.2.1) ((hearF ga1 r (missS (takeS S1))).2.2.2.1) ((hearF ga1 r (missS (takeS S1))).2.2.2.2.1) ((hearF ga1 r (missS (takeS S1))).2.2.2.2.2.1) ((hearF ga1 r (missS (takeS S1))).2.2.2.2.2.2.1) (nI (hearF ga1 r (missS (takeS S1))).2.2.2.2.2.2.2.2.length))))) := k65 _ _ h48 (Nat.ne_of_beq_eq_false rfl) (hdos _ (List.mem_cons_of_mem _ (List.mem_cons_of_mem _ (List.mem_cons_of_mem _ (List.mem_cons_of_mem _ (List.mem_cons_of_mem _ List.mem_cons_self))))))
                    exact hp_zret (v := 1) B0 hw hS hr ⟨Nat.le_of_ble_eq_true rfl, Nat.le_of_ble_eq_true rfl⟩ (rfl) dL_links_923 (⟨rfl, S0, (hearF ga1 r (missS (takeS S1))), gw0, ga0, gw1, ga1, hC64, ⟨⟨_, h66, hX0⟩, ⟨_, h67, (show XS xs42 (hearF ga1 r (missS (takeS S1))).2.2.2.2.2.2.2.2 from hX44)⟩, h68, h69, h70, h71⟩, ⟨SOK.mono hSo0 (by omega), SOK.mono (SOK.hear (SOK.miss (SOK.take hSo1)) (by omega) hFo) (by omega), hgw0, hga0, hgw1, hga1⟩, hl0, (Nat.le_trans (hearF_len ga1 r (missS (takeS S1))) (Nat.le_trans (Nat.add_le_add_right (takeS_len S1) 2) (by omega))), ((show hKn [lx, ly, lw, la, lq, le, xo, ez, eo, bu, nw0, na0, nq0, nr0, nw1, na1, nq1, nr1, bs, bp, bh, bf, bl, bg] f f2 from (hKn.mono k4 sbA)).tr ((show hKn [lx, ly, lw, la, lq, le, xo, ez, eo, bu, nw0, na0, nq0, nr0, nw1, na1, nq1, nr1, bs, bp, bh, bf, bl, bg] f2 f5 from (hKn.mono k7 sbA)).tr ((show hKn [lx, ly, lw, la, lq, le, xo, ez, eo, bu, nw0, na0, nq0, nr0, nw1, na1, nq1, nr1, bs, bp, bh, bf, bl, bg] f5 f8 from (hKn.mono k11 sbA)).tr ((show hKn [lx, ly, lw, la, lq, le, xo, ez, eo, bu, nw0, na0, nq0, nr0, nw1, na1, nq1, nr1, bs, bp, bh, bf, bl, bg] f8 f19 from (hKn.mono (hKn.eq k22) (sub_cons (List.mem_cons_of_mem _ List.mem_cons_self) (sub_cons (List.mem_cons_of_mem _ (List.mem_cons_of_mem _ (List.mem_cons_of_mem _ (List.mem_cons_of_mem _ (List.mem_cons_of_mem _ List.mem_cons_self))))) sub_nil)))).tr ((show hKn [lx, ly, lw, la, lq, le, xo, ez, eo, bu, nw0, na0, nq0, nr0, nw1, na1, nq1, nr1, bs, bp, bh, bf, bl, bg] f19 f25 from (by rw [ef25]; exact hKn.up (List.mem_cons_of_mem _ (List.mem_cons_of_mem _ (List.mem_cons_of_mem _ (List.mem_cons_of_mem _ (List.mem_cons_of_mem _ List.mem_cons_self))))))).tr ((show hKn [lx, ly, lw, la, lq, le, xo, ez, eo, bu, nw0, na0, nq0, nr0, nw1, na1, nq1, nr1, bs, bp, bh, bf, bl, bg] f25 f41 from (hKn.mono (hKn.eq k47) (sub_cons (List.mem_cons_of_mem _ List.mem_cons_self) (sub_cons (List.mem_cons_of_mem _ (List.mem_cons_of_mem _ (List.mem_cons_of_mem _ (List.mem_cons_of_mem _ List.mem_cons_self)))) (sub_cons (List.mem_cons_of_mem _ (List.mem_cons_of_mem _ (List.mem_cons_of_mem _ (List.mem_cons_of_mem _ (List.mem_cons_of_mem _ List.mem_cons_self))))) sub_nil))))).tr (show hKn [lx, ly, lw, la, lq, le, xo, ez, eo, bu, nw0, na0, nq0, nr0, nw1, na1, nq1, nr1, bs, bp, bh, bf, bl, bg] f41 f63 from (hKn.mono k65 sbA))))))))⟩)
              · refine lv_aload_n hx hb dL_links_875 rfl (lv_at hl9 6 rfl) ?_
                refine lv_iload hx hb dL_links_876 (lv_at hl9 5 rfl) ?_
                have h72 : f2 lx = some (.inl (cJ G, 64, .inr (.inl xs0))) := k4 _ _ k_lx (Nat.ne_of_beq_eq_false rfl) (hdos _ List.mem_cons_self)
                have h73 : f5 lx = some (.inl (cJ G, 64, .inr (.inl xs0))) := k7 _ _ h72 (Nat.ne_of_beq_eq_false rfl) (hdos _ List.mem_cons_self)
                have h74 : f8 lx = some (.inl (cJ G, 64, .inr (.inl xs0))) := k11 _ _ h73 (Nat.ne_of_beq_eq_false rfl) (hdos _ List.mem_cons_self)
                have h75 : f2 lw = some (.inl (cI G, 12, .inl (j6r gw0 gw1))) := k4 _ _ k_lw (Nat.ne_of_beq_eq_false rfl) (hdos _ (List.mem_cons_of_mem _ (List.mem_cons_of_mem _ List.mem_cons_self)))
                have h76 : f5 lw = some (.inl (cI G, 12, .inl (j6r gw0 gw1))) := k7 _ _ h75 (Nat.ne_of_beq_eq_false rfl) (hdos _ (List.mem_cons_of_mem _ (List.mem_cons_of_mem _ List.mem_cons_self)))
                have h77 : f8 lw = some (.inl (cI G, 12, .inl (j6r gw0 gw1))) := k11 _ _ h76 (Nat.ne_of_beq_eq_false rfl) (hdos _ (List.mem_cons_of_mem _ (List.mem_cons_of_mem _ List.mem_cons_self)))
                have h78 : f2 la = some (.inl (cI G, 12, .inl (j6r ga0 ga1))) := k4 _ _ k_la (Nat.ne_of_beq_eq_false rfl) (hdos _ (List.mem_cons_of_mem _ (List.mem_cons_of_mem _ (List.mem_cons_of_mem _ List.mem_cons_self))))
                have h79 : f5 la = some (.inl (cI G, 12, .inl (j6r ga0 ga1))) := k7 _ _ h78 (Nat.ne_of_beq_eq_false rfl) (hdos _ (List.mem_cons_of_mem _ (List.mem_cons_of_mem _ (List.mem_cons_of_mem _ List.mem_cons_self))))
                have h80 : f8 la = some (.inl (cI G, 12, .inl (j6r ga0 ga1))) := k11 _ _ h79 (Nat.ne_of_beq_eq_false rfl) (hdos _ (List.mem_cons_of_mem _ (List.mem_cons_of_mem _ (List.mem_cons_of_mem _ List.mem_cons_self))))
                have h81 : f2 lq = some (.inl (cI G, 12, .inl (j6r S0.2.2.2.2.2.2.2.1 S1.2.2.2.2.2.2.2.1))) := k4 _ _ k_lq (Nat.ne_of_beq_eq_false rfl) (hdos _ (List.mem_cons_of_mem _ (List.mem_cons_of_mem _ (List.mem_cons_of_mem _ (List.mem_cons_of_mem _ List.mem_cons_self)))))
                have h82 : f5 lq = some (.inl (cI G, 12, .inl (j6r S0.2.2.2.2.2.2.2.1 S1.2.2.2.2.2.2.2.1))) := k7 _ _ h81 (Nat.ne_of_beq_eq_false rfl) (hdos _ (List.mem_cons_of_mem _ (List.mem_cons_of_mem _ (List.mem_cons_of_mem _ (List.mem_cons_of_mem _ List.mem_cons_self)))))
                have h83 : f8 lq = some (.inl (cI G, 12, .inl (j6r S0.2.2.2.2.2.2.2.1 S1.2.2.2.2.2.2.2.1))) := k11 _ _ h82 (Nat.ne_of_beq_eq_false rfl) (hdos _ (List.mem_cons_of_mem _ (List.mem_cons_of_mem _ (List.mem_cons_of_mem _ (List.mem_cons_of_mem _ List.mem_cons_self)))))
                have h84 : f19 lx = some (.inl (cJ G, 64, .inr (.inl xs0))) := (hEq.k k22) _ _ h74 (ninc n_lx_ly (ninc n_lx_le nin0))
                have h85 : f25 lx = some (.inl (cJ G, 64, .inr (.inl xs0))) := by rw [ef25, va_up_ne _ _ n_lx_le]; exact h84
                have h86 : f25 ly = some (.inl (cJ G, 64, .inr (.inl (pullN xs1 L1.length)))) := by rw [ef25, va_up_ne _ _ n_ly_le]; exact h20
                have h87 : f19 lw = some (.inl (cI G, 12, .inl (j6r gw0 gw1))) := (hEq.k k22) _ _ h77 (ninc (Ne.symm n_ly_lw) (ninc n_lw_le nin0))
                have h88 : f25 lw = some (.inl (cI G, 12, .inl (j6r gw0 gw1))) := by rw [ef25, va_up_ne _ _ n_lw_le]; exact h87
                have h89 : f19 la = some (.inl (cI G, 12, .inl (j6r ga0 ga1))) := (hEq.k k22) _ _ h80 (ninc (Ne.symm n_ly_la) (ninc n_la_le nin0))
                have h90 : f25 la = some (.inl (cI G, 12, .inl (j6r ga0 ga1))) := by rw [ef25, va_up_ne _ _ n_la_le]; exact h89
                have h91 : f19 lq = some (.inl (cI G, 12, .inl (j6r S0.2.2.2.2.2.2.2.1 S1.2.2.2.2.2.2.2.1))) := (hEq.k k22) _ _ h83 (ninc (Ne.symm n_ly_lq) (ninc n_lq_le nin0))
                have h92 : f25 lq = some (.inl (cI G, 12, .inl (j6r S0.2.2.2.2.2.2.2.1 S1.2.2.2.2.2.2.2.1))) := by rw [ef25, va_up_ne _ _ n_lq_le]; exact h91
                have hC93 : CXW G f25 xo ez eo bu nw0 na0 nq0 nr0 nw1 na1 nq1 nr1 bs bp bh bf bl bg S0 S1 gw0 ga0 gw1 ga1 n a cg x sa pk fl gv gh gl := CXW.eq hC10 ((show hEq [lx, ly, lw, la, lq, le] f8 f19 from (hEq.mono k22 (sub_cons (List.mem_cons_of_mem _ List.mem_cons_self) (sub_cons (List.mem_cons_of_mem _ (List.mem_cons_of_mem _ (List.mem_cons_of_mem _ (List.mem_cons_of_mem _ (List.mem_cons_of_mem _ List.mem_cons_self))))) sub_nil)))).tr (show hEq [lx, ly, lw, la, lq, le] f19 f25 from (by rw [ef25]; exact hEq.up (List.mem_cons_of_mem _ (List.mem_cons_of_mem _ (List.mem_cons_of_mem _ (List.mem_cons_of_mem _ (List.mem_cons_of_mem _ List.mem_cons_self)))))))) hdis (fun b9 hb9 => by
                    simp only [List.mem_cons, List.not_mem_nil, or_false] at hb9
                    rcases hb9 with hb9 | hb9 | hb9 | hb9 | hb9 | hb9
                    · rw [hb9]; exact ⟨_, _, h74, h85, (Nat.ne_of_beq_eq_false rfl), (Nat.ne_of_beq_eq_false rfl)⟩
                    · rw [hb9]; exact ⟨_, _, h18, h86, (Nat.ne_of_beq_eq_false rfl), (Nat.ne_of_beq_eq_false rfl)⟩
                    · rw [hb9]; exact ⟨_, _, h77, h88, (Nat.ne_of_beq_eq_false rfl), (Nat.ne_of_beq_eq_false rfl)⟩
                    · rw [hb9]; exact ⟨_, _, h80, h90, (Nat.ne_of_beq_eq_false rfl), (Nat.ne_of_beq_eq_false rfl)⟩
                    · rw [hb9]; exact ⟨_, _, h83, h92, (Nat.ne_of_beq_eq_false rfl), (Nat.ne_of_beq_eq_false rfl)⟩
                    · rw [hb9]; exact ⟨_, _, h14, h27, (Nat.ne_of_beq_eq_false rfl), (Nat.ne_of_beq_eq_false rfl)⟩)
                refine hp_SH (As := [.ref xo, .int 1]) (rest := []) B0 hw hS (c_V_lose_1 hl G f25 xo ez eo bu nw0 na0 nq0 nr0 nw1 na1 nq1 nr1 bs bp bh bf bl bg S0 S1 gw0 ga0 gw1 ga1 n a cg x sa pk fl gv gh gl hC93 (Nat.lt_of_le_of_lt hl0 (by decide)) (Nat.lt_of_le_of_lt hl1 (by decide)) (by rw [hLk]; exact fun h9 => nomatch h9)) mH_L_lose qM_L_119 rfl rfl hl9.1 (Nat.le_of_ble_eq_true rfl) ⟨⟨Nat.le_of_ble_eq_true rfl, Nat.le_of_ble_eq_true rfl⟩, Nat.le_of_ble_eq_true rfl, Nat.le_of_ble_eq_true rfl⟩ dL_links_878 (fun E ce q9 f94 H locs hPX hw hS hce hcv hcl => ?_) (fun v f94 H locs hP hw hS => ?_)
                · exact hPX.elim
                · obtain ⟨r9, L9, eL9, ev9, hC95, k96⟩ := hP
                  obtain ⟨er9, -⟩ := List.cons.inj (eL9.symm.trans hLk)
                  rw [er9] at ev9
                  try rw [er9] at hC95
                  subst ev9
                  have hC95 : CXW G f94 xo ez eo bu nw0 na0 nq0 nr0 nw1 na1 nq1 nr1 bs bp bh bf bl bg S0 (missS (takeS S1)) gw0 ga0 gw1 ga1 n a cg x sa pk fl gv gh gl := hC95
                  refine W.eq (g2 := F0 m 881 ls [.int r.1]) rfl ?_
                  refine lv_iload hx hb dL_links_881 (lv_at hl9 0 rfl) ?_
                  refine lv_icmp_ne (tgt := 890) hx hb dL_links_883 (by decide) (fun c9 => absurd rfl c9) (fun _ => ?_)
                  refine lv_iconst (v := 1) hx hb dL_links_886 (by decide) ?_
                  refine lv_goto (tgt := 891) hx hb dL_links_887 (by decide) ?_
                  have h97 : f94 lx = some (.inl (cJ G, 64, .inr (.inl xs0))) := k96 _ _ h85 (Nat.ne_of_beq_eq_false rfl) (hdos _ List.mem_cons_self)
                  have h98 : f94 ly = some (.inl (cJ G, 64, .inr (.inl (pullN xs1 L1.length)))) := k96 _ _ h86 (Nat.ne_of_beq_eq_false rfl) (hdos _ (List.mem_cons_of_mem _ List.mem_cons_self))
                  have h99 : f94 lw = some (.inl (cI G, 12, .inl (j6r gw0 gw1))) := k96 _ _ h88 (Nat.ne_of_beq_eq_false rfl) (hdos _ (List.mem_cons_of_mem _ (List.mem_cons_of_mem _ List.mem_cons_self)))
                  have h100 : f94 la = some (.inl (cI G, 12, .inl (j6r ga0 ga1))) := k96 _ _ h90 (Nat.ne_of_beq_eq_false rfl) (hdos _ (List.mem_cons_of_mem _ (List.mem_cons_of_mem _ (List.mem_cons_of_mem _ List.mem_cons_self))))
                  have h101 : f94 lq = some (.inl (cI G, 12, .inl (j6r S0.2.2.2.2.2.2.2.1 S1.2.2.2.2.2.2.2.1))) := k96 _ _ h92 (Nat.ne_of_beq_eq_false rfl) (hdos _ (List.mem_cons_of_mem _ (List.mem_cons_of_mem _ (List.mem_cons_of_mem _ (List.mem_cons_of_mem _ List.mem_cons_self)))))
                  have h102 : f94 le = some (.inl (cI G, 16, .inl (jE (eSt S0) (e8r ((missS (takeS S1)).1) ((missS (takeS S1)).2.1) ((missS (takeS S1)).2.2.1) ((missS (takeS S1)).2.2.2.1) ((missS (takeS S1)).2.2.2.2.1) ((missS (takeS S1)).2.2.2.2.2.1) ((missS (takeS S1)).2.2.2.2.2.2.1) (nI (missS (takeS S1)).2.2.2.2.2.2.2.2.length))))) := k96 _ _ h27 (Nat.ne_of_beq_eq_false rfl) (hdos _ (List.mem_cons_of_mem _ (List.mem_cons_of_mem _ (List.mem_cons_of_mem _ (List.mem_cons_of_mem _ (List.mem_cons_of_mem _ List.mem_cons_self))))))
                  exact hp_zret (v := 1) B0 hw hS hr ⟨Nat.le_of_ble_eq_true rfl, Nat.le_of_ble_eq_true rfl⟩ (rfl) dL_links_891 (⟨rfl, S0, (missS (takeS S1)), gw0, ga0, gw1, ga1, hC95, ⟨⟨_, h97, hX0⟩, ⟨_, h98, (show XS (pullN xs1 L1.length) (takeS S1).2.2.2.2.2.2.2.2 from (show XS _ S1.2.2.2.2.2.2.2.2.tail from by rw [hLk]; exact hXk.tail))⟩, h99, h100, h101, h102⟩, ⟨SOK.mono hSo0 (by omega), SOK.mono (SOK.miss (SOK.take hSo1)) (by omega), hgw0, hga0, hgw1, hga1⟩, hl0, (Nat.le_trans (takeS_len S1) hl1), ((show hKn [lx, ly, lw, la, lq, le, xo, ez, eo, bu, nw0, na0, nq0, nr0, nw1, na1, nq1, nr1, bs, bp, bh, bf, bl, bg] f f2 from (hKn.mono k4 sbA)).tr ((show hKn [lx, ly, lw, la, lq, le, xo, ez, eo, bu, nw0, na0, nq0, nr0, nw1, na1, nq1, nr1, bs, bp, bh, bf, bl, bg] f2 f5 from (hKn.mono k7 sbA)).tr ((show hKn [lx, ly, lw, la, lq, le, xo, ez, eo, bu, nw0, na0, nq0, nr0, nw1, na1, nq1, nr1, bs, bp, bh, bf, bl, bg] f5 f8 from (hKn.mono k11 sbA)).tr ((show hKn [lx, ly, lw, la, lq, le, xo, ez, eo, bu, nw0, na0, nq0, nr0, nw1, na1, nq1, nr1, bs, bp, bh, bf, bl, bg] f8 f19 from (hKn.mono (hKn.eq k22) (sub_cons (List.mem_cons_of_mem _ List.mem_cons_self) (sub_cons (List.mem_cons_of_mem _ (List.mem_cons_of_mem _ (List.mem_cons_of_mem _ (List.mem_cons_of_mem _ (List.mem_cons_of_mem _ List.mem_cons_self))))) sub_nil)))).tr ((show hKn [lx, ly, lw, la, lq, le, xo, ez, eo, bu, nw0, na0, nq0, nr0, nw1, na1, nq1, nr1, bs, bp, bh, bf, bl, bg] f19 f25 from (by rw [ef25]; exact hKn.up (List.mem_cons_of_mem _ (List.mem_cons_of_mem _ (List.mem_cons_of_mem _ (List.mem_cons_of_mem _ (List.mem_cons_of_mem _ List.mem_cons_self))))))).tr (show hKn [lx, ly, lw, la, lq, le, xo, ez, eo, bu, nw0, na0, nq0, nr0, nw1, na1, nq1, nr1, bs, bp, bh, bf, bl, bg] f25 f94 from (hKn.mono k96 sbA)))))))⟩)
            · obtain ⟨h40a, h40b⟩ := hact (fun e9 => by subst e9; exact absurd (by decide) c24)
              refine lv_lload hx hb dL_links_814 (lv_at hl9 1 rfl) ?_
              refine lv_iload hx hb dL_links_816 (lv_at hl9 5 rfl) ?_
              refine lv_if_ne (tgt := 826) hx hb dL_links_818 (by decide) (fun _ => ?_) (fun c9 => absurd c9 (by decide))
              refine lv_aload hx hb dL_links_826 (lv_at hl9 10 rfl) ?_
              refine lv_aload hx hb dL_links_828 (lv_at hl9 13 rfl) ?_
              refine lv_aload hx hb dL_links_830 (lv_at hl9 14 rfl) ?_
              refine lv_aload hx hb dL_links_832 (lv_at hl9 15 rfl) ?_
              refine lv_iconst (v := 1) hx hb dL_links_834 (by decide) ?_
              refine lv_iload hx hb dL_links_835 (lv_at hl9 5 rfl) ?_
              refine lv_isub hx hb dL_links_837 ?_
              refine hp_c (v := 0) (by decide) ?_
              have h103 : f19 le = some (.inl (cI G, 16, .inl (jE (e8r S0.1 S0.2.1 S0.2.2.1 S0.2.2.2.1 S0.2.2.2.2.1 S0.2.2.2.2.2.1 S0.2.2.2.2.2.2.1 (nI S0.2.2.2.2.2.2.2.2.length)) (eSt (takeS S1))))) := h23
              have h104 : f2 lx = some (.inl (cJ G, 64, .inr (.inl xs0))) := k4 _ _ k_lx (Nat.ne_of_beq_eq_false rfl) (hdos _ List.mem_cons_self)
              have h105 : f5 lx = some (.inl (cJ G, 64, .inr (.inl xs0))) := k7 _ _ h104 (Nat.ne_of_beq_eq_false rfl) (hdos _ List.mem_cons_self)
              have h106 : f8 lx = some (.inl (cJ G, 64, .inr (.inl xs0))) := k11 _ _ h105 (Nat.ne_of_beq_eq_false rfl) (hdos _ List.mem_cons_self)
              have h107 : f19 lx = some (.inl (cJ G, 64, .inr (.inl xs0))) := (hEq.k k22) _ _ h106 (ninc n_lx_ly (ninc n_lx_le nin0))
              have h108 : f2 la = some (.inl (cI G, 12, .inl (j6r ga0 ga1))) := k4 _ _ k_la (Nat.ne_of_beq_eq_false rfl) (hdos _ (List.mem_cons_of_mem _ (List.mem_cons_of_mem _ (List.mem_cons_of_mem _ List.mem_cons_self))))
              have h109 : f5 la = some (.inl (cI G, 12, .inl (j6r ga0 ga1))) := k7 _ _ h108 (Nat.ne_of_beq_eq_false rfl) (hdos _ (List.mem_cons_of_mem _ (List.mem_cons_of_mem _ (List.mem_cons_of_mem _ List.mem_cons_self))))
              have h110 : f8 la = some (.inl (cI G, 12, .inl (j6r ga0 ga1))) := k11 _ _ h109 (Nat.ne_of_beq_eq_false rfl) (hdos _ (List.mem_cons_of_mem _ (List.mem_cons_of_mem _ (List.mem_cons_of_mem _ List.mem_cons_self))))
              have h111 : f19 la = some (.inl (cI G, 12, .inl (j6r ga0 ga1))) := (hEq.k k22) _ _ h110 (ninc (Ne.symm n_ly_la) (ninc n_la_le nin0))
              have h112 : f2 lq = some (.inl (cI G, 12, .inl (j6r S0.2.2.2.2.2.2.2.1 S1.2.2.2.2.2.2.2.1))) := k4 _ _ k_lq (Nat.ne_of_beq_eq_false rfl) (hdos _ (List.mem_cons_of_mem _ (List.mem_cons_of_mem _ (List.mem_cons_of_mem _ (List.mem_cons_of_mem _ List.mem_cons_self)))))
              have h113 : f5 lq = some (.inl (cI G, 12, .inl (j6r S0.2.2.2.2.2.2.2.1 S1.2.2.2.2.2.2.2.1))) := k7 _ _ h112 (Nat.ne_of_beq_eq_false rfl) (hdos _ (List.mem_cons_of_mem _ (List.mem_cons_of_mem _ (List.mem_cons_of_mem _ (List.mem_cons_of_mem _ List.mem_cons_self)))))
              have h114 : f8 lq = some (.inl (cI G, 12, .inl (j6r S0.2.2.2.2.2.2.2.1 S1.2.2.2.2.2.2.2.1))) := k11 _ _ h113 (Nat.ne_of_beq_eq_false rfl) (hdos _ (List.mem_cons_of_mem _ (List.mem_cons_of_mem _ (List.mem_cons_of_mem _ (List.mem_cons_of_mem _ List.mem_cons_self)))))
              have h115 : f19 lq = some (.inl (cI G, 12, .inl (j6r S0.2.2.2.2.2.2.2.1 S1.2.2.2.2.2.2.2.1))) := (hEq.k k22) _ _ h114 (ninc (Ne.symm n_ly_lq) (ninc n_lq_le nin0))
              refine hp_S (As := [.long (lN (pkN r)), .ref lx, .ref la, .ref lq, .ref le, .int 0]) (rest := []) B0 hw hS (c_L_take_0 hl G f19 lx la lq le S0.1 S0.2.1 S0.2.2.1 S0.2.2.2.1 S0.2.2.2.2.1 S0.2.2.2.2.2.1 S0.2.2.2.2.2.2.1 S0.2.2.2.2.2.2.2.1 S0.2.2.2.2.2.2.2.2 (eSt (takeS S1)) ga0 ga1 (takeS S1).2.2.2.2.2.2.2.1 b hSo0 (by omega) r.1 r.2.1 r.2.2.1 r.2.2.2 hFo hga0 n_la_lq xs0 hX0 (Nat.lt_of_le_of_lt hl0 (by decide)) h107 h111 h115 h103) mS_L_take qM_L_127 rfl rfl hl9.1 (Nat.le_of_ble_eq_true rfl) ⟨⟨Nat.le_of_ble_eq_true rfl, Nat.le_of_ble_eq_true rfl⟩, Nat.le_of_ble_eq_true rfl, Nat.le_of_ble_eq_true rfl⟩ dL_links_838 (fun E ce q9 f116 H locs hPX hw hS hce hcv hcl => ?_) (fun v f116 H locs hP hw hS => ?_)
              · exact hPX.elim
              · obtain ⟨ev9, ⟨xs117, h118, hX119⟩, h120, h121, k122⟩ := hP
                subst ev9
                have h120 : f116 lq = some (.inl (cI G, 12, .inl (j6r (hearF ga0 r S0).2.2.2.2.2.2.2.1 (takeS S1).2.2.2.2.2.2.2.1))) := h120
                have h123 : f116 le = some (.inl (cI G, 16, .inl (jE (eSt (hearF ga0 r S0)) (e8r ((takeS S1).1) ((takeS S1).2.1) ((takeS S1).2.2.1) ((takeS S1).2.2.2.1) ((takeS S1).2.2.2.2.1) ((takeS S1).2.2.2.2.2.1) ((takeS S1).2.2.2.2.2.2.1) (nI (takeS S1).2.2.2.2.2.2.2.2.length))))) := h121
                refine W.eq (g2 := F0 m 841 ls []) rfl ?_
                refine lv_aload_n hx hb dL_links_841 rfl (lv_at hl9 6 rfl) ?_
                refine lv_iload hx hb dL_links_842 (lv_at hl9 5 rfl) ?_
                have h124 : f2 lw = some (.inl (cI G, 12, .inl (j6r gw0 gw1))) := k4 _ _ k_lw (Nat.ne_of_beq_eq_false rfl) (hdos _ (List.mem_cons_of_mem _ (List.mem_cons_of_mem _ List.mem_cons_self)))
                have h125 : f5 lw = some (.inl (cI G, 12, .inl (j6r gw0 gw1))) := k7 _ _ h124 (Nat.ne_of_beq_eq_false rfl) (hdos _ (List.mem_cons_of_mem _ (List.mem_cons_of_mem _ List.mem_cons_self)))
                have h126 : f8 lw = some (.inl (cI G, 12, .inl (j6r gw0 gw1))) := k11 _ _ h125 (Nat.ne_of_beq_eq_false rfl) (hdos _ (List.mem_cons_of_mem _ (List.mem_cons_of_mem _ List.mem_cons_self)))
                have h127 : f116 ly = some (.inl (cJ G, 64, .inr (.inl (pullN xs1 L1.length)))) := (hEq.k k122) _ _ h20 (ninc (Ne.symm n_lx_ly) (ninc n_ly_lq (ninc n_ly_le nin0)))
                have h128 : f19 lw = some (.inl (cI G, 12, .inl (j6r gw0 gw1))) := (hEq.k k22) _ _ h126 (ninc (Ne.symm n_ly_lw) (ninc n_lw_le nin0))
                have h129 : f116 lw = some (.inl (cI G, 12, .inl (j6r gw0 gw1))) := (hEq.k k122) _ _ h128 (ninc (Ne.symm n_lx_lw) (ninc n_lw_lq (ninc n_lw_le nin0)))
                have h130 : f116 la = some (.inl (cI G, 12, .inl (j6r ga0 ga1))) := (hEq.k k122) _ _ h111 (ninc (Ne.symm n_lx_la) (ninc n_la_lq (ninc n_la_le nin0)))
                have hC131 : CXW G f116 xo ez eo bu nw0 na0 nq0 nr0 nw1 na1 nq1 nr1 bs bp bh bf bl bg S0 S1 gw0 ga0 gw1 ga1 n a cg x sa pk fl gv gh gl := CXW.eq hC10 ((show hEq [lx, ly, lw, la, lq, le] f8 f19 from (hEq.mono k22 (sub_cons (List.mem_cons_of_mem _ List.mem_cons_self) (sub_cons (List.mem_cons_of_mem _ (List.mem_cons_of_mem _ (List.mem_cons_of_mem _ (List.mem_cons_of_mem _ (List.mem_cons_of_mem _ List.mem_cons_self))))) sub_nil)))).tr (show hEq [lx, ly, lw, la, lq, le] f19 f116 from (hEq.mono k122 (sub_cons List.mem_cons_self (sub_cons (List.mem_cons_of_mem _ (List.mem_cons_of_mem _ (List.mem_cons_of_mem _ (List.mem_cons_of_mem _ List.mem_cons_self)))) (sub_cons (List.mem_cons_of_mem _ (List.mem_cons_of_mem _ (List.mem_cons_of_mem _ (List.mem_cons_of_mem _ (List.mem_cons_of_mem _ List.mem_cons_self))))) sub_nil)))))) hdis (fun b9 hb9 => by
                    simp only [List.mem_cons, List.not_mem_nil, or_false] at hb9
                    rcases hb9 with hb9 | hb9 | hb9 | hb9 | hb9 | hb9
                    · rw [hb9]; exact ⟨_, _, h106, h118, (Nat.ne_of_beq_eq_false rfl), (Nat.ne_of_beq_eq_false rfl)⟩
                    · rw [hb9]; exact ⟨_, _, h18, h127, (Nat.ne_of_beq_eq_false rfl), (Nat.ne_of_beq_eq_false rfl)⟩
                    · rw [hb9]; exact ⟨_, _, h126, h129, (Nat.ne_of_beq_eq_false rfl), (Nat.ne_of_beq_eq_false rfl)⟩
                    · rw [hb9]; exact ⟨_, _, h110, h130, (Nat.ne_of_beq_eq_false rfl), (Nat.ne_of_beq_eq_false rfl)⟩
                    · rw [hb9]; exact ⟨_, _, h114, h120, (Nat.ne_of_beq_eq_false rfl), (Nat.ne_of_beq_eq_false rfl)⟩
                    · rw [hb9]; exact ⟨_, _, h14, h123, (Nat.ne_of_beq_eq_false rfl), (Nat.ne_of_beq_eq_false rfl)⟩)
                refine hp_SH (As := [.ref xo, .int 1]) (rest := []) B0 hw hS (c_V_deliver_1 hl G f116 xo ez eo bu nw0 na0 nq0 nr0 nw1 na1 nq1 nr1 bs bp bh bf bl bg S0 S1 gw0 ga0 gw1 ga1 n a cg x sa pk fl gv gh gl hC131 (Nat.lt_of_le_of_lt hl0 (by decide)) (Nat.lt_of_le_of_lt hl1 (by decide)) (by rw [hLk]; exact fun h9 => nomatch h9)) mH_L_deliver qM_L_117 rfl rfl hl9.1 (Nat.le_of_ble_eq_true rfl) ⟨⟨Nat.le_of_ble_eq_true rfl, Nat.le_of_ble_eq_true rfl⟩, Nat.le_of_ble_eq_true rfl, Nat.le_of_ble_eq_true rfl⟩ dL_links_844 (fun E ce q9 f132 H locs hPX hw hS hce hcv hcl => ?_) (fun v f132 H locs hP hw hS => ?_)
                · exact hPX.elim
                · obtain ⟨r9, L9, eL9, ev9, hC133, k134⟩ := hP
                  obtain ⟨er9, -⟩ := List.cons.inj (eL9.symm.trans hLk)
                  rw [er9] at ev9
                  try rw [er9] at hC133
                  subst ev9
                  have hC133 : CXW G f132 xo ez eo bu nw0 na0 nq0 nr0 nw1 na1 nq1 nr1 bs bp bh bf bl bg (hearF ga0 r S0) (takeS S1) gw0 ga0 gw1 ga1 n a cg x sa pk fl gv gh gl := hC133
                  refine W.eq (g2 := F0 m 847 ls [.int r.1]) rfl ?_
                  refine lv_iload hx hb dL_links_847 (lv_at hl9 0 rfl) ?_
                  refine lv_icmp_ne (tgt := 856) hx hb dL_links_849 (by decide) (fun c9 => absurd rfl c9) (fun _ => ?_)
                  refine lv_iconst (v := 1) hx hb dL_links_852 (by decide) ?_
                  refine lv_goto (tgt := 857) hx hb dL_links_853 (by decide) ?_
                  have h135 : f132 lx = some (.inl (cJ G, 64, .inr (.inl xs117))) := k134 _ _ h118 (Nat.ne_of_beq_eq_false rfl) (hdos _ List.mem_cons_self)
                  have h136 : f132 ly = some (.inl (cJ G, 64, .inr (.inl (pullN xs1 L1.length)))) := k134 _ _ h127 (Nat.ne_of_beq_eq_false rfl) (hdos _ (List.mem_cons_of_mem _ List.mem_cons_self))
                  have h137 : f132 lw = some (.inl (cI G, 12, .inl (j6r gw0 gw1))) := k134 _ _ h129 (Nat.ne_of_beq_eq_false rfl) (hdos _ (List.mem_cons_of_mem _ (List.mem_cons_of_mem _ List.mem_cons_self)))
                  have h138 : f132 la = some (.inl (cI G, 12, .inl (j6r ga0 ga1))) := k134 _ _ h130 (Nat.ne_of_beq_eq_false rfl) (hdos _ (List.mem_cons_of_mem _ (List.mem_cons_of_mem _ (List.mem_cons_of_mem _ List.mem_cons_self))))
                  have h139 : f132 lq = some (.inl (cI G, 12, .inl (j6r (hearF ga0 r S0).2.2.2.2.2.2.2.1 (takeS S1).2.2.2.2.2.2.2.1))) := k134 _ _ h120 (Nat.ne_of_beq_eq_false rfl) (hdos _ (List.mem_cons_of_mem _ (List.mem_cons_of_mem _ (List.mem_cons_of_mem _ (List.mem_cons_of_mem _ List.mem_cons_self)))))
                  have h140 : f132 le = some (.inl (cI G, 16, .inl (jE (eSt (hearF ga0 r S0)) (e8r ((takeS S1).1) ((takeS S1).2.1) ((takeS S1).2.2.1) ((takeS S1).2.2.2.1) ((takeS S1).2.2.2.2.1) ((takeS S1).2.2.2.2.2.1) ((takeS S1).2.2.2.2.2.2.1) (nI (takeS S1).2.2.2.2.2.2.2.2.length))))) := k134 _ _ h123 (Nat.ne_of_beq_eq_false rfl) (hdos _ (List.mem_cons_of_mem _ (List.mem_cons_of_mem _ (List.mem_cons_of_mem _ (List.mem_cons_of_mem _ (List.mem_cons_of_mem _ List.mem_cons_self))))))
                  exact hp_zret (v := 1) B0 hw hS hr ⟨Nat.le_of_ble_eq_true rfl, Nat.le_of_ble_eq_true rfl⟩ (rfl) dL_links_857 (⟨rfl, (hearF ga0 r S0), (takeS S1), gw0, ga0, gw1, ga1, hC133, ⟨⟨_, h135, (show XS xs117 (hearF ga0 r S0).2.2.2.2.2.2.2.2 from hX119)⟩, ⟨_, h136, (show XS (pullN xs1 L1.length) (takeS S1).2.2.2.2.2.2.2.2 from (show XS _ S1.2.2.2.2.2.2.2.2.tail from by rw [hLk]; exact hXk.tail))⟩, h137, h138, h139, h140⟩, ⟨SOK.mono (SOK.hear hSo0 (by omega) hFo) (by omega), SOK.mono (SOK.take hSo1) (by omega), hgw0, hga0, hgw1, hga1⟩, (Nat.le_trans (hearF_len ga0 r S0) (by have h9 := Nat.le_refl S0.2.2.2.2.2.2.2.2.length; omega)), (Nat.le_trans (takeS_len S1) hl1), ((show hKn [lx, ly, lw, la, lq, le, xo, ez, eo, bu, nw0, na0, nq0, nr0, nw1, na1, nq1, nr1, bs, bp, bh, bf, bl, bg] f f2 from (hKn.mono k4 sbA)).tr ((show hKn [lx, ly, lw, la, lq, le, xo, ez, eo, bu, nw0, na0, nq0, nr0, nw1, na1, nq1, nr1, bs, bp, bh, bf, bl, bg] f2 f5 from (hKn.mono k7 sbA)).tr ((show hKn [lx, ly, lw, la, lq, le, xo, ez, eo, bu, nw0, na0, nq0, nr0, nw1, na1, nq1, nr1, bs, bp, bh, bf, bl, bg] f5 f8 from (hKn.mono k11 sbA)).tr ((show hKn [lx, ly, lw, la, lq, le, xo, ez, eo, bu, nw0, na0, nq0, nr0, nw1, na1, nq1, nr1, bs, bp, bh, bf, bl, bg] f8 f19 from (hKn.mono (hKn.eq k22) (sub_cons (List.mem_cons_of_mem _ List.mem_cons_self) (sub_cons (List.mem_cons_of_mem _ (List.mem_cons_of_mem _ (List.mem_cons_of_mem _ (List.mem_cons_of_mem _ (List.mem_cons_of_mem _ List.mem_cons_self))))) sub_nil)))).tr ((show hKn [lx, ly, lw, la, lq, le, xo, ez, eo, bu, nw0, na0, nq0, nr0, nw1, na1, nq1, nr1, bs, bp, bh, bf, bl, bg] f19 f116 from (hKn.mono (hKn.eq k122) (sub_cons List.mem_cons_self (sub_cons (List.mem_cons_of_mem _ (List.mem_cons_of_mem _ (List.mem_cons_of_mem _ (List.mem_cons_of_mem _ List.mem_cons_self)))) (sub_cons (List.mem_cons_of_mem _ (List.mem_cons_of_mem _ (List.mem_cons_of_mem _ (List.mem_cons_of_mem _ (List.mem_cons_of_mem _ List.mem_cons_self))))) sub_nil))))).tr (show hKn [lx, ly, lw, la, lq, le, xo, ez, eo, bu, nw0, na0, nq0, nr0, nw1, na1, nq1, nr1, bs, bp, bh, bf, bl, bg] f116 f132 from (hKn.mono k134 sbA)))))))⟩)
        · refine lv_aload_n hx hb dL_links_749 rfl (lv_at hl9 4 rfl) ?_
          refine lv_iload hx hb dL_links_750 (lv_at hl9 3 rfl) ?_
          refine hp_SH (As := [.ref xo, .int 1]) (rest := []) B0 hw hS (c_V_deliver_S1 hl G f8 xo ez eo bu nw0 na0 nq0 nr0 nw1 na1 nq1 nr1 bs bp bh bf bl bg S0 S1 gw0 ga0 gw1 ga1 n a cg x sa pk fl gv gh gl hC10 (Nat.lt_of_le_of_lt hl0 (by decide)) (Nat.lt_of_le_of_lt hl1 (by decide)) (len_nil c15 (by omega))) mH_L_deliver qM_L_117 rfl rfl hl9.1 (Nat.le_of_ble_eq_true rfl) ⟨⟨Nat.le_of_ble_eq_true rfl, Nat.le_of_ble_eq_true rfl⟩, Nat.le_of_ble_eq_true rfl, Nat.le_of_ble_eq_true rfl⟩ dL_links_752 (fun E ce q9 f141 H locs hPX hw hS hce hcv hcl => ?_) (fun v f141 H locs hP hw hS => ?_)
          · exact hPX.elim
          · obtain ⟨ev9, hC142, k143⟩ := hP
            subst ev9
            have hC142 : CXW G f141 xo ez eo bu nw0 na0 nq0 nr0 nw1 na1 nq1 nr1 bs bp bh bf bl bg S0 S1 gw0 ga0 gw1 ga1 n a cg x sa pk fl gv gh gl := hC142
            refine W.eq (g2 := F0 m 755 ls [.int (-73)]) rfl ?_
            refine lv_bipush (v := (-73)) hx hb dL_links_755 (by decide) ?_
            refine lv_icmp_ne (tgt := 786) hx hb dL_links_757 (by decide) (fun c9 => absurd (by decide) c9) (fun _ => ?_)
            refine lv_aload_n hx hb dL_links_760 rfl (lv_at hl9 4 rfl) ?_
            refine lv_iload hx hb dL_links_761 (lv_at hl9 3 rfl) ?_
            refine hp_SH (As := [.ref xo, .int 1]) (rest := []) B0 hw hS (c_V_lose_S1 hl G f141 xo ez eo bu nw0 na0 nq0 nr0 nw1 na1 nq1 nr1 bs bp bh bf bl bg S0 S1 gw0 ga0 gw1 ga1 n a cg x sa pk fl gv gh gl hC142 (Nat.lt_of_le_of_lt hl0 (by decide)) (Nat.lt_of_le_of_lt hl1 (by decide)) (len_nil c15 (by omega))) mH_L_lose qM_L_119 rfl rfl hl9.1 (Nat.le_of_ble_eq_true rfl) ⟨⟨Nat.le_of_ble_eq_true rfl, Nat.le_of_ble_eq_true rfl⟩, Nat.le_of_ble_eq_true rfl, Nat.le_of_ble_eq_true rfl⟩ dL_links_763 (fun E ce q9 f144 H locs hPX hw hS hce hcv hcl => ?_) (fun v f144 H locs hP hw hS => ?_)
            · exact hPX.elim
            · obtain ⟨ev9, hC145, k146⟩ := hP
              subst ev9
              have hC145 : CXW G f144 xo ez eo bu nw0 na0 nq0 nr0 nw1 na1 nq1 nr1 bs bp bh bf bl bg S0 S1 gw0 ga0 gw1 ga1 n a cg x sa pk fl gv gh gl := hC145
              refine W.eq (g2 := F0 m 766 ls [.int (-73)]) rfl ?_
              refine lv_bipush (v := (-73)) hx hb dL_links_766 (by decide) ?_
              refine lv_icmp_ne (tgt := 786) hx hb dL_links_768 (by decide) (fun c9 => absurd (by decide) c9) (fun _ => ?_)
              refine lv_aload_n hx hb dL_links_771 rfl (lv_at hl9 4 rfl) ?_
              refine lv_iload hx hb dL_links_772 (lv_at hl9 3 rfl) ?_
              refine hp_SH (As := [.ref xo, .int 1]) (rest := []) B0 hw hS (c_V_loop_S1 hl G f144 xo ez eo bu nw0 na0 nq0 nr0 nw1 na1 nq1 nr1 bs bp bh bf bl bg S0 S1 gw0 ga0 gw1 ga1 n a cg x sa pk fl gv gh gl hC145 (Nat.lt_of_le_of_lt hl0 (by decide)) (Nat.lt_of_le_of_lt hl1 (by decide)) (len_nil c15 (by omega))) mH_L_loop qM_L_121 rfl rfl hl9.1 (Nat.le_of_ble_eq_true rfl) ⟨⟨Nat.le_of_ble_eq_true rfl, Nat.le_of_ble_eq_true rfl⟩, Nat.le_of_ble_eq_true rfl, Nat.le_of_ble_eq_true rfl⟩ dL_links_774 (fun E ce q9 f147 H locs hPX hw hS hce hcv hcl => ?_) (fun v f147 H locs hP hw hS => ?_)
              · exact hPX.elim
              · obtain ⟨ev9, hC148, k149⟩ := hP
                subst ev9
                have hC148 : CXW G f147 xo ez eo bu nw0 na0 nq0 nr0 nw1 na1 nq1 nr1 bs bp bh bf bl bg S0 S1 gw0 ga0 gw1 ga1 n a cg x sa pk fl gv gh gl := hC148
                refine W.eq (g2 := F0 m 777 ls [.int (-73)]) rfl ?_
                refine lv_bipush (v := (-73)) hx hb dL_links_777 (by decide) ?_
                refine lv_icmp_ne (tgt := 786) hx hb dL_links_779 (by decide) (fun c9 => absurd (by decide) c9) (fun _ => ?_)
                refine lv_iconst (v := 1) hx hb dL_links_782 (by decide) ?_
                refine lv_goto (tgt := 787) hx hb dL_links_783 (by decide) ?_
                have h150 : f2 lx = some (.inl (cJ G, 64, .inr (.inl xs0))) := k4 _ _ k_lx (Nat.ne_of_beq_eq_false rfl) (hdos _ List.mem_cons_self)
                have h151 : f5 lx = some (.inl (cJ G, 64, .inr (.inl xs0))) := k7 _ _ h150 (Nat.ne_of_beq_eq_false rfl) (hdos _ List.mem_cons_self)
                have h152 : f8 lx = some (.inl (cJ G, 64, .inr (.inl xs0))) := k11 _ _ h151 (Nat.ne_of_beq_eq_false rfl) (hdos _ List.mem_cons_self)
                have h153 : f141 lx = some (.inl (cJ G, 64, .inr (.inl xs0))) := k143 _ _ h152 (Nat.ne_of_beq_eq_false rfl) (hdos _ List.mem_cons_self)
                have h154 : f144 lx = some (.inl (cJ G, 64, .inr (.inl xs0))) := k146 _ _ h153 (Nat.ne_of_beq_eq_false rfl) (hdos _ List.mem_cons_self)
                have h155 : f147 lx = some (.inl (cJ G, 64, .inr (.inl xs0))) := k149 _ _ h154 (Nat.ne_of_beq_eq_false rfl) (hdos _ List.mem_cons_self)
                have h156 : f2 ly = some (.inl (cJ G, 64, .inr (.inl xs1))) := k4 _ _ k_ly (Nat.ne_of_beq_eq_false rfl) (hdos _ (List.mem_cons_of_mem _ List.mem_cons_self))
                have h157 : f5 ly = some (.inl (cJ G, 64, .inr (.inl xs1))) := k7 _ _ h156 (Nat.ne_of_beq_eq_false rfl) (hdos _ (List.mem_cons_of_mem _ List.mem_cons_self))
                have h158 : f8 ly = some (.inl (cJ G, 64, .inr (.inl xs1))) := k11 _ _ h157 (Nat.ne_of_beq_eq_false rfl) (hdos _ (List.mem_cons_of_mem _ List.mem_cons_self))
                have h159 : f141 ly = some (.inl (cJ G, 64, .inr (.inl xs1))) := k143 _ _ h158 (Nat.ne_of_beq_eq_false rfl) (hdos _ (List.mem_cons_of_mem _ List.mem_cons_self))
                have h160 : f144 ly = some (.inl (cJ G, 64, .inr (.inl xs1))) := k146 _ _ h159 (Nat.ne_of_beq_eq_false rfl) (hdos _ (List.mem_cons_of_mem _ List.mem_cons_self))
                have h161 : f147 ly = some (.inl (cJ G, 64, .inr (.inl xs1))) := k149 _ _ h160 (Nat.ne_of_beq_eq_false rfl) (hdos _ (List.mem_cons_of_mem _ List.mem_cons_self))
                have h162 : f2 lw = some (.inl (cI G, 12, .inl (j6r gw0 gw1))) := k4 _ _ k_lw (Nat.ne_of_beq_eq_false rfl) (hdos _ (List.mem_cons_of_mem _ (List.mem_cons_of_mem _ List.mem_cons_self)))
                have h163 : f5 lw = some (.inl (cI G, 12, .inl (j6r gw0 gw1))) := k7 _ _ h162 (Nat.ne_of_beq_eq_false rfl) (hdos _ (List.mem_cons_of_mem _ (List.mem_cons_of_mem _ List.mem_cons_self)))
                have h164 : f8 lw = some (.inl (cI G, 12, .inl (j6r gw0 gw1))) := k11 _ _ h163 (Nat.ne_of_beq_eq_false rfl) (hdos _ (List.mem_cons_of_mem _ (List.mem_cons_of_mem _ List.mem_cons_self)))
                have h165 : f141 lw = some (.inl (cI G, 12, .inl (j6r gw0 gw1))) := k143 _ _ h164 (Nat.ne_of_beq_eq_false rfl) (hdos _ (List.mem_cons_of_mem _ (List.mem_cons_of_mem _ List.mem_cons_self)))
                have h166 : f144 lw = some (.inl (cI G, 12, .inl (j6r gw0 gw1))) := k146 _ _ h165 (Nat.ne_of_beq_eq_false rfl) (hdos _ (List.mem_cons_of_mem _ (List.mem_cons_of_mem _ List.mem_cons_self)))
                have h167 : f147 lw = some (.inl (cI G, 12, .inl (j6r gw0 gw1))) := k149 _ _ h166 (Nat.ne_of_beq_eq_false rfl) (hdos _ (List.mem_cons_of_mem _ (List.mem_cons_of_mem _ List.mem_cons_self)))
                have h168 : f2 la = some (.inl (cI G, 12, .inl (j6r ga0 ga1))) := k4 _ _ k_la (Nat.ne_of_beq_eq_false rfl) (hdos _ (List.mem_cons_of_mem _ (List.mem_cons_of_mem _ (List.mem_cons_of_mem _ List.mem_cons_self))))
                have h169 : f5 la = some (.inl (cI G, 12, .inl (j6r ga0 ga1))) := k7 _ _ h168 (Nat.ne_of_beq_eq_false rfl) (hdos _ (List.mem_cons_of_mem _ (List.mem_cons_of_mem _ (List.mem_cons_of_mem _ List.mem_cons_self))))
                have h170 : f8 la = some (.inl (cI G, 12, .inl (j6r ga0 ga1))) := k11 _ _ h169 (Nat.ne_of_beq_eq_false rfl) (hdos _ (List.mem_cons_of_mem _ (List.mem_cons_of_mem _ (List.mem_cons_of_mem _ List.mem_cons_self))))
                have h171 : f141 la = some (.inl (cI G, 12, .inl (j6r ga0 ga1))) := k143 _ _ h170 (Nat.ne_of_beq_eq_false rfl) (hdos _ (List.mem_cons_of_mem _ (List.mem_cons_of_mem _ (List.mem_cons_of_mem _ List.mem_cons_self))))
                have h172 : f144 la = some (.inl (cI G, 12, .inl (j6r ga0 ga1))) := k146 _ _ h171 (Nat.ne_of_beq_eq_false rfl) (hdos _ (List.mem_cons_of_mem _ (List.mem_cons_of_mem _ (List.mem_cons_of_mem _ List.mem_cons_self))))
                have h173 : f147 la = some (.inl (cI G, 12, .inl (j6r ga0 ga1))) := k149 _ _ h172 (Nat.ne_of_beq_eq_false rfl) (hdos _ (List.mem_cons_of_mem _ (List.mem_cons_of_mem _ (List.mem_cons_of_mem _ List.mem_cons_self))))
                have h174 : f2 lq = some (.inl (cI G, 12, .inl (j6r S0.2.2.2.2.2.2.2.1 S1.2.2.2.2.2.2.2.1))) := k4 _ _ k_lq (Nat.ne_of_beq_eq_false rfl) (hdos _ (List.mem_cons_of_mem _ (List.mem_cons_of_mem _ (List.mem_cons_of_mem _ (List.mem_cons_of_mem _ List.mem_cons_self)))))
                have h175 : f5 lq = some (.inl (cI G, 12, .inl (j6r S0.2.2.2.2.2.2.2.1 S1.2.2.2.2.2.2.2.1))) := k7 _ _ h174 (Nat.ne_of_beq_eq_false rfl) (hdos _ (List.mem_cons_of_mem _ (List.mem_cons_of_mem _ (List.mem_cons_of_mem _ (List.mem_cons_of_mem _ List.mem_cons_self)))))
                have h176 : f8 lq = some (.inl (cI G, 12, .inl (j6r S0.2.2.2.2.2.2.2.1 S1.2.2.2.2.2.2.2.1))) := k11 _ _ h175 (Nat.ne_of_beq_eq_false rfl) (hdos _ (List.mem_cons_of_mem _ (List.mem_cons_of_mem _ (List.mem_cons_of_mem _ (List.mem_cons_of_mem _ List.mem_cons_self)))))
                have h177 : f141 lq = some (.inl (cI G, 12, .inl (j6r S0.2.2.2.2.2.2.2.1 S1.2.2.2.2.2.2.2.1))) := k143 _ _ h176 (Nat.ne_of_beq_eq_false rfl) (hdos _ (List.mem_cons_of_mem _ (List.mem_cons_of_mem _ (List.mem_cons_of_mem _ (List.mem_cons_of_mem _ List.mem_cons_self)))))
                have h178 : f144 lq = some (.inl (cI G, 12, .inl (j6r S0.2.2.2.2.2.2.2.1 S1.2.2.2.2.2.2.2.1))) := k146 _ _ h177 (Nat.ne_of_beq_eq_false rfl) (hdos _ (List.mem_cons_of_mem _ (List.mem_cons_of_mem _ (List.mem_cons_of_mem _ (List.mem_cons_of_mem _ List.mem_cons_self)))))
                have h179 : f147 lq = some (.inl (cI G, 12, .inl (j6r S0.2.2.2.2.2.2.2.1 S1.2.2.2.2.2.2.2.1))) := k149 _ _ h178 (Nat.ne_of_beq_eq_false rfl) (hdos _ (List.mem_cons_of_mem _ (List.mem_cons_of_mem _ (List.mem_cons_of_mem _ (List.mem_cons_of_mem _ List.mem_cons_self)))))
                have h180 : f141 le = some (.inl (cI G, 16, .inl (jE (eSt S0) (e8r S1.1 S1.2.1 S1.2.2.1 S1.2.2.2.1 S1.2.2.2.2.1 S1.2.2.2.2.2.1 S1.2.2.2.2.2.2.1 (nI S1.2.2.2.2.2.2.2.2.length))))) := k143 _ _ h14 (Nat.ne_of_beq_eq_false rfl) (hdos _ (List.mem_cons_of_mem _ (List.mem_cons_of_mem _ (List.mem_cons_of_mem _ (List.mem_cons_of_mem _ (List.mem_cons_of_mem _ List.mem_cons_self))))))
                have h181 : f144 le = some (.inl (cI G, 16, .inl (jE (eSt S0) (e8r S1.1 S1.2.1 S1.2.2.1 S1.2.2.2.1 S1.2.2.2.2.1 S1.2.2.2.2.2.1 S1.2.2.2.2.2.2.1 (nI S1.2.2.2.2.2.2.2.2.length))))) := k146 _ _ h180 (Nat.ne_of_beq_eq_false rfl) (hdos _ (List.mem_cons_of_mem _ (List.mem_cons_of_mem _ (List.mem_cons_of_mem _ (List.mem_cons_of_mem _ (List.mem_cons_of_mem _ List.mem_cons_self))))))
                have h182 : f147 le = some (.inl (cI G, 16, .inl (jE (eSt S0) (e8r S1.1 S1.2.1 S1.2.2.1 S1.2.2.2.1 S1.2.2.2.2.1 S1.2.2.2.2.2.1 S1.2.2.2.2.2.2.1 (nI S1.2.2.2.2.2.2.2.2.length))))) := k149 _ _ h181 (Nat.ne_of_beq_eq_false rfl) (hdos _ (List.mem_cons_of_mem _ (List.mem_cons_of_mem _ (List.mem_cons_of_mem _ (List.mem_cons_of_mem _ (List.mem_cons_of_mem _ List.mem_cons_self))))))
                exact hp_zret (v := 1) B0 hw hS hr ⟨Nat.le_of_ble_eq_true rfl, Nat.le_of_ble_eq_true rfl⟩ (rfl) dL_links_787 (⟨rfl, S0, S1, gw0, ga0, gw1, ga1, hC148, ⟨⟨_, h155, hX0⟩, ⟨_, h161, hX1⟩, h167, h173, h179, h182⟩, ⟨SOK.mono hSo0 (by omega), SOK.mono hSo1 (by omega), hgw0, hga0, hgw1, hga1⟩, hl0, hl1, ((show hKn [lx, ly, lw, la, lq, le, xo, ez, eo, bu, nw0, na0, nq0, nr0, nw1, na1, nq1, nr1, bs, bp, bh, bf, bl, bg] f f2 from (hKn.mono k4 sbA)).tr ((show hKn [lx, ly, lw, la, lq, le, xo, ez, eo, bu, nw0, na0, nq0, nr0, nw1, na1, nq1, nr1, bs, bp, bh, bf, bl, bg] f2 f5 from (hKn.mono k7 sbA)).tr ((show hKn [lx, ly, lw, la, lq, le, xo, ez, eo, bu, nw0, na0, nq0, nr0, nw1, na1, nq1, nr1, bs, bp, bh, bf, bl, bg] f5 f8 from (hKn.mono k11 sbA)).tr ((show hKn [lx, ly, lw, la, lq, le, xo, ez, eo, bu, nw0, na0, nq0, nr0, nw1, na1, nq1, nr1, bs, bp, bh, bf, bl, bg] f8 f141 from (hKn.mono k143 sbA)).tr ((show hKn [lx, ly, lw, la, lq, le, xo, ez, eo, bu, nw0, na0, nq0, nr0, nw1, na1, nq1, nr1, bs, bp, bh, bf, bl, bg] f141 f144 from (hKn.mono k146 sbA)).tr (show hKn [lx, ly, lw, la, lq, le, xo, ez, eo, bu, nw0, na0, nq0, nr0, nw1, na1, nq1, nr1, bs, bp, bh, bf, bl, bg] f144 f147 from (hKn.mono k149 sbA)))))))⟩)

set_option maxHeartbeats 4000000 in
set_option maxRecDepth 100000 in
theorem c_L_links {l : Launch} (hl : l.stackTraces = false) (G : hG) (f : hM) (xo ez eo bu nw0 na0 nq0 nr0 nw1 na1 nq1 nr1 bs bp bh bf bl bg : Nat) (S0 : ES) (S1 : ES) (gw0 : Nat → Int32) (ga0 : Nat → Int32) (gw1 : Nat → Int32) (ga1 : Nat → Int32) (n : Nat) (a : Nat) (cg : Nat) (x : Nat) (sa : Nat → Nat) (pk : Nat → Nat) (fl : Nat → Nat) (gv : Nat → Nat) (gh : Nat → Int32) (gl : Nat → Int32) (hC : CXW G f xo ez eo bu nw0 na0 nq0 nr0 nw1 na1 nq1 nr1 bs bp bh bf bl bg S0 S1 gw0 ga0 gw1 ga1 n a cg x sa pk fl gv gh gl) (lx ly lw la lq le : Nat) (hdis : ∀ p, p ∈ [xo, ez, eo, bu, nw0, na0, nq0, nr0, nw1, na1, nq1, nr1, bs, bp, bh, bf, bl, bg] → p ∉ [lx, ly, lw, la, lq, le]) (hdos : ∀ p, p ∈ [lx, ly, lw, la, lq, le] → p ∉ [xo, ez, eo, bu, nw0, na0, nq0, nr0, nw1, na1, nq1, nr1, bs, bp, bh, bf, bl, bg]) (n_lx_ly : lx ≠ ly) (n_lw_la : lw ≠ la) (n_lw_lq : lw ≠ lq) (n_la_lq : la ≠ lq) (hLX : LX G f lx ly lw la lq le S0 S1 gw0 ga0 gw1 ga1) (b : Nat) (hInv : INV b S0 S1 gw0 ga0 gw1 ga1) (hbb : b + 200 ≤ 1000000) (hl0 : S0.2.2.2.2.2.2.2.2.length ≤ 52) (hl1 : S1.2.2.2.2.2.2.2.2.length ≤ 52) (ac : Nat) (hac : ac < 24) (hact : ac ≠ 22 → S0.2.2.2.2.2.2.2.2.length ≤ 40 ∧ S1.2.2.2.2.2.2.2.2.length ≤ 40) (u z : Int32) : CT l yL_links (.code yL_links cL_links 17 (some .boolean)) 9 178 203 1118 G [.ref xo, .int (nI ac), .int u, .int z, .ref lx, .ref ly, .ref lw, .ref la, .ref lq, .ref le] f (fun v f1 => v = some (.int 1) ∧ ∃ (S2 S3 : ES) (w0 a0 w1 a1 : Nat → Int32), CXW G f1 xo ez eo bu nw0 na0 nq0 nr0 nw1 na1 nq1 nr1 bs bp bh bf bl bg S2 S3 w0 a0 w1 a1 n a cg x sa pk fl gv gh gl ∧ LX G f1 lx ly lw la lq le S2 S3 w0 a0 w1 a1 ∧ INV (b + 100) S2 S3 w0 a0 w1 a1 ∧ S2.2.2.2.2.2.2.2.2.length ≤ 52 ∧ S3.2.2.2.2.2.2.2.2.length ≤ 52 ∧ hKn [lx, ly, lw, la, lq, le, xo, ez, eo, bu, nw0, na0, nq0, nr0, nw1, na1, nq1, nr1, bs, bp, bh, bf, bl, bg] f f1) (fun E f1 => False) := by
  refine hp_start hl (own := RL) (by decide) rfl (Nat.le_of_ble_eq_true rfl) ?_
  intro p e s m args below meth c B0 hr hnm hout hw hS ls hl9
  have hx := B0.1
  have hb := B0.2.1
  have hl9 : lv_has ls 17 [(0, .ref xo), (1, .int (nI ac)), (2, .int u), (3, .int z), (4, .ref lx), (5, .ref ly), (6, .ref lw), (7, .ref la), (8, .ref lq), (9, .ref le)] := hl9
  refine lv_iload_n hx hb dL_links_0 rfl (lv_at hl9 2 rfl) ?_
  refine lv_iconst (v := 1) hx hb dL_links_1 (by decide) ?_
  refine lv_iand hx hb dL_links_2 ?_
  obtain ⟨e9, he9, ee9⟩ := pk_andE u (m := 1) 1 (by decide)
  refine hp_c (v := nI e9) ee9 ?_
  rcases (show e9 = 0 ∨ e9 = 1 by omega) with e9z | e9z
  · subst e9z
    refine hp_c (v := 0) rfl ?_
    refine lv_istore (lv' := [(10, .int 0), (0, .ref xo), (1, .int (nI ac)), (2, .int u), (3, .int z), (4, .ref lx), (5, .ref ly), (6, .ref lw), (7, .ref la), (8, .ref lq), (9, .ref le)]) hx hb dL_links_3 hl9 (by decide) rfl (fun ls hl9 => ?_)
    refine lv_bipush (v := 8) hx hb dL_links_5 (by decide) ?_
    refine lv_iload hx hb dL_links_7 (lv_at hl9 0 rfl) ?_
    refine lv_imul hx hb dL_links_9 ?_
    refine hp_c (v := 0) (by decide) ?_
    refine lv_istore (lv' := [(11, .int 0), (10, .int 0), (0, .ref xo), (1, .int (nI ac)), (2, .int u), (3, .int z), (4, .ref lx), (5, .ref ly), (6, .ref lw), (7, .ref la), (8, .ref lq), (9, .ref le)]) hx hb dL_links_10 hl9 (by decide) rfl (fun ls hl9 => ?_)
    refine lv_iload hx hb dL_links_12 (lv_at hl9 1 rfl) ?_
    refine lv_if_ne (tgt := 22) hx hb dL_links_14 (by decide) (fun c9 => absurd (by decide) c9) (fun _ => ?_)
    refine lv_aload hx hb dL_links_17 (lv_at hl9 6 rfl) ?_
    refine lv_goto (tgt := 24) hx hb dL_links_19 (by decide) ?_
    refine lv_astore (lv' := [(12, .ref lx), (11, .int 0), (10, .int 0), (0, .ref xo), (1, .int (nI ac)), (2, .int u), (3, .int z), (4, .ref lx), (5, .ref ly), (6, .ref lw), (7, .ref la), (8, .ref lq), (9, .ref le)]) hx hb dL_links_24 hl9 (by decide) rfl (fun ls hl9 => ?_)
    refine lv_iload_n hx hb dL_links_26 rfl (lv_at hl9 6 rfl) ?_
    refine lv_bipush (v := 6) hx hb dL_links_27 (by decide) ?_
    refine hp_S (As := [.int z, .int 6]) (rest := []) B0 hw hS (c_L_low hl G f z 6 (by omega) (by omega)) mS_L_low qM_L_94 rfl rfl hl9.1 (Nat.le_of_ble_eq_true rfl) ⟨⟨Nat.le_of_ble_eq_true rfl, Nat.le_of_ble_eq_true rfl⟩, Nat.le_of_ble_eq_true rfl, Nat.le_of_ble_eq_true rfl⟩ dL_links_29 (fun E ce q9 f1 H locs hPX hw hS hce hcv hcl => ?_) (fun v f1 H locs hP hw hS => ?_)
    · exact hPX.elim
    · obtain ⟨ef9, j2, hj3, ev9⟩ := hP
      rw [ef9] at hw
      subst ev9
      refine W.eq (g2 := F0 m 32 ls [.int (nI j2)]) rfl ?_
      refine lv_istore (lv' := [(13, .int (nI j2)), (12, .ref lx), (11, .int 0), (10, .int 0), (0, .ref xo), (1, .int (nI ac)), (2, .int u), (3, .int z), (4, .ref lx), (5, .ref ly), (6, .ref lw), (7, .ref la), (8, .ref lq), (9, .ref le)]) hx hb dL_links_32 hl9 (by decide) rfl (fun ls hl9 => ?_)
      refine lv_iload_n hx hb dL_links_34 rfl (lv_at hl9 5 rfl) ?_
      refine lv_iconst (v := 3) hx hb dL_links_35 (by decide) ?_
      refine lv_icmp_ge (tgt := 157) hx hb dL_links_36 (by decide) (fun c4 => ?_) (fun c4 => ?_)
      · refine lv_iload_n hx hb dL_links_157 rfl (lv_at hl9 5 rfl) ?_
        refine lv_bipush (v := 6) hx hb dL_links_158 (by decide) ?_
        refine lv_icmp_ge (tgt := 304) hx hb dL_links_160 (by decide) (fun c5 => ?_) (fun c5 => ?_)
        · refine lv_iload_n hx hb dL_links_304 rfl (lv_at hl9 5 rfl) ?_
          refine lv_bipush (v := 6) hx hb dL_links_305 (by decide) ?_
          refine lv_icmp_ne (tgt := 384) hx hb dL_links_307 (by decide) (fun c6 => ?_) (fun c6 => ?_)
          · refine lv_iload_n hx hb dL_links_384 rfl (lv_at hl9 5 rfl) ?_
            refine lv_bipush (v := 10) hx hb dL_links_385 (by decide) ?_
            refine lv_icmp_ge (tgt := 519) hx hb dL_links_387 (by decide) (fun c7 => ?_) (fun c7 => ?_)
            · refine lv_iload_n hx hb dL_links_519 rfl (lv_at hl9 5 rfl) ?_
              refine lv_bipush (v := 10) hx hb dL_links_520 (by decide) ?_
              refine lv_icmp_ne (tgt := 615) hx hb dL_links_522 (by decide) (fun c8 => ?_) (fun c8 => ?_)
              · refine lv_iload_n hx hb dL_links_615 rfl (lv_at hl9 5 rfl) ?_
                refine lv_bipush (v := 14) hx hb dL_links_616 (by decide) ?_
                refine lv_icmp_ge (tgt := 706) hx hb dL_links_618 (by decide) (fun c10 => ?_) (fun c10 => ?_)
                · exact lk_d_0 hl G f xo ez eo bu nw0 na0 nq0 nr0 nw1 na1 nq1 nr1 bs bp bh bf bl bg S0 S1 gw0 ga0 gw1 ga1 n a cg x sa pk fl gv gh gl hC lx ly lw la lq le hdis hdos n_lx_ly n_lw_la n_lw_lq n_la_lq hLX b hInv hbb hl0 hl1 ac hac hact u z B0 hr hw hS j2 hj3 (lv_sub hl9 [0, 1, 2, 3, 4, 5, 6, 7, 8, 9, 10, 11, 12, 13] rfl)
                · exact lk_p_0 hl G f xo ez eo bu nw0 na0 nq0 nr0 nw1 na1 nq1 nr1 bs bp bh bf bl bg S0 S1 gw0 ga0 gw1 ga1 n a cg x sa pk fl gv gh gl hC lx ly lw la lq le hdis hdos n_lx_ly n_lw_la n_lw_lq n_la_lq hLX b hInv hbb hl0 hl1 ac hac hact u z B0 hr hw hS j2 hj3 c10 (lv_sub hl9 [0, 1, 2, 3, 4, 5, 6, 7, 8, 9, 10, 11, 12, 13] rfl)
              · exact lk_c_0 hl G f xo ez eo bu nw0 na0 nq0 nr0 nw1 na1 nq1 nr1 bs bp bh bf bl bg S0 S1 gw0 ga0 gw1 ga1 n a cg x sa pk fl gv gh gl hC lx ly lw la lq le hdis hdos n_lx_ly n_lw_la n_lw_lq n_la_lq hLX b hInv hbb hl0 hl1 ac hac hact u z B0 hr hw hS j2 hj3 c8 (lv_sub hl9 [0, 1, 2, 3, 4, 5, 6, 7, 8, 9, 10, 11, 12, 13] rfl)
            · exact lk_o_0 hl G f xo ez eo bu nw0 na0 nq0 nr0 nw1 na1 nq1 nr1 bs bp bh bf bl bg S0 S1 gw0 ga0 gw1 ga1 n a cg x sa pk fl gv gh gl hC lx ly lw la lq le hdis hdos n_lx_ly n_lw_la n_lw_lq n_la_lq hLX b hInv hbb hl0 hl1 ac hac hact u z B0 hr hw hS j2 hj3 c7 (lv_sub hl9 [0, 1, 2, 3, 4, 5, 6, 7, 8, 9, 10, 11, 12, 13] rfl)
          · exact lk_m_0 hl G f xo ez eo bu nw0 na0 nq0 nr0 nw1 na1 nq1 nr1 bs bp bh bf bl bg S0 S1 gw0 ga0 gw1 ga1 n a cg x sa pk fl gv gh gl hC lx ly lw la lq le hdis hdos n_lx_ly n_lw_la n_lw_lq n_la_lq hLX b hInv hbb hl0 hl1 ac hac hact u z B0 hr hw hS j2 hj3 (lv_sub hl9 [0, 1, 2, 3, 4, 5, 6, 7, 8, 9, 10, 11, 12, 13] rfl)
        · exact lk_a_0 hl G f xo ez eo bu nw0 na0 nq0 nr0 nw1 na1 nq1 nr1 bs bp bh bf bl bg S0 S1 gw0 ga0 gw1 ga1 n a cg x sa pk fl gv gh gl hC lx ly lw la lq le hdis hdos n_lx_ly n_lw_la n_lw_lq n_la_lq hLX b hInv hbb hl0 hl1 ac hac hact u z B0 hr hw hS j2 hj3 (lv_sub hl9 [0, 1, 2, 3, 4, 5, 6, 7, 8, 9, 10, 11, 12, 13] rfl)
      · exact lk_w_0 hl G f xo ez eo bu nw0 na0 nq0 nr0 nw1 na1 nq1 nr1 bs bp bh bf bl bg S0 S1 gw0 ga0 gw1 ga1 n a cg x sa pk fl gv gh gl hC lx ly lw la lq le hdis hdos n_lx_ly n_lw_la n_lw_lq n_la_lq hLX b hInv hbb hl0 hl1 ac hac hact u z B0 hr hw hS j2 hj3 (lv_sub hl9 [0, 1, 2, 3, 4, 5, 6, 7, 8, 9, 10, 11, 12, 13] rfl)
  · subst e9z
    refine hp_c (v := 1) rfl ?_
    refine lv_istore (lv' := [(10, .int 1), (0, .ref xo), (1, .int (nI ac)), (2, .int u), (3, .int z), (4, .ref lx), (5, .ref ly), (6, .ref lw), (7, .ref la), (8, .ref lq), (9, .ref le)]) hx hb dL_links_3 hl9 (by decide) rfl (fun ls hl9 => ?_)
    refine lv_bipush (v := 8) hx hb dL_links_5 (by decide) ?_
    refine lv_iload hx hb dL_links_7 (lv_at hl9 0 rfl) ?_
    refine lv_imul hx hb dL_links_9 ?_
    refine hp_c (v := 8) (by decide) ?_
    refine lv_istore (lv' := [(11, .int 8), (10, .int 1), (0, .ref xo), (1, .int (nI ac)), (2, .int u), (3, .int z), (4, .ref lx), (5, .ref ly), (6, .ref lw), (7, .ref la), (8, .ref lq), (9, .ref le)]) hx hb dL_links_10 hl9 (by decide) rfl (fun ls hl9 => ?_)
    refine lv_iload hx hb dL_links_12 (lv_at hl9 1 rfl) ?_
    refine lv_if_ne (tgt := 22) hx hb dL_links_14 (by decide) (fun _ => ?_) (fun c9 => absurd c9 (by decide))
    refine lv_aload hx hb dL_links_22 (lv_at hl9 7 rfl) ?_
    refine lv_astore (lv' := [(12, .ref ly), (11, .int 8), (10, .int 1), (0, .ref xo), (1, .int (nI ac)), (2, .int u), (3, .int z), (4, .ref lx), (5, .ref ly), (6, .ref lw), (7, .ref la), (8, .ref lq), (9, .ref le)]) hx hb dL_links_24 hl9 (by decide) rfl (fun ls hl9 => ?_)
    refine lv_iload_n hx hb dL_links_26 rfl (lv_at hl9 6 rfl) ?_
    refine lv_bipush (v := 6) hx hb dL_links_27 (by decide) ?_
    refine hp_S (As := [.int z, .int 6]) (rest := []) B0 hw hS (c_L_low hl G f z 6 (by omega) (by omega)) mS_L_low qM_L_94 rfl rfl hl9.1 (Nat.le_of_ble_eq_true rfl) ⟨⟨Nat.le_of_ble_eq_true rfl, Nat.le_of_ble_eq_true rfl⟩, Nat.le_of_ble_eq_true rfl, Nat.le_of_ble_eq_true rfl⟩ dL_links_29 (fun E ce q9 f11 H locs hPX hw hS hce hcv hcl => ?_) (fun v f11 H locs hP hw hS => ?_)
    · exact hPX.elim
    · obtain ⟨ef9, j12, hj13, ev9⟩ := hP
      rw [ef9] at hw
      subst ev9
      refine W.eq (g2 := F0 m 32 ls [.int (nI j12)]) rfl ?_
      refine lv_istore (lv' := [(13, .int (nI j12)), (12, .ref ly), (11, .int 8), (10, .int 1), (0, .ref xo), (1, .int (nI ac)), (2, .int u), (3, .int z), (4, .ref lx), (5, .ref ly), (6, .ref lw), (7, .ref la), (8, .ref lq), (9, .ref le)]) hx hb dL_links_32 hl9 (by decide) rfl (fun ls hl9 => ?_)
      refine lv_iload_n hx hb dL_links_34 rfl (lv_at hl9 5 rfl) ?_
      refine lv_iconst (v := 3) hx hb dL_links_35 (by decide) ?_
      refine lv_icmp_ge (tgt := 157) hx hb dL_links_36 (by decide) (fun c14 => ?_) (fun c14 => ?_)
      · refine lv_iload_n hx hb dL_links_157 rfl (lv_at hl9 5 rfl) ?_
        refine lv_bipush (v := 6) hx hb dL_links_158 (by decide) ?_
        refine lv_icmp_ge (tgt := 304) hx hb dL_links_160 (by decide) (fun c15 => ?_) (fun c15 => ?_)
        · refine lv_iload_n hx hb dL_links_304 rfl (lv_at hl9 5 rfl) ?_
          refine lv_bipush (v := 6) hx hb dL_links_305 (by decide) ?_
          refine lv_icmp_ne (tgt := 384) hx hb dL_links_307 (by decide) (fun c16 => ?_) (fun c16 => ?_)
          · refine lv_iload_n hx hb dL_links_384 rfl (lv_at hl9 5 rfl) ?_
            refine lv_bipush (v := 10) hx hb dL_links_385 (by decide) ?_
            refine lv_icmp_ge (tgt := 519) hx hb dL_links_387 (by decide) (fun c17 => ?_) (fun c17 => ?_)
            · refine lv_iload_n hx hb dL_links_519 rfl (lv_at hl9 5 rfl) ?_
              refine lv_bipush (v := 10) hx hb dL_links_520 (by decide) ?_
              refine lv_icmp_ne (tgt := 615) hx hb dL_links_522 (by decide) (fun c18 => ?_) (fun c18 => ?_)
              · refine lv_iload_n hx hb dL_links_615 rfl (lv_at hl9 5 rfl) ?_
                refine lv_bipush (v := 14) hx hb dL_links_616 (by decide) ?_
                refine lv_icmp_ge (tgt := 706) hx hb dL_links_618 (by decide) (fun c19 => ?_) (fun c19 => ?_)
                · exact lk_d_1 hl G f xo ez eo bu nw0 na0 nq0 nr0 nw1 na1 nq1 nr1 bs bp bh bf bl bg S0 S1 gw0 ga0 gw1 ga1 n a cg x sa pk fl gv gh gl hC lx ly lw la lq le hdis hdos n_lx_ly n_lw_la n_lw_lq n_la_lq hLX b hInv hbb hl0 hl1 ac hac hact u z B0 hr hw hS j12 hj13 (lv_sub hl9 [0, 1, 2, 3, 4, 5, 6, 7, 8, 9, 10, 11, 12, 13] rfl)
                · exact lk_p_1 hl G f xo ez eo bu nw0 na0 nq0 nr0 nw1 na1 nq1 nr1 bs bp bh bf bl bg S0 S1 gw0 ga0 gw1 ga1 n a cg x sa pk fl gv gh gl hC lx ly lw la lq le hdis hdos n_lx_ly n_lw_la n_lw_lq n_la_lq hLX b hInv hbb hl0 hl1 ac hac hact u z B0 hr hw hS j12 hj13 c19 (lv_sub hl9 [0, 1, 2, 3, 4, 5, 6, 7, 8, 9, 10, 11, 12, 13] rfl)
              · exact lk_c_1 hl G f xo ez eo bu nw0 na0 nq0 nr0 nw1 na1 nq1 nr1 bs bp bh bf bl bg S0 S1 gw0 ga0 gw1 ga1 n a cg x sa pk fl gv gh gl hC lx ly lw la lq le hdis hdos n_lx_ly n_lw_la n_lw_lq n_la_lq hLX b hInv hbb hl0 hl1 ac hac hact u z B0 hr hw hS j12 hj13 c18 (lv_sub hl9 [0, 1, 2, 3, 4, 5, 6, 7, 8, 9, 10, 11, 12, 13] rfl)
            · exact lk_o_1 hl G f xo ez eo bu nw0 na0 nq0 nr0 nw1 na1 nq1 nr1 bs bp bh bf bl bg S0 S1 gw0 ga0 gw1 ga1 n a cg x sa pk fl gv gh gl hC lx ly lw la lq le hdis hdos n_lx_ly n_lw_la n_lw_lq n_la_lq hLX b hInv hbb hl0 hl1 ac hac hact u z B0 hr hw hS j12 hj13 c17 (lv_sub hl9 [0, 1, 2, 3, 4, 5, 6, 7, 8, 9, 10, 11, 12, 13] rfl)
          · exact lk_m_1 hl G f xo ez eo bu nw0 na0 nq0 nr0 nw1 na1 nq1 nr1 bs bp bh bf bl bg S0 S1 gw0 ga0 gw1 ga1 n a cg x sa pk fl gv gh gl hC lx ly lw la lq le hdis hdos n_lx_ly n_lw_la n_lw_lq n_la_lq hLX b hInv hbb hl0 hl1 ac hac hact u z B0 hr hw hS j12 hj13 (lv_sub hl9 [0, 1, 2, 3, 4, 5, 6, 7, 8, 9, 10, 11, 12, 13] rfl)
        · exact lk_a_1 hl G f xo ez eo bu nw0 na0 nq0 nr0 nw1 na1 nq1 nr1 bs bp bh bf bl bg S0 S1 gw0 ga0 gw1 ga1 n a cg x sa pk fl gv gh gl hC lx ly lw la lq le hdis hdos n_lx_ly n_lw_la n_lw_lq n_la_lq hLX b hInv hbb hl0 hl1 ac hac hact u z B0 hr hw hS j12 hj13 (lv_sub hl9 [0, 1, 2, 3, 4, 5, 6, 7, 8, 9, 10, 11, 12, 13] rfl)
      · exact lk_w_1 hl G f xo ez eo bu nw0 na0 nq0 nr0 nw1 na1 nq1 nr1 bs bp bh bf bl bg S0 S1 gw0 ga0 gw1 ga1 n a cg x sa pk fl gv gh gl hC lx ly lw la lq le hdis hdos n_lx_ly n_lw_la n_lw_lq n_la_lq hLX b hInv hbb hl0 hl1 ac hac hact u z B0 hr hw hS j12 hj13 (lv_sub hl9 [0, 1, 2, 3, 4, 5, 6, 7, 8, 9, 10, 11, 12, 13] rfl)

