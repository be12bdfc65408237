/-- the whole of an object of the class -/
def CXQ (G : hG) (f : hM) (xo ez eo bu nw0 na0 nq0 nr0 nw1 na1 nq1 nr1 bs bp bh bf bl bg : Nat) (Q0 Q1 : List (Nat × Nat)) (S0 : ES) (S1 : ES) (gw0 : Nat → Int32) (ga0 : Nat → Int32) (gw1 : Nat → Int32) (ga1 : Nat → Int32) (n : Nat) (a : Nat) (cg : Nat) (x : Nat) (sa : Nat → Nat) (pk : Nat → Nat) (fl : Nat → Nat) (gv : Nat → Nat) (gh : Nat → Int32) (gl : Nat → Int32) : Prop := f xo = some (.inr (4, [.ref ez, .ref eo, .ref bu])) ∧ EX G f ez nw0 na0 nq0 nr0 S0 Q0 ∧ EX G f eo nw1 na1 nq1 nr1 S1 Q1 ∧ f nw0 = some (.inl (cI G, 6, .inl gw0)) ∧ f na0 = some (.inl (cI G, 6, .inl ga0)) ∧ f nw1 = some (.inl (cI G, 6, .inl gw1)) ∧ f na1 = some (.inl (cI G, 6, .inl ga1)) ∧ f bu = some (.inr (0, [.ref bs, .ref bp, .ref bh, .ref bf, .ref bl, .ref bg, .int (nI n), .int (nI cg), .int (nI x)])) ∧ f bs = some (.inl (cI G, 61, .inl (nf sa))) ∧ f bp = some (.inl (cI G, 240, .inl (nf pk))) ∧ f bh = some (.inl (cZ G, 240, .inl gh)) ∧ f bf = some (.inl (cI G, 3, .inl (nf fl))) ∧ f bl = some (.inl (cI G, 3, .inl gl)) ∧ f bg = some (.inl (cI G, 60, .inl (nf gv))) ∧ BOK n a cg x sa pk ∧ (∀ k, k < 3 → fl k < 243) ∧ ez ≠ eo ∧ nr0 ≠ nr1 ∧ nw0 ≠ na0 ∧ nw0 ≠ nq0 ∧ nw0 ≠ nw1 ∧ nw0 ≠ na1 ∧ nw0 ≠ nq1 ∧ na0 ≠ nq0 ∧ na0 ≠ nw1 ∧ na0 ≠ na1 ∧ na0 ≠ nq1 ∧ nq0 ≠ nw1 ∧ nq0 ≠ na1 ∧ nq0 ≠ nq1 ∧ nw1 ≠ na1 ∧ nw1 ≠ nq1 ∧ na1 ≠ nq1 ∧ bh ≠ bp ∧ bf ≠ bl ∧ (∀ c ∈ Q0, c.1 ∉ ws Q1) ∧ (∀ c ∈ Q0 ++ Q1, c.2 ∉ [nw0, na0, nq0, nw1, na1, nq1])
def CXW (G : hG) (f : hM) (xo ez eo bu nw0 na0 nq0 nr0 nw1 na1 nq1 nr1 bs bp bh bf bl bg : Nat) (S0 : ES) (S1 : ES) (gw0 : Nat → Int32) (ga0 : Nat → Int32) (gw1 : Nat → Int32) (ga1 : Nat → Int32) (n : Nat) (a : Nat) (cg : Nat) (x : Nat) (sa : Nat → Nat) (pk : Nat → Nat) (fl : Nat → Nat) (gv : Nat → Nat) (gh : Nat → Int32) (gl : Nat → Int32) : Prop := ∃ Q0 Q1 : List (Nat × Nat), CXQ G f xo ez eo bu nw0 na0 nq0 nr0 nw1 na1 nq1 nr1 bs bp bh bf bl bg Q0 Q1 S0 S1 gw0 ga0 gw1 ga1 n a cg x sa pk fl gv gh gl
/-- a cell that is no frame stays, but it is in S -/
def hKn (S : List Nat) (f f1 : hM) : Prop := ∀ a e, f a = some e → hTag e ≠ 3 → a ∉ S → f1 a = some e
theorem hKn.rf {S : List Nat} {f : hM} : hKn S f f := fun _ _ h _ _ => h
theorem hKn.tr {S : List Nat} {f f1 f2 : hM} (h : hKn S f f1) (h2 : hKn S f1 f2) : hKn S f f2 := fun a e q t n => h2 a e (h a e q t n) t n
theorem hKn.mono {S T : List Nat} {f f1 : hM} (h : hKn S f f1) (hs : ∀ a, a ∈ S → a ∈ T) : hKn T f f1 := fun a e q t n => h a e q t (fun z => n (hs a z))
theorem hKn.up {S : List Nat} {f : hM} {a : Nat} {e : Option va_E} (h : a ∈ S) : hKn S f (va_up f a e) := fun b x q _ n => by rw [va_up_ne _ _ (fun z => n (by rw [z]; exact h))]; exact q
theorem hKn.new {S : List Nat} {f : hM} {q : Nat} {e : Option va_E} (hq : f q = none) : hKn S f (va_up f q e) := fun b x h _ _ => by rw [va_up_ne _ _ (fun z => by rw [z, hq] at h; cases h)]; exact h
theorem hKn.eq {S : List Nat} {f f1 : hM} (h : hEq S f f1) : hKn S f f1 := fun a e q _ n => (h a n).trans q
theorem hK2.n {S : List Nat} {Q : List (Nat × Nat)} {f f1 : hM} (h : hK2 S Q f f1) : hKn S f f1 := fun a e q t n => h.2 a e q n (fun z => absurd z t)
theorem ws_symm {Q0 Q1 : List (Nat × Nat)} (h : ∀ c ∈ Q0, c.1 ∉ ws Q1) : ∀ c ∈ Q1, c.1 ∉ ws Q0 := fun c hc z => by
  obtain ⟨d, hd, e⟩ := List.mem_map.mp z
  exact h d hd (by rw [e]; exact List.mem_map_of_mem hc)
theorem EX.kp {G : hG} {f f1 : hM} {en nw na nq nr : Nat} {S : ES} {Q Q2 : List (Nat × Nat)} {T : List Nat} (h : EX G f en nw na nq nr S Q) (hk : hK2 T Q2 f f1) (hen : en ∉ T) (hnq : nq ∉ T) (hnr : nr ∉ T) (hq : ∀ c ∈ Q, c.1 ∉ ws Q2 ∧ c.2 ∉ T) (hs : ∀ a ∈ T, ∀ k, f a ≠ some (.inr (2, k))) : EX G f1 en nw na nq nr S Q := by
  obtain ⟨h1, h2, ⟨hd, h3, h4⟩, h5⟩ := h
  exact ⟨hk.2 _ _ h1 hen (fun t => absurd t (Nat.ne_of_beq_eq_false rfl)), hk.2 _ _ h2 hnq (fun t => absurd t (Nat.ne_of_beq_eq_false rfl)), ⟨hd, hk.2 _ _ h3 hnr (fun t => absurd t (Nat.ne_of_beq_eq_false rfl)), CH.kp hk h4 hq hs⟩, h5⟩
theorem EX.len {G : hG} {f : hM} {en nw na nq nr : Nat} {S : ES} {Q : List (Nat × Nat)} (h : EX G f en nw na nq nr S Q) : Q.length = S.2.2.2.2.2.2.2.2.length := by
  obtain ⟨h1, h2, ⟨hd, h3, h4⟩, h5⟩ := h
  exact h4.len
theorem EX.cn {G : hG} {f : hM} {en nw na nq nr : Nat} {S : ES} {Q : List (Nat × Nat)} (h : EX G f en nw na nq nr S Q) : ∃ hd tl : Value, f nr = some (.inr (3, [hd, tl, .int (nI S.2.2.2.2.2.2.2.2.length)])) := by
  have e := h.len
  obtain ⟨h1, h2, ⟨hd, h3, h4⟩, h5⟩ := h
  exact ⟨hd, lastV Q, by rw [← e]; exact h3⟩
/-- a cell that is no values' row of six -/
theorem EX.us {G : hG} {f : hM} {en nw na nq nr : Nat} {S : ES} {Q : List (Nat × Nat)} (h : EX G f en nw na nq nr S Q) {b : Nat} {e : va_E} (hb : f b = some e) (hl : hLen e ≠ 6) : ∀ c ∈ Q, c.2 ≠ b := fun c hc z => by
  obtain ⟨h1, h2, ⟨hd, h3, h4⟩, h5⟩ := h
  obtain ⟨r, nx, g1, g2⟩ := h4.mem c hc
  rw [z, hb] at g2
  cases g2
  exact hl rfl
theorem len3 {n m : Nat} (h : n = m) (hm : m < 3000) : n < 3900 := by omega
theorem CXQ.u0 {G : hG} {f f1 : hM} {xo ez eo bu nw0 na0 nq0 nr0 nw1 na1 nq1 nr1 bs bp bh bf bl bg : Nat} {Q0 Q1 Q9 : List (Nat × Nat)} {S0 : ES} {S1 : ES} {gw0 : Nat → Int32} {ga0 : Nat → Int32} {gw1 : Nat → Int32} {ga1 : Nat → Int32} {n : Nat} {a : Nat} {cg : Nat} {x : Nat} {sa : Nat → Nat} {pk : Nat → Nat} {fl : Nat → Nat} {gv : Nat → Nat} {gh : Nat → Int32} {gl : Nat → Int32} {S9 : ES} (h : CXQ G f xo ez eo bu nw0 na0 nq0 nr0 nw1 na1 nq1 nr1 bs bp bh bf bl bg Q0 Q1 S0 S1 gw0 ga0 gw1 ga1 n a cg x sa pk fl gv gh gl) (hE : EX G f1 ez nw0 na0 nq0 nr0 S9 Q9) (hk : hK2 [ez, nq0, nr0] Q0 f f1) (hs : ∀ c ∈ Q9, c ∈ Q0 ∨ (f c.1 = none ∧ f c.2 = none)) : CXQ G f1 xo ez eo bu nw0 na0 nq0 nr0 nw1 na1 nq1 nr1 bs bp bh bf bl bg Q9 Q1 S9 S1 gw0 ga0 gw1 ga1 n a cg x sa pk fl gv gh gl := by
  obtain ⟨k_xo, hE0, hE1, k_nw0, k_na0, k_nw1, k_na1, k_bu, k_bs, k_bp, k_bh, k_bf, k_bl, k_bg, hB9, hfl9, nd_ez_eo, nd_nr0_nr1, nd_nw0_na0, nd_nw0_nq0, nd_nw0_nw1, nd_nw0_na1, nd_nw0_nq1, nd_na0_nq0, nd_na0_nw1, nd_na0_na1, nd_na0_nq1, nd_nq0_nw1, nd_nq0_na1, nd_nq0_nq1, nd_nw1_na1, nd_nw1_nq1, nd_na1_nq1, nd_bh_bp, nd_bf_bl, hd1, hd2⟩ := h
  obtain ⟨k_ez, k_nq0, ⟨hv0, k_nr0, hch0⟩, -⟩ := id hE0
  obtain ⟨k_eo, k_nq1, ⟨hv1, k_nr1, hch1⟩, -⟩ := id hE1
  have n1 : xo ≠ nr0 := hne k_xo k_nr0 (Nat.ne_of_beq_eq_false rfl)
  have n2 : xo ≠ nq0 := hne k_xo k_nq0 (Nat.ne_of_beq_eq_false rfl)
  have n3 : xo ≠ ez := hne k_xo k_ez (Nat.ne_of_beq_eq_false rfl)
  have n4 : nw0 ≠ nr0 := hne k_nw0 k_nr0 (Nat.ne_of_beq_eq_false rfl)
  have n5 : nw0 ≠ ez := hne k_nw0 k_ez (Nat.ne_of_beq_eq_false rfl)
  have n6 : na0 ≠ nr0 := hne k_na0 k_nr0 (Nat.ne_of_beq_eq_false rfl)
  have n7 : na0 ≠ ez := hne k_na0 k_ez (Nat.ne_of_beq_eq_false rfl)
  have n8 : nw1 ≠ nr0 := hne k_nw1 k_nr0 (Nat.ne_of_beq_eq_false rfl)
  have n10 : nw1 ≠ ez := hne k_nw1 k_ez (Nat.ne_of_beq_eq_false rfl)
  have n11 : na1 ≠ nr0 := hne k_na1 k_nr0 (Nat.ne_of_beq_eq_false rfl)
  have n12 : na1 ≠ ez := hne k_na1 k_ez (Nat.ne_of_beq_eq_false rfl)
  have n13 : bu ≠ nr0 := hne k_bu k_nr0 (Nat.ne_of_beq_eq_false rfl)
  have n14 : bu ≠ nq0 := hne k_bu k_nq0 (Nat.ne_of_beq_eq_false rfl)
  have n15 : bu ≠ ez := hne k_bu k_ez (Nat.ne_of_beq_eq_false rfl)
  have n16 : bs ≠ nr0 := hne k_bs k_nr0 (Nat.ne_of_beq_eq_false rfl)
  have n17 : bs ≠ nq0 := hneL k_bs k_nq0 (Nat.ne_of_beq_eq_false rfl)
  have n18 : bs ≠ ez := hne k_bs k_ez (Nat.ne_of_beq_eq_false rfl)
  have n19 : bp ≠ nr0 := hne k_bp k_nr0 (Nat.ne_of_beq_eq_false rfl)
  have n20 : bp ≠ nq0 := hneL k_bp k_nq0 (Nat.ne_of_beq_eq_false rfl)
  have n21 : bp ≠ ez := hne k_bp k_ez (Nat.ne_of_beq_eq_false rfl)
  have n22 : bh ≠ nr0 := hne k_bh k_nr0 (Nat.ne_of_beq_eq_false rfl)
  have n23 : bh ≠ nq0 := hneL k_bh k_nq0 (Nat.ne_of_beq_eq_false rfl)
  have n24 : bh ≠ ez := hne k_bh k_ez (Nat.ne_of_beq_eq_false rfl)
  have n25 : bf ≠ nr0 := hne k_bf k_nr0 (Nat.ne_of_beq_eq_false rfl)
  have n26 : bf ≠ nq0 := hneL k_bf k_nq0 (Nat.ne_of_beq_eq_false rfl)
  have n27 : bf ≠ ez := hne k_bf k_ez (Nat.ne_of_beq_eq_false rfl)
  have n28 : bl ≠ nr0 := hne k_bl k_nr0 (Nat.ne_of_beq_eq_false rfl)
  have n29 : bl ≠ nq0 := hneL k_bl k_nq0 (Nat.ne_of_beq_eq_false rfl)
  have n30 : bl ≠ ez := hne k_bl k_ez (Nat.ne_of_beq_eq_false rfl)
  have n31 : bg ≠ nr0 := hne k_bg k_nr0 (Nat.ne_of_beq_eq_false rfl)
  have n32 : bg ≠ nq0 := hneL k_bg k_nq0 (Nat.ne_of_beq_eq_false rfl)
  have n33 : bg ≠ ez := hne k_bg k_ez (Nat.ne_of_beq_eq_false rfl)
  have n34 : eo ≠ nr0 := hne k_eo k_nr0 (Nat.ne_of_beq_eq_false rfl)
  have n35 : eo ≠ nq0 := hne k_eo k_nq0 (Nat.ne_of_beq_eq_false rfl)
  have n36 : nq1 ≠ nr0 := hne k_nq1 k_nr0 (Nat.ne_of_beq_eq_false rfl)
  have n37 : nq1 ≠ ez := hne k_nq1 k_ez (Nat.ne_of_beq_eq_false rfl)
  have n38 : nr1 ≠ nq0 := hne k_nr1 k_nq0 (Nat.ne_of_beq_eq_false rfl)
  have n39 : nr1 ≠ ez := hne k_nr1 k_ez (Nat.ne_of_beq_eq_false rfl)
  have hEo : EX G f1 eo nw1 na1 nq1 nr1 S1 Q1 := hE1.kp hk (ninc (Ne.symm nd_ez_eo) (ninc n35 (ninc n34 nin0))) (ninc n37 (ninc (Ne.symm nd_nq0_nq1) (ninc n36 nin0))) (ninc n39 (ninc n38 (ninc (Ne.symm nd_nr0_nr1) nin0))) (fun c hc => ⟨(ws_symm hd1) c hc, ninc (hE1.us k_ez (Nat.ne_of_beq_eq_false rfl) c hc) (ninc (fun z9 => hd2 c (List.mem_append_right _ hc) (by rw [z9]; simp)) (ninc (hE1.us k_nr0 (Nat.ne_of_beq_eq_false rfl) c hc) nin0))⟩) (EX.sf hE0)
  have hsx : ∀ b ∈ [nw0, na0, nq0, nw1, na1, nq1], ∃ e : va_E, f b = some e := (fun b9 hb9 => by simp only [List.mem_cons, List.not_mem_nil, or_false] at hb9; rcases hb9 with hb9 | hb9 | hb9 | hb9 | hb9 | hb9 <;> (rw [hb9]; exact ⟨_, by first | exact k_nw0 | exact k_na0 | exact k_nq0 | exact k_nw1 | exact k_na1 | exact k_nq1⟩))
  have hn2 : ∀ c ∈ Q9, c.2 ∉ [nw0, na0, nq0, nw1, na1, nq1] := fun c hc => (hs c hc).elim (fun z9 => hd2 c (List.mem_append_left _ z9)) (fun z9 y9 => by obtain ⟨e9, q9⟩ := hsx _ y9; rw [z9.2] at q9; cases q9)
  have hn1 : ∀ c ∈ Q9, c.1 ∉ ws Q1 := fun c hc => (hs c hc).elim ((hd1) c) (fun z9 => CH.fresh hch1 z9.1)
  exact ⟨hk.2 _ _ k_xo (ninc n3 (ninc n2 (ninc n1 nin0))) (fun t9 => absurd t9 (Nat.ne_of_beq_eq_false rfl)), hE, hEo, hk.2 _ _ k_nw0 (ninc n5 (ninc nd_nw0_nq0 (ninc n4 nin0))) (fun t9 => absurd t9 (Nat.ne_of_beq_eq_false rfl)), hk.2 _ _ k_na0 (ninc n7 (ninc nd_na0_nq0 (ninc n6 nin0))) (fun t9 => absurd t9 (Nat.ne_of_beq_eq_false rfl)), hk.2 _ _ k_nw1 (ninc n10 (ninc (Ne.symm nd_nq0_nw1) (ninc n8 nin0))) (fun t9 => absurd t9 (Nat.ne_of_beq_eq_false rfl)), hk.2 _ _ k_na1 (ninc n12 (ninc (Ne.symm nd_nq0_na1) (ninc n11 nin0))) (fun t9 => absurd t9 (Nat.ne_of_beq_eq_false rfl)), hk.2 _ _ k_bu (ninc n15 (ninc n14 (ninc n13 nin0))) (fun t9 => absurd t9 (Nat.ne_of_beq_eq_false rfl)), hk.2 _ _ k_bs (ninc n18 (ninc n17 (ninc n16 nin0))) (fun t9 => absurd t9 (Nat.ne_of_beq_eq_false rfl)), hk.2 _ _ k_bp (ninc n21 (ninc n20 (ninc n19 nin0))) (fun t9 => absurd t9 (Nat.ne_of_beq_eq_false rfl)), hk.2 _ _ k_bh (ninc n24 (ninc n23 (ninc n22 nin0))) (fun t9 => absurd t9 (Nat.ne_of_beq_eq_false rfl)), hk.2 _ _ k_bf (ninc n27 (ninc n26 (ninc n25 nin0))) (fun t9 => absurd t9 (Nat.ne_of_beq_eq_false rfl)), hk.2 _ _ k_bl (ninc n30 (ninc n29 (ninc n28 nin0))) (fun t9 => absurd t9 (Nat.ne_of_beq_eq_false rfl)), hk.2 _ _ k_bg (ninc n33 (ninc n32 (ninc n31 nin0))) (fun t9 => absurd t9 (Nat.ne_of_beq_eq_false rfl)), hB9, hfl9, nd_ez_eo, nd_nr0_nr1, nd_nw0_na0, nd_nw0_nq0, nd_nw0_nw1, nd_nw0_na1, nd_nw0_nq1, nd_na0_nq0, nd_na0_nw1, nd_na0_na1, nd_na0_nq1, nd_nq0_nw1, nd_nq0_na1, nd_nq0_nq1, nd_nw1_na1, nd_nw1_nq1, nd_na1_nq1, nd_bh_bp, nd_bf_bl, hn1, (fun c hc => (List.mem_append.mp hc).elim (hn2 c) (fun z9 => hd2 c (List.mem_append_right _ z9)))⟩
theorem CXQ.u1 {G : hG} {f f1 : hM} {xo ez eo bu nw0 na0 nq0 nr0 nw1 na1 nq1 nr1 bs bp bh bf bl bg : Nat} {Q0 Q1 Q9 : List (Nat × Nat)} {S0 : ES} {S1 : ES} {gw0 : Nat → Int32} {ga0 : Nat → Int32} {gw1 : Nat → Int32} {ga1 : Nat → Int32} {n : Nat} {a : Nat} {cg : Nat} {x : Nat} {sa : Nat → Nat} {pk : Nat → Nat} {fl : Nat → Nat} {gv : Nat → Nat} {gh : Nat → Int32} {gl : Nat → Int32} {S9 : ES} (h : CXQ G f xo ez eo bu nw0 na0 nq0 nr0 nw1 na1 nq1 nr1 bs bp bh bf bl bg Q0 Q1 S0 S1 gw0 ga0 gw1 ga1 n a cg x sa pk fl gv gh gl) (hE : EX G f1 eo nw1 na1 nq1 nr1 S9 Q9) (hk : hK2 [eo, nq1, nr1] Q1 f f1) (hs : ∀ c ∈ Q9, c ∈ Q1 ∨ (f c.1 = none ∧ f c.2 = none)) : CXQ G f1 xo ez eo bu nw0 na0 nq0 nr0 nw1 na1 nq1 nr1 bs bp bh bf bl bg Q0 Q9 S0 S9 gw0 ga0 gw1 ga1 n a cg x sa pk fl gv gh gl := by
  obtain ⟨k_xo, hE0, hE1, k_nw0, k_na0, k_nw1, k_na1, k_bu, k_bs, k_bp, k_bh, k_bf, k_bl, k_bg, hB9, hfl9, nd_ez_eo, nd_nr0_nr1, nd_nw0_na0, nd_nw0_nq0, nd_nw0_nw1, nd_nw0_na1, nd_nw0_nq1, nd_na0_nq0, nd_na0_nw1, nd_na0_na1, nd_na0_nq1, nd_nq0_nw1, nd_nq0_na1, nd_nq0_nq1, nd_nw1_na1, nd_nw1_nq1, nd_na1_nq1, nd_bh_bp, nd_bf_bl, hd1, hd2⟩ := h
  obtain ⟨k_ez, k_nq0, ⟨hv0, k_nr0, hch0⟩, -⟩ := id hE0
  obtain ⟨k_eo, k_nq1, ⟨hv1, k_nr1, hch1⟩, -⟩ := id hE1
  have n1 : xo ≠ nr1 := hne k_xo k_nr1 (Nat.ne_of_beq_eq_false rfl)
  have n2 : xo ≠ nq1 := hne k_xo k_nq1 (Nat.ne_of_beq_eq_false rfl)
  have n3 : xo ≠ eo := hne k_xo k_eo (Nat.ne_of_beq_eq_false rfl)
  have n4 : nw0 ≠ nr1 := hne k_nw0 k_nr1 (Nat.ne_of_beq_eq_false rfl)
  have n5 : nw0 ≠ eo := hne k_nw0 k_eo (Nat.ne_of_beq_eq_false rfl)
  have n6 : na0 ≠ nr1 := hne k_na0 k_nr1 (Nat.ne_of_beq_eq_false rfl)
  have n7 : na0 ≠ eo := hne k_na0 k_eo (Nat.ne_of_beq_eq_false rfl)
  have n8 : nw1 ≠ nr1 := hne k_nw1 k_nr1 (Nat.ne_of_beq_eq_false rfl)
  have n10 : nw1 ≠ eo := hne k_nw1 k_eo (Nat.ne_of_beq_eq_false rfl)
  have n11 : na1 ≠ nr1 := hne k_na1 k_nr1 (Nat.ne_of_beq_eq_false rfl)
  have n12 : na1 ≠ eo := hne k_na1 k_eo (Nat.ne_of_beq_eq_false rfl)
  have n13 : bu ≠ nr1 := hne k_bu k_nr1 (Nat.ne_of_beq_eq_false rfl)
  have n14 : bu ≠ nq1 := hne k_bu k_nq1 (Nat.ne_of_beq_eq_false rfl)
  have n15 : bu ≠ eo := hne k_bu k_eo (Nat.ne_of_beq_eq_false rfl)
  have n16 : bs ≠ nr1 := hne k_bs k_nr1 (Nat.ne_of_beq_eq_false rfl)
  have n17 : bs ≠ nq1 := hneL k_bs k_nq1 (Nat.ne_of_beq_eq_false rfl)
  have n18 : bs ≠ eo := hne k_bs k_eo (Nat.ne_of_beq_eq_false rfl)
  have n19 : bp ≠ nr1 := hne k_bp k_nr1 (Nat.ne_of_beq_eq_false rfl)
  have n20 : bp ≠ nq1 := hneL k_bp k_nq1 (Nat.ne_of_beq_eq_false rfl)
  have n21 : bp ≠ eo := hne k_bp k_eo (Nat.ne_of_beq_eq_false rfl)
  have n22 : bh ≠ nr1 := hne k_bh k_nr1 (Nat.ne_of_beq_eq_false rfl)
  have n23 : bh ≠ nq1 := hneL k_bh k_nq1 (Nat.ne_of_beq_eq_false rfl)
  have n24 : bh ≠ eo := hne k_bh k_eo (Nat.ne_of_beq_eq_false rfl)
  have n25 : bf ≠ nr1 := hne k_bf k_nr1 (Nat.ne_of_beq_eq_false rfl)
  have n26 : bf ≠ nq1 := hneL k_bf k_nq1 (Nat.ne_of_beq_eq_false rfl)
  have n27 : bf ≠ eo := hne k_bf k_eo (Nat.ne_of_beq_eq_false rfl)
  have n28 : bl ≠ nr1 := hne k_bl k_nr1 (Nat.ne_of_beq_eq_false rfl)
  have n29 : bl ≠ nq1 := hneL k_bl k_nq1 (Nat.ne_of_beq_eq_false rfl)
  have n30 : bl ≠ eo := hne k_bl k_eo (Nat.ne_of_beq_eq_false rfl)
  have n31 : bg ≠ nr1 := hne k_bg k_nr1 (Nat.ne_of_beq_eq_false rfl)
  have n32 : bg ≠ nq1 := hneL k_bg k_nq1 (Nat.ne_of_beq_eq_false rfl)
  have n33 : bg ≠ eo := hne k_bg k_eo (Nat.ne_of_beq_eq_false rfl)
  have n34 : ez ≠ nr1 := hne k_ez k_nr1 (Nat.ne_of_beq_eq_false rfl)
  have n35 : ez ≠ nq1 := hne k_ez k_nq1 (Nat.ne_of_beq_eq_false rfl)
  have n36 : nq0 ≠ nr1 := hne k_nq0 k_nr1 (Nat.ne_of_beq_eq_false rfl)
  have n37 : nq0 ≠ eo := hne k_nq0 k_eo (Nat.ne_of_beq_eq_false rfl)
  have n38 : nr0 ≠ nq1 := hne k_nr0 k_nq1 (Nat.ne_of_beq_eq_false rfl)
  have n39 : nr0 ≠ eo := hne k_nr0 k_eo (Nat.ne_of_beq_eq_false rfl)
  have hEo : EX G f1 ez nw0 na0 nq0 nr0 S0 Q0 := hE0.kp hk (ninc nd_ez_eo (ninc n35 (ninc n34 nin0))) (ninc n37 (ninc nd_nq0_nq1 (ninc n36 nin0))) (ninc n39 (ninc n38 (ninc nd_nr0_nr1 nin0))) (fun c hc => ⟨(hd1) c hc, ninc (hE0.us k_eo (Nat.ne_of_beq_eq_false rfl) c hc) (ninc (fun z9 => hd2 c (List.mem_append_left _ hc) (by rw [z9]; simp)) (ninc (hE0.us k_nr1 (Nat.ne_of_beq_eq_false rfl) c hc) nin0))⟩) (EX.sf hE1)
  have hsx : ∀ b ∈ [nw0, na0, nq0, nw1, na1, nq1], ∃ e : va_E, f b = some e := (fun b9 hb9 => by simp only [List.mem_cons, List.not_mem_nil, or_false] at hb9; rcases hb9 with hb9 | hb9 | hb9 | hb9 | hb9 | hb9 <;> (rw [hb9]; exact ⟨_, by first | exact k_nw0 | exact k_na0 | exact k_nq0 | exact k_nw1 | exact k_na1 | exact k_nq1⟩))
  have hn2 : ∀ c ∈ Q9, c.2 ∉ [nw0, na0, nq0, nw1, na1, nq1] := fun c hc => (hs c hc).elim (fun z9 => hd2 c (List.mem_append_right _ z9)) (fun z9 y9 => by obtain ⟨e9, q9⟩ := hsx _ y9; rw [z9.2] at q9; cases q9)
  have hn1 : ∀ c ∈ Q9, c.1 ∉ ws Q0 := fun c hc => (hs c hc).elim ((ws_symm hd1) c) (fun z9 => CH.fresh hch0 z9.1)
  exact ⟨hk.2 _ _ k_xo (ninc n3 (ninc n2 (ninc n1 nin0))) (fun t9 => absurd t9 (Nat.ne_of_beq_eq_false rfl)), hEo, hE, hk.2 _ _ k_nw0 (ninc n5 (ninc nd_nw0_nq1 (ninc n4 nin0))) (fun t9 => absurd t9 (Nat.ne_of_beq_eq_false rfl)), hk.2 _ _ k_na0 (ninc n7 (ninc nd_na0_nq1 (ninc n6 nin0))) (fun t9 => absurd t9 (Nat.ne_of_beq_eq_false rfl)), hk.2 _ _ k_nw1 (ninc n10 (ninc nd_nw1_nq1 (ninc n8 nin0))) (fun t9 => absurd t9 (Nat.ne_of_beq_eq_false rfl)), hk.2 _ _ k_na1 (ninc n12 (ninc nd_na1_nq1 (ninc n11 nin0))) (fun t9 => absurd t9 (Nat.ne_of_beq_eq_false rfl)), hk.2 _ _ k_bu (ninc n15 (ninc n14 (ninc n13 nin0))) (fun t9 => absurd t9 (Nat.ne_of_beq_eq_false rfl)), hk.2 _ _ k_bs (ninc n18 (ninc n17 (ninc n16 nin0))) (fun t9 => absurd t9 (Nat.ne_of_beq_eq_false rfl)), hk.2 _ _ k_bp (ninc n21 (ninc n20 (ninc n19 nin0))) (fun t9 => absurd t9 (Nat.ne_of_beq_eq_false rfl)), hk.2 _ _ k_bh (ninc n24 (ninc n23 (ninc n22 nin0))) (fun t9 => absurd t9 (Nat.ne_of_beq_eq_false rfl)), hk.2 _ _ k_bf (ninc n27 (ninc n26 (ninc n25 nin0))) (fun t9 => absurd t9 (Nat.ne_of_beq_eq_false rfl)), hk.2 _ _ k_bl (ninc n30 (ninc n29 (ninc n28 nin0))) (fun t9 => absurd t9 (Nat.ne_of_beq_eq_false rfl)), hk.2 _ _ k_bg (ninc n33 (ninc n32 (ninc n31 nin0))) (fun t9 => absurd t9 (Nat.ne_of_beq_eq_false rfl)), hB9, hfl9, nd_ez_eo, nd_nr0_nr1, nd_nw0_na0, nd_nw0_nq0, nd_nw0_nw1, nd_nw0_na1, nd_nw0_nq1, nd_na0_nq0, nd_na0_nw1, nd_na0_na1, nd_na0_nq1, nd_nq0_nw1, nd_nq0_na1, nd_nq0_nq1, nd_nw1_na1, nd_nw1_nq1, nd_na1_nq1, nd_bh_bp, nd_bf_bl, (ws_symm hn1), (fun c hc => (List.mem_append.mp hc).elim (fun z9 => hd2 c (List.mem_append_left _ z9)) (hn2 c))⟩
theorem CXQ.w0 {G : hG} {f f1 : hM} {xo ez eo bu nw0 na0 nq0 nr0 nw1 na1 nq1 nr1 bs bp bh bf bl bg : Nat} {Q0 Q1 : List (Nat × Nat)} {S0 : ES} {S1 : ES} {gw0 : Nat → Int32} {ga0 : Nat → Int32} {gw1 : Nat → Int32} {ga1 : Nat → Int32} {n : Nat} {a : Nat} {cg : Nat} {x : Nat} {sa : Nat → Nat} {pk : Nat → Nat} {fl : Nat → Nat} {gv : Nat → Nat} {gh : Nat → Int32} {gl : Nat → Int32} {gw09 : Nat → Int32} (h : CXQ G f xo ez eo bu nw0 na0 nq0 nr0 nw1 na1 nq1 nr1 bs bp bh bf bl bg Q0 Q1 S0 S1 gw0 ga0 gw1 ga1 n a cg x sa pk fl gv gh gl) (hk : hK2 [nw0] [] f f1) (j_nw0 : f1 nw0 = some (.inl (cI G, 6, .inl gw09))) (jB : BOK n a cg x sa pk) (jF : ∀ k, k < 3 → fl k < 243) : CXQ G f1 xo ez eo bu nw0 na0 nq0 nr0 nw1 na1 nq1 nr1 bs bp bh bf bl bg Q0 Q1 S0 S1 gw09 ga0 gw1 ga1 n a cg x sa pk fl gv gh gl := by
  obtain ⟨k_xo, hE0, hE1, k_nw0, k_na0, k_nw1, k_na1, k_bu, k_bs, k_bp, k_bh, k_bf, k_bl, k_bg, hB9, hfl9, nd_ez_eo, nd_nr0_nr1, nd_nw0_na0, nd_nw0_nq0, nd_nw0_nw1, nd_nw0_na1, nd_nw0_nq1, nd_na0_nq0, nd_na0_nw1, nd_na0_na1, nd_na0_nq1, nd_nq0_nw1, nd_nq0_na1, nd_nq0_nq1, nd_nw1_na1, nd_nw1_nq1, nd_na1_nq1, nd_bh_bp, nd_bf_bl, hd1, hd2⟩ := h
  obtain ⟨k_ez, k_nq0, ⟨hv0, k_nr0, hch0⟩, -⟩ := id hE0
  obtain ⟨k_eo, k_nq1, ⟨hv1, k_nr1, hch1⟩, -⟩ := id hE1
  have n1 : xo ≠ nw0 := hne k_xo k_nw0 (Nat.ne_of_beq_eq_false rfl)
  have n2 : bu ≠ nw0 := hne k_bu k_nw0 (Nat.ne_of_beq_eq_false rfl)
  have n3 : bs ≠ nw0 := hneL k_bs k_nw0 (Nat.ne_of_beq_eq_false rfl)
  have n4 : bp ≠ nw0 := hneL k_bp k_nw0 (Nat.ne_of_beq_eq_false rfl)
  have n5 : bh ≠ nw0 := hneL k_bh k_nw0 (Nat.ne_of_beq_eq_false rfl)
  have n6 : bf ≠ nw0 := hneL k_bf k_nw0 (Nat.ne_of_beq_eq_false rfl)
  have n7 : bl ≠ nw0 := hneL k_bl k_nw0 (Nat.ne_of_beq_eq_false rfl)
  have n8 : bg ≠ nw0 := hneL k_bg k_nw0 (Nat.ne_of_beq_eq_false rfl)
  have n10 : ez ≠ nw0 := hne k_ez k_nw0 (Nat.ne_of_beq_eq_false rfl)
  have n11 : nr0 ≠ nw0 := hne k_nr0 k_nw0 (Nat.ne_of_beq_eq_false rfl)
  have n12 : eo ≠ nw0 := hne k_eo k_nw0 (Nat.ne_of_beq_eq_false rfl)
  have n13 : nr1 ≠ nw0 := hne k_nr1 k_nw0 (Nat.ne_of_beq_eq_false rfl)
  exact ⟨hk.2 _ _ k_xo (ninc n1 nin0) (fun t9 => absurd t9 (Nat.ne_of_beq_eq_false rfl)), hE0.kp hk (ninc n10 nin0) (ninc (Ne.symm nd_nw0_nq0) nin0) (ninc n11 nin0) (fun c hc => ⟨(fun z9 => nomatch z9), (ninc (fun z9 => hd2 c (List.mem_append_left _ hc) (by rw [z9]; simp)) nin0)⟩) (fun a9 ha9 k9 hk9 => by
      simp only [List.mem_cons, List.not_mem_nil, or_false] at ha9
      rcases ha9 with ha9
      · rw [ha9, k_nw0] at hk9; cases hk9), hE1.kp hk (ninc n12 nin0) (ninc (Ne.symm nd_nw0_nq1) nin0) (ninc n13 nin0) (fun c hc => ⟨(fun z9 => nomatch z9), (ninc (fun z9 => hd2 c (List.mem_append_right _ hc) (by rw [z9]; simp)) nin0)⟩) (fun a9 ha9 k9 hk9 => by
      simp only [List.mem_cons, List.not_mem_nil, or_false] at ha9
      rcases ha9 with ha9
      · rw [ha9, k_nw0] at hk9; cases hk9), j_nw0, hk.2 _ _ k_na0 (ninc (Ne.symm nd_nw0_na0) nin0) (fun t9 => absurd t9 (Nat.ne_of_beq_eq_false rfl)), hk.2 _ _ k_nw1 (ninc (Ne.symm nd_nw0_nw1) nin0) (fun t9 => absurd t9 (Nat.ne_of_beq_eq_false rfl)), hk.2 _ _ k_na1 (ninc (Ne.symm nd_nw0_na1) nin0) (fun t9 => absurd t9 (Nat.ne_of_beq_eq_false rfl)), hk.2 _ _ k_bu (ninc n2 nin0) (fun t9 => absurd t9 (Nat.ne_of_beq_eq_false rfl)), hk.2 _ _ k_bs (ninc n3 nin0) (fun t9 => absurd t9 (Nat.ne_of_beq_eq_false rfl)), hk.2 _ _ k_bp (ninc n4 nin0) (fun t9 => absurd t9 (Nat.ne_of_beq_eq_false rfl)), hk.2 _ _ k_bh (ninc n5 nin0) (fun t9 => absurd t9 (Nat.ne_of_beq_eq_false rfl)), hk.2 _ _ k_bf (ninc n6 nin0) (fun t9 => absurd t9 (Nat.ne_of_beq_eq_false rfl)), hk.2 _ _ k_bl (ninc n7 nin0) (fun t9 => absurd t9 (Nat.ne_of_beq_eq_false rfl)), hk.2 _ _ k_bg (ninc n8 nin0) (fun t9 => absurd t9 (Nat.ne_of_beq_eq_false rfl)), jB, jF, nd_ez_eo, nd_nr0_nr1, nd_nw0_na0, nd_nw0_nq0, nd_nw0_nw1, nd_nw0_na1, nd_nw0_nq1, nd_na0_nq0, nd_na0_nw1, nd_na0_na1, nd_na0_nq1, nd_nq0_nw1, nd_nq0_na1, nd_nq0_nq1, nd_nw1_na1, nd_nw1_nq1, nd_na1_nq1, nd_bh_bp, nd_bf_bl, hd1, hd2⟩
theorem CXQ.a0 {G : hG} {f f1 : hM} {xo ez eo bu nw0 na0 nq0 nr0 nw1 na1 nq1 nr1 bs bp bh bf bl bg : Nat} {Q0 Q1 : List (Nat × Nat)} {S0 : ES} {S1 : ES} {gw0 : Nat → Int32} {ga0 : Nat → Int32} {gw1 : Nat → Int32} {ga1 : Nat → Int32} {n : Nat} {a : Nat} {cg : Nat} {x : Nat} {sa : Nat → Nat} {pk : Nat → Nat} {fl : Nat → Nat} {gv : Nat → Nat} {gh : Nat → Int32} {gl : Nat → Int32} {ga09 : Nat → Int32} (h : CXQ G f xo ez eo bu nw0 na0 nq0 nr0 nw1 na1 nq1 nr1 bs bp bh bf bl bg Q0 Q1 S0 S1 gw0 ga0 gw1 ga1 n a cg x sa pk fl gv gh gl) (hk : hK2 [na0] [] f f1) (j_na0 : f1 na0 = some (.inl (cI G, 6, .inl ga09))) (jB : BOK n a cg x sa pk) (jF : ∀ k, k < 3 → fl k < 243) : CXQ G f1 xo ez eo bu nw0 na0 nq0 nr0 nw1 na1 nq1 nr1 bs bp bh bf bl bg Q0 Q1 S0 S1 gw0 ga09 gw1 ga1 n a cg x sa pk fl gv gh gl := by
  obtain ⟨k_xo, hE0, hE1, k_nw0, k_na0, k_nw1, k_na1, k_bu, k_bs, k_bp, k_bh, k_bf, k_bl, k_bg, hB9, hfl9, nd_ez_eo, nd_nr0_nr1, nd_nw0_na0, nd_nw0_nq0, nd_nw0_nw1, nd_nw0_na1, nd_nw0_nq1, nd_na0_nq0, nd_na0_nw1, nd_na0_na1, nd_na0_nq1, nd_nq0_nw1, nd_nq0_na1, nd_nq0_nq1, nd_nw1_na1, nd_nw1_nq1, nd_na1_nq1, nd_bh_bp, nd_bf_bl, hd1, hd2⟩ := h
  obtain ⟨k_ez, k_nq0, ⟨hv0, k_nr0, hch0⟩, -⟩ := id hE0
  obtain ⟨k_eo, k_nq1, ⟨hv1, k_nr1, hch1⟩, -⟩ := id hE1
  have n1 : xo ≠ na0 := hne k_xo k_na0 (Nat.ne_of_beq_eq_false rfl)
  have n2 : bu ≠ na0 := hne k_bu k_na0 (Nat.ne_of_beq_eq_false rfl)
  have n3 : bs ≠ na0 := hneL k_bs k_na0 (Nat.ne_of_beq_eq_false rfl)
  have n4 : bp ≠ na0 := hneL k_bp k_na0 (Nat.ne_of_beq_eq_false rfl)
  have n5 : bh ≠ na0 := hneL k_bh k_na0 (Nat.ne_of_beq_eq_false rfl)
  have n6 : bf ≠ na0 := hneL k_bf k_na0 (Nat.ne_of_beq_eq_false rfl)
  have n7 : bl ≠ na0 := hneL k_bl k_na0 (Nat.ne_of_beq_eq_false rfl)
  have n8 : bg ≠ na0 := hneL k_bg k_na0 (Nat.ne_of_beq_eq_false rfl)
  have n10 : ez ≠ na0 := hne k_ez k_na0 (Nat.ne_of_beq_eq_false rfl)
  have n11 : nr0 ≠ na0 := hne k_nr0 k_na0 (Nat.ne_of_beq_eq_false rfl)
  have n12 : eo ≠ na0 := hne k_eo k_na0 (Nat.ne_of_beq_eq_false rfl)
  have n13 : nr1 ≠ na0 := hne k_nr1 k_na0 (Nat.ne_of_beq_eq_false rfl)
  exact ⟨hk.2 _ _ k_xo (ninc n1 nin0) (fun t9 => absurd t9 (Nat.ne_of_beq_eq_false rfl)), hE0.kp hk (ninc n10 nin0) (ninc (Ne.symm nd_na0_nq0) nin0) (ninc n11 nin0) (fun c hc => ⟨(fun z9 => nomatch z9), (ninc (fun z9 => hd2 c (List.mem_append_left _ hc) (by rw [z9]; simp)) nin0)⟩) (fun a9 ha9 k9 hk9 => by
      simp only [List.mem_cons, List.not_mem_nil, or_false] at ha9
      rcases ha9 with ha9
      · rw [ha9, k_na0] at hk9; cases hk9), hE1.kp hk (ninc n12 nin0) (ninc (Ne.symm nd_na0_nq1) nin0) (ninc n13 nin0) (fun c hc => ⟨(fun z9 => nomatch z9), (ninc (fun z9 => hd2 c (List.mem_append_right _ hc) (by rw [z9]; simp)) nin0)⟩) (fun a9 ha9 k9 hk9 => by
      simp only [List.mem_cons, List.not_mem_nil, or_false] at ha9
      rcases ha9 with ha9
      · rw [ha9, k_na0] at hk9; cases hk9), hk.2 _ _ k_nw0 (ninc nd_nw0_na0 nin0) (fun t9 => absurd t9 (Nat.ne_of_beq_eq_false rfl)), j_na0, hk.2 _ _ k_nw1 (ninc (Ne.symm nd_na0_nw1) nin0) (fun t9 => absurd t9 (Nat.ne_of_beq_eq_false rfl)), hk.2 _ _ k_na1 (ninc (Ne.symm nd_na0_na1) nin0) (fun t9 => absurd t9 (Nat.ne_of_beq_eq_false rfl)), hk.2 _ _ k_bu (ninc n2 nin0) (fun t9 => absurd t9 (Nat.ne_of_beq_eq_false rfl)), hk.2 _ _ k_bs (ninc n3 nin0) (fun t9 => absurd t9 (Nat.ne_of_beq_eq_false rfl)), hk.2 _ _ k_bp (ninc n4 nin0) (fun t9 => absurd t9 (Nat.ne_of_beq_eq_false rfl)), hk.2 _ _ k_bh (ninc n5 nin0) (fun t9 => absurd t9 (Nat.ne_of_beq_eq_false rfl)), hk.2 _ _ k_bf (ninc n6 nin0) (fun t9 => absurd t9 (Nat.ne_of_beq_eq_false rfl)), hk.2 _ _ k_bl (ninc n7 nin0) (fun t9 => absurd t9 (Nat.ne_of_beq_eq_false rfl)), hk.2 _ _ k_bg (ninc n8 nin0) (fun t9 => absurd t9 (Nat.ne_of_beq_eq_false rfl)), jB, jF, nd_ez_eo, nd_nr0_nr1, nd_nw0_na0, nd_nw0_nq0, nd_nw0_nw1, nd_nw0_na1, nd_nw0_nq1, nd_na0_nq0, nd_na0_nw1, nd_na0_na1, nd_na0_nq1, nd_nq0_nw1, nd_nq0_na1, nd_nq0_nq1, nd_nw1_na1, nd_nw1_nq1, nd_na1_nq1, nd_bh_bp, nd_bf_bl, hd1, hd2⟩
theorem CXQ.w1 {G : hG} {f f1 : hM} {xo ez eo bu nw0 na0 nq0 nr0 nw1 na1 nq1 nr1 bs bp bh bf bl bg : Nat} {Q0 Q1 : List (Nat × Nat)} {S0 : ES} {S1 : ES} {gw0 : Nat → Int32} {ga0 : Nat → Int32} {gw1 : Nat → Int32} {ga1 : Nat → Int32} {n : Nat} {a : Nat} {cg : Nat} {x : Nat} {sa : Nat → Nat} {pk : Nat → Nat} {fl : Nat → Nat} {gv : Nat → Nat} {gh : Nat → Int32} {gl : Nat → Int32} {gw19 : Nat → Int32} (h : CXQ G f xo ez eo bu nw0 na0 nq0 nr0 nw1 na1 nq1 nr1 bs bp bh bf bl bg Q0 Q1 S0 S1 gw0 ga0 gw1 ga1 n a cg x sa pk fl gv gh gl) (hk : hK2 [nw1] [] f f1) (j_nw1 : f1 nw1 = some (.inl (cI G, 6, .inl gw19))) (jB : BOK n a cg x sa pk) (jF : ∀ k, k < 3 → fl k < 243) : CXQ G f1 xo ez eo bu nw0 na0 nq0 nr0 nw1 na1 nq1 nr1 bs bp bh bf bl bg Q0 Q1 S0 S1 gw0 ga0 gw19 ga1 n a cg x sa pk fl gv gh gl := by
  obtain ⟨k_xo, hE0, hE1, k_nw0, k_na0, k_nw1, k_na1, k_bu, k_bs, k_bp, k_bh, k_bf, k_bl, k_bg, hB9, hfl9, nd_ez_eo, nd_nr0_nr1, nd_nw0_na0, nd_nw0_nq0, nd_nw0_nw1, nd_nw0_na1, nd_nw0_nq1, nd_na0_nq0, nd_na0_nw1, nd_na0_na1, nd_na0_nq1, nd_nq0_nw1, nd_nq0_na1, nd_nq0_nq1, nd_nw1_na1, nd_nw1_nq1, nd_na1_nq1, nd_bh_bp, nd_bf_bl, hd1, hd2⟩ := h
  obtain ⟨k_ez, k_nq0, ⟨hv0, k_nr0, hch0⟩, -⟩ := id hE0
  obtain ⟨k_eo, k_nq1, ⟨hv1, k_nr1, hch1⟩, -⟩ := id hE1
  have n1 : xo ≠ nw1 := hne k_xo k_nw1 (Nat.ne_of_beq_eq_false rfl)
  have n2 : bu ≠ nw1 := hne k_bu k_nw1 (Nat.ne_of_beq_eq_false rfl)
  have n3 : bs ≠ nw1 := hneL k_bs k_nw1 (Nat.ne_of_beq_eq_false rfl)
  have n4 : bp ≠ nw1 := hneL k_bp k_nw1 (Nat.ne_of_beq_eq_false rfl)
  have n5 : bh ≠ nw1 := hneL k_bh k_nw1 (Nat.ne_of_beq_eq_false rfl)
  have n6 : bf ≠ nw1 := hneL k_bf k_nw1 (Nat.ne_of_beq_eq_false rfl)
  have n7 : bl ≠ nw1 := hneL k_bl k_nw1 (Nat.ne_of_beq_eq_false rfl)
  have n8 : bg ≠ nw1 := hneL k_bg k_nw1 (Nat.ne_of_beq_eq_false rfl)
  have n10 : ez ≠ nw1 := hne k_ez k_nw1 (Nat.ne_of_beq_eq_false rfl)
  have n11 : nr0 ≠ nw1 := hne k_nr0 k_nw1 (Nat.ne_of_beq_eq_false rfl)
  have n12 : eo ≠ nw1 := hne k_eo k_nw1 (Nat.ne_of_beq_eq_false rfl)
  have n13 : nr1 ≠ nw1 := hne k_nr1 k_nw1 (Nat.ne_of_beq_eq_false rfl)
  exact ⟨hk.2 _ _ k_xo (ninc n1 nin0) (fun t9 => absurd t9 (Nat.ne_of_beq_eq_false rfl)), hE0.kp hk (ninc n10 nin0) (ninc nd_nq0_nw1 nin0) (ninc n11 nin0) (fun c hc => ⟨(fun z9 => nomatch z9), (ninc (fun z9 => hd2 c (List.mem_append_left _ hc) (by rw [z9]; simp)) nin0)⟩) (fun a9 ha9 k9 hk9 => by
      simp only [List.mem_cons, List.not_mem_nil, or_false] at ha9
      rcases ha9 with ha9
      · rw [ha9, k_nw1] at hk9; cases hk9), hE1.kp hk (ninc n12 nin0) (ninc (Ne.symm nd_nw1_nq1) nin0) (ninc n13 nin0) (fun c hc => ⟨(fun z9 => nomatch z9), (ninc (fun z9 => hd2 c (List.mem_append_right _ hc) (by rw [z9]; simp)) nin0)⟩) (fun a9 ha9 k9 hk9 => by
      simp only [List.mem_cons, List.not_mem_nil, or_false] at ha9
      rcases ha9 with ha9
      · rw [ha9, k_nw1] at hk9; cases hk9), hk.2 _ _ k_nw0 (ninc nd_nw0_nw1 nin0) (fun t9 => absurd t9 (Nat.ne_of_beq_eq_false rfl)), hk.2 _ _ k_na0 (ninc nd_na0_nw1 nin0) (fun t9 => absurd t9 (Nat.ne_of_beq_eq_false rfl)), j_nw1, hk.2 _ _ k_na1 (ninc (Ne.symm nd_nw1_na1) nin0) (fun t9 => absurd t9 (Nat.ne_of_beq_eq_false rfl)), hk.2 _ _ k_bu (ninc n2 nin0) (fun t9 => absurd t9 (Nat.ne_of_beq_eq_false rfl)), hk.2 _ _ k_bs (ninc n3 nin0) (fun t9 => absurd t9 (Nat.ne_of_beq_eq_false rfl)), hk.2 _ _ k_bp (ninc n4 nin0) (fun t9 => absurd t9 (Nat.ne_of_beq_eq_false rfl)), hk.2 _ _ k_bh (ninc n5 nin0) (fun t9 => absurd t9 (Nat.ne_of_beq_eq_false rfl)), hk.2 _ _ k_bf (ninc n6 nin0) (fun t9 => absurd t9 (Nat.ne_of_beq_eq_false rfl)), hk.2 _ _ k_bl (ninc n7 nin0) (fun t9 => absurd t9 (Nat.ne_of_beq_eq_false rfl)), hk.2 _ _ k_bg (ninc n8 nin0) (fun t9 => absurd t9 (Nat.ne_of_beq_eq_false rfl)), jB, jF, nd_ez_eo, nd_nr0_nr1, nd_nw0_na0, nd_nw0_nq0, nd_nw0_nw1, nd_nw0_na1, nd_nw0_nq1, nd_na0_nq0, nd_na0_nw1, nd_na0_na1, nd_na0_nq1, nd_nq0_nw1, nd_nq0_na1, nd_nq0_nq1, nd_nw1_na1, nd_nw1_nq1, nd_na1_nq1, nd_bh_bp, nd_bf_bl, hd1, hd2⟩
theorem CXQ.a1 {G : hG} {f f1 : hM} {xo ez eo bu nw0 na0 nq0 nr0 nw1 na1 nq1 nr1 bs bp bh bf bl bg : Nat} {Q0 Q1 : List (Nat × Nat)} {S0 : ES} {S1 : ES} {gw0 : Nat → Int32} {ga0 : Nat → Int32} {gw1 : Nat → Int32} {ga1 : Nat → Int32} {n : Nat} {a : Nat} {cg : Nat} {x : Nat} {sa : Nat → Nat} {pk : Nat → Nat} {fl : Nat → Nat} {gv : Nat → Nat} {gh : Nat → Int32} {gl : Nat → Int32} {ga19 : Nat → Int32} (h : CXQ G f xo ez eo bu nw0 na0 nq0 nr0 nw1 na1 nq1 nr1 bs bp bh bf bl bg Q0 Q1 S0 S1 gw0 ga0 gw1 ga1 n a cg x sa pk fl gv gh gl) (hk : hK2 [na1] [] f f1) (j_na1 : f1 na1 = some (.inl (cI G, 6, .inl ga19))) (jB : BOK n a cg x sa pk) (jF : ∀ k, k < 3 → fl k < 243) : CXQ G f1 xo ez eo bu nw0 na0 nq0 nr0 nw1 na1 nq1 nr1 bs bp bh bf bl bg Q0 Q1 S0 S1 gw0 ga0 gw1 ga19 n a cg x sa pk fl gv gh gl := by
  obtain ⟨k_xo, hE0, hE1, k_nw0, k_na0, k_nw1, k_na1, k_bu, k_bs, k_bp, k_bh, k_bf, k_bl, k_bg, hB9, hfl9, nd_ez_eo, nd_nr0_nr1, nd_nw0_na0, nd_nw0_nq0, nd_nw0_nw1, nd_nw0_na1, nd_nw0_nq1, nd_na0_nq0, nd_na0_nw1, nd_na0_na1, nd_na0_nq1, nd_nq0_nw1, nd_nq0_na1, nd_nq0_nq1, nd_nw1_na1, nd_nw1_nq1, nd_na1_nq1, nd_bh_bp, nd_bf_bl, hd1, hd2⟩ := h
  obtain ⟨k_ez, k_nq0, ⟨hv0, k_nr0, hch0⟩, -⟩ := id hE0
  obtain ⟨k_eo, k_nq1, ⟨hv1, k_nr1, hch1⟩, -⟩ := id hE1
  have n1 : xo ≠ na1 := hne k_xo k_na1 (Nat.ne_of_beq_eq_false rfl)
  have n2 : bu ≠ na1 := hne k_bu k_na1 (Nat.ne_of_beq_eq_false rfl)
  have n3 : bs ≠ na1 := hneL k_bs k_na1 (Nat.ne_of_beq_eq_false rfl)
  have n4 : bp ≠ na1 := hneL k_bp k_na1 (Nat.ne_of_beq_eq_false rfl)
  have n5 : bh ≠ na1 := hneL k_bh k_na1 (Nat.ne_of_beq_eq_false rfl)
  have n6 : bf ≠ na1 := hneL k_bf k_na1 (Nat.ne_of_beq_eq_false rfl)
  have n7 : bl ≠ na1 := hneL k_bl k_na1 (Nat.ne_of_beq_eq_false rfl)
  have n8 : bg ≠ na1 := hneL k_bg k_na1 (Nat.ne_of_beq_eq_false rfl)
  have n10 : ez ≠ na1 := hne k_ez k_na1 (Nat.ne_of_beq_eq_false rfl)
  have n11 : nr0 ≠ na1 := hne k_nr0 k_na1 (Nat.ne_of_beq_eq_false rfl)
  have n12 : eo ≠ na1 := hne k_eo k_na1 (Nat.ne_of_beq_eq_false rfl)
  have n13 : nr1 ≠ na1 := hne k_nr1 k_na1 (Nat.ne_of_beq_eq_false rfl)
  exact ⟨hk.2 _ _ k_xo (ninc n1 nin0) (fun t9 => absurd t9 (Nat.ne_of_beq_eq_false rfl)), hE0.kp hk (ninc n10 nin0) (ninc nd_nq0_na1 nin0) (ninc n11 nin0) (fun c hc => ⟨(fun z9 => nomatch z9), (ninc (fun z9 => hd2 c (List.mem_append_left _ hc) (by rw [z9]; simp)) nin0)⟩) (fun a9 ha9 k9 hk9 => by
      simp only [List.mem_cons, List.not_mem_nil, or_false] at ha9
      rcases ha9 with ha9
      · rw [ha9, k_na1] at hk9; cases hk9), hE1.kp hk (ninc n12 nin0) (ninc (Ne.symm nd_na1_nq1) nin0) (ninc n13 nin0) (fun c hc => ⟨(fun z9 => nomatch z9), (ninc (fun z9 => hd2 c (List.mem_append_right _ hc) (by rw [z9]; simp)) nin0)⟩) (fun a9 ha9 k9 hk9 => by
      simp only [List.mem_cons, List.not_mem_nil, or_false] at ha9
      rcases ha9 with ha9
      · rw [ha9, k_na1] at hk9; cases hk9), hk.2 _ _ k_nw0 (ninc nd_nw0_na1 nin0) (fun t9 => absurd t9 (Nat.ne_of_beq_eq_false rfl)), hk.2 _ _ k_na0 (ninc nd_na0_na1 nin0) (fun t9 => absurd t9 (Nat.ne_of_beq_eq_false rfl)), hk.2 _ _ k_nw1 (ninc nd_nw1_na1 nin0) (fun t9 => absurd t9 (Nat.ne_of_beq_eq_false rfl)), j_na1, hk.2 _ _ k_bu (ninc n2 nin0) (fun t9 => absurd t9 (Nat.ne_of_beq_eq_false rfl)), hk.2 _ _ k_bs (ninc n3 nin0) (fun t9 => absurd t9 (Nat.ne_of_beq_eq_false rfl)), hk.2 _ _ k_bp (ninc n4 nin0) (fun t9 => absurd t9 (Nat.ne_of_beq_eq_false rfl)), hk.2 _ _ k_bh (ninc n5 nin0) (fun t9 => absurd t9 (Nat.ne_of_beq_eq_false rfl)), hk.2 _ _ k_bf (ninc n6 nin0) (fun t9 => absurd t9 (Nat.ne_of_beq_eq_false rfl)), hk.2 _ _ k_bl (ninc n7 nin0) (fun t9 => absurd t9 (Nat.ne_of_beq_eq_false rfl)), hk.2 _ _ k_bg (ninc n8 nin0) (fun t9 => absurd t9 (Nat.ne_of_beq_eq_false rfl)), jB, jF, nd_ez_eo, nd_nr0_nr1, nd_nw0_na0, nd_nw0_nq0, nd_nw0_nw1, nd_nw0_na1, nd_nw0_nq1, nd_na0_nq0, nd_na0_nw1, nd_na0_na1, nd_na0_nq1, nd_nq0_nw1, nd_nq0_na1, nd_nq0_nq1, nd_nw1_na1, nd_nw1_nq1, nd_na1_nq1, nd_bh_bp, nd_bf_bl, hd1, hd2⟩
theorem CXQ.s {G : hG} {f f1 : hM} {xo ez eo bu nw0 na0 nq0 nr0 nw1 na1 nq1 nr1 bs bp bh bf bl bg : Nat} {Q0 Q1 : List (Nat × Nat)} {S0 : ES} {S1 : ES} {gw0 : Nat → Int32} {ga0 : Nat → Int32} {gw1 : Nat → Int32} {ga1 : Nat → Int32} {n : Nat} {a : Nat} {cg : Nat} {x : Nat} {sa : Nat → Nat} {pk : Nat → Nat} {fl : Nat → Nat} {gv : Nat → Nat} {gh : Nat → Int32} {gl : Nat → Int32} {n9 : Nat} {a9 : Nat} {sa9 : Nat → Nat} {pk9 : Nat → Nat} (h : CXQ G f xo ez eo bu nw0 na0 nq0 nr0 nw1 na1 nq1 nr1 bs bp bh bf bl bg Q0 Q1 S0 S1 gw0 ga0 gw1 ga1 n a cg x sa pk fl gv gh gl) (hk : hK2 [bu, bp, bs] [] f f1) (j_bu : f1 bu = some (.inr (0, [.ref bs, .ref bp, .ref bh, .ref bf, .ref bl, .ref bg, .int (nI n9), .int (nI cg), .int (nI x)]))) (j_bp : f1 bp = some (.inl (cI G, 240, .inl (nf pk9)))) (j_bs : f1 bs = some (.inl (cI G, 61, .inl (nf sa9)))) (jB : BOK n9 a9 cg x sa9 pk9) (jF : ∀ k, k < 3 → fl k < 243) : CXQ G f1 xo ez eo bu nw0 na0 nq0 nr0 nw1 na1 nq1 nr1 bs bp bh bf bl bg Q0 Q1 S0 S1 gw0 ga0 gw1 ga1 n9 a9 cg x sa9 pk9 fl gv gh gl := by
  obtain ⟨k_xo, hE0, hE1, k_nw0, k_na0, k_nw1, k_na1, k_bu, k_bs, k_bp, k_bh, k_bf, k_bl, k_bg, hB9, hfl9, nd_ez_eo, nd_nr0_nr1, nd_nw0_na0, nd_nw0_nq0, nd_nw0_nw1, nd_nw0_na1, nd_nw0_nq1, nd_na0_nq0, nd_na0_nw1, nd_na0_na1, nd_na0_nq1, nd_nq0_nw1, nd_nq0_na1, nd_nq0_nq1, nd_nw1_na1, nd_nw1_nq1, nd_na1_nq1, nd_bh_bp, nd_bf_bl, hd1, hd2⟩ := h
  obtain ⟨k_ez, k_nq0, ⟨hv0, k_nr0, hch0⟩, -⟩ := id hE0
  obtain ⟨k_eo, k_nq1, ⟨hv1, k_nr1, hch1⟩, -⟩ := id hE1
  have n1 : xo ≠ bs := hne k_xo k_bs (Nat.ne_of_beq_eq_false rfl)
  have n2 : xo ≠ bp := hne k_xo k_bp (Nat.ne_of_beq_eq_false rfl)
  have n3 : xo ≠ bu := hne k_xo k_bu (Nat.ne_of_beq_eq_false rfl)
  have n4 : nw0 ≠ bs := hneL k_nw0 k_bs (Nat.ne_of_beq_eq_false rfl)
  have n5 : nw0 ≠ bp := hneL k_nw0 k_bp (Nat.ne_of_beq_eq_false rfl)
  have n6 : nw0 ≠ bu := hne k_nw0 k_bu (Nat.ne_of_beq_eq_false rfl)
  have n7 : na0 ≠ bs := hneL k_na0 k_bs (Nat.ne_of_beq_eq_false rfl)
  have n8 : na0 ≠ bp := hneL k_na0 k_bp (Nat.ne_of_beq_eq_false rfl)
  have n10 : na0 ≠ bu := hne k_na0 k_bu (Nat.ne_of_beq_eq_false rfl)
  have n11 : nw1 ≠ bs := hneL k_nw1 k_bs (Nat.ne_of_beq_eq_false rfl)
  have n12 : nw1 ≠ bp := hneL k_nw1 k_bp (Nat.ne_of_beq_eq_false rfl)
  have n13 : nw1 ≠ bu := hne k_nw1 k_bu (Nat.ne_of_beq_eq_false rfl)
  have n14 : na1 ≠ bs := hneL k_na1 k_bs (Nat.ne_of_beq_eq_false rfl)
  have n15 : na1 ≠ bp := hneL k_na1 k_bp (Nat.ne_of_beq_eq_false rfl)
  have n16 : na1 ≠ bu := hne k_na1 k_bu (Nat.ne_of_beq_eq_false rfl)
  have n17 : bh ≠ bs := hneL k_bh k_bs (Nat.ne_of_beq_eq_false rfl)
  have n18 : bh ≠ bu := hne k_bh k_bu (Nat.ne_of_beq_eq_false rfl)
  have n19 : bf ≠ bs := hneL k_bf k_bs (Nat.ne_of_beq_eq_false rfl)
  have n20 : bf ≠ bp := hneL k_bf k_bp (Nat.ne_of_beq_eq_false rfl)
  have n21 : bf ≠ bu := hne k_bf k_bu (Nat.ne_of_beq_eq_false rfl)
  have n22 : bl ≠ bs := hneL k_bl k_bs (Nat.ne_of_beq_eq_false rfl)
  have n23 : bl ≠ bp := hneL k_bl k_bp (Nat.ne_of_beq_eq_false rfl)
  have n24 : bl ≠ bu := hne k_bl k_bu (Nat.ne_of_beq_eq_false rfl)
  have n25 : bg ≠ bs := hneL k_bg k_bs (Nat.ne_of_beq_eq_false rfl)
  have n26 : bg ≠ bp := hneL k_bg k_bp (Nat.ne_of_beq_eq_false rfl)
  have n27 : bg ≠ bu := hne k_bg k_bu (Nat.ne_of_beq_eq_false rfl)
  have n28 : ez ≠ bs := hne k_ez k_bs (Nat.ne_of_beq_eq_false rfl)
  have n29 : ez ≠ bp := hne k_ez k_bp (Nat.ne_of_beq_eq_false rfl)
  have n30 : ez ≠ bu := hne k_ez k_bu (Nat.ne_of_beq_eq_false rfl)
  have n31 : nq0 ≠ bs := hneL k_nq0 k_bs (Nat.ne_of_beq_eq_false rfl)
  have n32 : nq0 ≠ bp := hneL k_nq0 k_bp (Nat.ne_of_beq_eq_false rfl)
  have n33 : nq0 ≠ bu := hne k_nq0 k_bu (Nat.ne_of_beq_eq_false rfl)
  have n34 : nr0 ≠ bs := hne k_nr0 k_bs (Nat.ne_of_beq_eq_false rfl)
  have n35 : nr0 ≠ bp := hne k_nr0 k_bp (Nat.ne_of_beq_eq_false rfl)
  have n36 : nr0 ≠ bu := hne k_nr0 k_bu (Nat.ne_of_beq_eq_false rfl)
  have n37 : eo ≠ bs := hne k_eo k_bs (Nat.ne_of_beq_eq_false rfl)
  have n38 : eo ≠ bp := hne k_eo k_bp (Nat.ne_of_beq_eq_false rfl)
  have n39 : eo ≠ bu := hne k_eo k_bu (Nat.ne_of_beq_eq_false rfl)
  have n40 : nq1 ≠ bs := hneL k_nq1 k_bs (Nat.ne_of_beq_eq_false rfl)
  have n41 : nq1 ≠ bp := hneL k_nq1 k_bp (Nat.ne_of_beq_eq_false rfl)
  have n42 : nq1 ≠ bu := hne k_nq1 k_bu (Nat.ne_of_beq_eq_false rfl)
  have n43 : nr1 ≠ bs := hne k_nr1 k_bs (Nat.ne_of_beq_eq_false rfl)
  have n44 : nr1 ≠ bp := hne k_nr1 k_bp (Nat.ne_of_beq_eq_false rfl)
  have n45 : nr1 ≠ bu := hne k_nr1 k_bu (Nat.ne_of_beq_eq_false rfl)
  exact ⟨hk.2 _ _ k_xo (ninc n3 (ninc n2 (ninc n1 nin0))) (fun t9 => absurd t9 (Nat.ne_of_beq_eq_false rfl)), hE0.kp hk (ninc n30 (ninc n29 (ninc n28 nin0))) (ninc n33 (ninc n32 (ninc n31 nin0))) (ninc n36 (ninc n35 (ninc n34 nin0))) (fun c hc => ⟨(fun z9 => nomatch z9), (ninc (hE0.us k_bu (Nat.ne_of_beq_eq_false rfl) c hc) (ninc (hE0.us k_bp (Nat.ne_of_beq_eq_false rfl) c hc) (ninc (hE0.us k_bs (Nat.ne_of_beq_eq_false rfl) c hc) nin0)))⟩) (fun a9 ha9 k9 hk9 => by
      simp only [List.mem_cons, List.not_mem_nil, or_false] at ha9
      rcases ha9 with ha9 | ha9 | ha9
      · rw [ha9, k_bu] at hk9; cases hk9
      · rw [ha9, k_bp] at hk9; cases hk9
      · rw [ha9, k_bs] at hk9; cases hk9), hE1.kp hk (ninc n39 (ninc n38 (ninc n37 nin0))) (ninc n42 (ninc n41 (ninc n40 nin0))) (ninc n45 (ninc n44 (ninc n43 nin0))) (fun c hc => ⟨(fun z9 => nomatch z9), (ninc (hE1.us k_bu (Nat.ne_of_beq_eq_false rfl) c hc) (ninc (hE1.us k_bp (Nat.ne_of_beq_eq_false rfl) c hc) (ninc (hE1.us k_bs (Nat.ne_of_beq_eq_false rfl) c hc) nin0)))⟩) (fun a9 ha9 k9 hk9 => by
      simp only [List.mem_cons, List.not_mem_nil, or_false] at ha9
      rcases ha9 with ha9 | ha9 | ha9
      · rw [ha9, k_bu] at hk9; cases hk9
      · rw [ha9, k_bp] at hk9; cases hk9
      · rw [ha9, k_bs] at hk9; cases hk9), hk.2 _ _ k_nw0 (ninc n6 (ninc n5 (ninc n4 nin0))) (fun t9 => absurd t9 (Nat.ne_of_beq_eq_false rfl)), hk.2 _ _ k_na0 (ninc n10 (ninc n8 (ninc n7 nin0))) (fun t9 => absurd t9 (Nat.ne_of_beq_eq_false rfl)), hk.2 _ _ k_nw1 (ninc n13 (ninc n12 (ninc n11 nin0))) (fun t9 => absurd t9 (Nat.ne_of_beq_eq_false rfl)), hk.2 _ _ k_na1 (ninc n16 (ninc n15 (ninc n14 nin0))) (fun t9 => absurd t9 (Nat.ne_of_beq_eq_false rfl)), j_bu, j_bs, j_bp, hk.2 _ _ k_bh (ninc n18 (ninc nd_bh_bp (ninc n17 nin0))) (fun t9 => absurd t9 (Nat.ne_of_beq_eq_false rfl)), hk.2 _ _ k_bf (ninc n21 (ninc n20 (ninc n19 nin0))) (fun t9 => absurd t9 (Nat.ne_of_beq_eq_false rfl)), hk.2 _ _ k_bl (ninc n24 (ninc n23 (ninc n22 nin0))) (fun t9 => absurd t9 (Nat.ne_of_beq_eq_false rfl)), hk.2 _ _ k_bg (ninc n27 (ninc n26 (ninc n25 nin0))) (fun t9 => absurd t9 (Nat.ne_of_beq_eq_false rfl)), jB, jF, nd_ez_eo, nd_nr0_nr1, nd_nw0_na0, nd_nw0_nq0, nd_nw0_nw1, nd_nw0_na1, nd_nw0_nq1, nd_na0_nq0, nd_na0_nw1, nd_na0_na1, nd_na0_nq1, nd_nq0_nw1, nd_nq0_na1, nd_nq0_nq1, nd_nw1_na1, nd_nw1_nq1, nd_na1_nq1, nd_bh_bp, nd_bf_bl, hd1, hd2⟩
theorem CXQ.b {G : hG} {f f1 : hM} {xo ez eo bu nw0 na0 nq0 nr0 nw1 na1 nq1 nr1 bs bp bh bf bl bg : Nat} {Q0 Q1 : List (Nat × Nat)} {S0 : ES} {S1 : ES} {gw0 : Nat → Int32} {ga0 : Nat → Int32} {gw1 : Nat → Int32} {ga1 : Nat → Int32} {n : Nat} {a : Nat} {cg : Nat} {x : Nat} {sa : Nat → Nat} {pk : Nat → Nat} {fl : Nat → Nat} {gv : Nat → Nat} {gh : Nat → Int32} {gl : Nat → Int32} {cg9 : Nat} {x9 : Nat} {gv9 : Nat → Nat} {gh9 : Nat → Int32} {gl9 : Nat → Int32} {fl9 : Nat → Nat} (h : CXQ G f xo ez eo bu nw0 na0 nq0 nr0 nw1 na1 nq1 nr1 bs bp bh bf bl bg Q0 Q1 S0 S1 gw0 ga0 gw1 ga1 n a cg x sa pk fl gv gh gl) (hk : hK2 [bu, bg, bh, bl, bf] [] f f1) (j_bu : f1 bu = some (.inr (0, [.ref bs, .ref bp, .ref bh, .ref bf, .ref bl, .ref bg, .int (nI n), .int (nI cg9), .int (nI x9)]))) (j_bg : f1 bg = some (.inl (cI G, 60, .inl (nf gv9)))) (j_bh : f1 bh = some (.inl (cZ G, 240, .inl gh9))) (j_bl : f1 bl = some (.inl (cI G, 3, .inl gl9))) (j_bf : f1 bf = some (.inl (cI G, 3, .inl (nf fl9)))) (jB : BOK n a cg9 x9 sa pk) (jF : ∀ k, k < 3 → fl9 k < 243) : CXQ G f1 xo ez eo bu nw0 na0 nq0 nr0 nw1 na1 nq1 nr1 bs bp bh bf bl bg Q0 Q1 S0 S1 gw0 ga0 gw1 ga1 n a cg9 x9 sa pk fl9 gv9 gh9 gl9 := by
  obtain ⟨k_xo, hE0, hE1, k_nw0, k_na0, k_nw1, k_na1, k_bu, k_bs, k_bp, k_bh, k_bf, k_bl, k_bg, hB9, hfl9, nd_ez_eo, nd_nr0_nr1, nd_nw0_na0, nd_nw0_nq0, nd_nw0_nw1, nd_nw0_na1, nd_nw0_nq1, nd_na0_nq0, nd_na0_nw1, nd_na0_na1, nd_na0_nq1, nd_nq0_nw1, nd_nq0_na1, nd_nq0_nq1, nd_nw1_na1, nd_nw1_nq1, nd_na1_nq1, nd_bh_bp, nd_bf_bl, hd1, hd2⟩ := h
  obtain ⟨k_ez, k_nq0, ⟨hv0, k_nr0, hch0⟩, -⟩ := id hE0
  obtain ⟨k_eo, k_nq1, ⟨hv1, k_nr1, hch1⟩, -⟩ := id hE1
  have n1 : xo ≠ bf := hne k_xo k_bf (Nat.ne_of_beq_eq_false rfl)
  have n2 : xo ≠ bl := hne k_xo k_bl (Nat.ne_of_beq_eq_false rfl)
  have n3 : xo ≠ bh := hne k_xo k_bh (Nat.ne_of_beq_eq_false rfl)
  have n4 : xo ≠ bg := hne k_xo k_bg (Nat.ne_of_beq_eq_false rfl)
  have n5 : xo ≠ bu := hne k_xo k_bu (Nat.ne_of_beq_eq_false rfl)
  have n6 : nw0 ≠ bf := hneL k_nw0 k_bf (Nat.ne_of_beq_eq_false rfl)
  have n7 : nw0 ≠ bl := hneL k_nw0 k_bl (Nat.ne_of_beq_eq_false rfl)
  have n8 : nw0 ≠ bh := hneL k_nw0 k_bh (Nat.ne_of_beq_eq_false rfl)
  have n10 : nw0 ≠ bg := hneL k_nw0 k_bg (Nat.ne_of_beq_eq_false rfl)
  have n11 : nw0 ≠ bu := hne k_nw0 k_bu (Nat.ne_of_beq_eq_false rfl)
  have n12 : na0 ≠ bf := hneL k_na0 k_bf (Nat.ne_of_beq_eq_false rfl)
  have n13 : na0 ≠ bl := hneL k_na0 k_bl (Nat.ne_of_beq_eq_false rfl)
  have n14 : na0 ≠ bh := hneL k_na0 k_bh (Nat.ne_of_beq_eq_false rfl)
  have n15 : na0 ≠ bg := hneL k_na0 k_bg (Nat.ne_of_beq_eq_false rfl)
  have n16 : na0 ≠ bu := hne k_na0 k_bu (Nat.ne_of_beq_eq_false rfl)
  have n17 : nw1 ≠ bf := hneL k_nw1 k_bf (Nat.ne_of_beq_eq_false rfl)
  have n18 : nw1 ≠ bl := hneL k_nw1 k_bl (Nat.ne_of_beq_eq_false rfl)
  have n19 : nw1 ≠ bh := hneL k_nw1 k_bh (Nat.ne_of_beq_eq_false rfl)
  have n20 : nw1 ≠ bg := hneL k_nw1 k_bg (Nat.ne_of_beq_eq_false rfl)
  have n21 : nw1 ≠ bu := hne k_nw1 k_bu (Nat.ne_of_beq_eq_false rfl)
  have n22 : na1 ≠ bf := hneL k_na1 k_bf (Nat.ne_of_beq_eq_false rfl)
  have n23 : na1 ≠ bl := hneL k_na1 k_bl (Nat.ne_of_beq_eq_false rfl)
  have n24 : na1 ≠ bh := hneL k_na1 k_bh (Nat.ne_of_beq_eq_false rfl)
  have n25 : na1 ≠ bg := hneL k_na1 k_bg (Nat.ne_of_beq_eq_false rfl)
  have n26 : na1 ≠ bu := hne k_na1 k_bu (Nat.ne_of_beq_eq_false rfl)
  have n27 : bs ≠ bf := hneL k_bs k_bf (Nat.ne_of_beq_eq_false rfl)
  have n28 : bs ≠ bl := hneL k_bs k_bl (Nat.ne_of_beq_eq_false rfl)
  have n29 : bs ≠ bh := hneL k_bs k_bh (Nat.ne_of_beq_eq_false rfl)
  have n30 : bs ≠ bg := hneL k_bs k_bg (Nat.ne_of_beq_eq_false rfl)
  have n31 : bs ≠ bu := hne k_bs k_bu (Nat.ne_of_beq_eq_false rfl)
  have n32 : bp ≠ bf := hneL k_bp k_bf (Nat.ne_of_beq_eq_false rfl)
  have n33 : bp ≠ bl := hneL k_bp k_bl (Nat.ne_of_beq_eq_false rfl)
  have n34 : bp ≠ bg := hneL k_bp k_bg (Nat.ne_of_beq_eq_false rfl)
  have n35 : bp ≠ bu := hne k_bp k_bu (Nat.ne_of_beq_eq_false rfl)
  have n36 : ez ≠ bf := hne k_ez k_bf (Nat.ne_of_beq_eq_false rfl)
  have n37 : ez ≠ bl := hne k_ez k_bl (Nat.ne_of_beq_eq_false rfl)
  have n38 : ez ≠ bh := hne k_ez k_bh (Nat.ne_of_beq_eq_false rfl)
  have n39 : ez ≠ bg := hne k_ez k_bg (Nat.ne_of_beq_eq_false rfl)
  have n40 : ez ≠ bu := hne k_ez k_bu (Nat.ne_of_beq_eq_false rfl)
  have n41 : nq0 ≠ bf := hneL k_nq0 k_bf (Nat.ne_of_beq_eq_false rfl)
  have n42 : nq0 ≠ bl := hneL k_nq0 k_bl (Nat.ne_of_beq_eq_false rfl)
  have n43 : nq0 ≠ bh := hneL k_nq0 k_bh (Nat.ne_of_beq_eq_false rfl)
  have n44 : nq0 ≠ bg := hneL k_nq0 k_bg (Nat.ne_of_beq_eq_false rfl)
  have n45 : nq0 ≠ bu := hne k_nq0 k_bu (Nat.ne_of_beq_eq_false rfl)
  have n46 : nr0 ≠ bf := hne k_nr0 k_bf (Nat.ne_of_beq_eq_false rfl)
  have n47 : nr0 ≠ bl := hne k_nr0 k_bl (Nat.ne_of_beq_eq_false rfl)
  have n48 : nr0 ≠ bh := hne k_nr0 k_bh (Nat.ne_of_beq_eq_false rfl)
  have n49 : nr0 ≠ bg := hne k_nr0 k_bg (Nat.ne_of_beq_eq_false rfl)
  have n50 : nr0 ≠ bu := hne k_nr0 k_bu (Nat.ne_of_beq_eq_false rfl)
  have n51 : eo ≠ bf := hne k_eo k_bf (Nat.ne_of_beq_eq_false rfl)
  have n52 : eo ≠ bl := hne k_eo k_bl (Nat.ne_of_beq_eq_false rfl)
  have n53 : eo ≠ bh := hne k_eo k_bh (Nat.ne_of_beq_eq_false rfl)
  have n54 : eo ≠ bg := hne k_eo k_bg (Nat.ne_of_beq_eq_false rfl)
  have n55 : eo ≠ bu := hne k_eo k_bu (Nat.ne_of_beq_eq_false rfl)
  have n56 : nq1 ≠ bf := hneL k_nq1 k_bf (Nat.ne_of_beq_eq_false rfl)
  have n57 : nq1 ≠ bl := hneL k_nq1 k_bl (Nat.ne_of_beq_eq_false rfl)
  have n58 : nq1 ≠ bh := hneL k_nq1 k_bh (Nat.ne_of_beq_eq_false rfl)
  have n59 : nq1 ≠ bg := hneL k_nq1 k_bg (Nat.ne_of_beq_eq_false rfl)
  have n60 : nq1 ≠ bu := hne k_nq1 k_bu (Nat.ne_of_beq_eq_false rfl)
  have n61 : nr1 ≠ bf := hne k_nr1 k_bf (Nat.ne_of_beq_eq_false rfl)
  have n62 : nr1 ≠ bl := hne k_nr1 k_bl (Nat.ne_of_beq_eq_false rfl)
  have n63 : nr1 ≠ bh := hne k_nr1 k_bh (Nat.ne_of_beq_eq_false rfl)
  have n64 : nr1 ≠ bg := hne k_nr1 k_bg (Nat.ne_of_beq_eq_false rfl)
  have n65 : nr1 ≠ bu := hne k_nr1 k_bu (Nat.ne_of_beq_eq_false rfl)
  exact ⟨hk.2 _ _ k_xo (ninc n5 (ninc n4 (ninc n3 (ninc n2 (ninc n1 nin0))))) (fun t9 => absurd t9 (Nat.ne_of_beq_eq_false rfl)), hE0.kp hk (ninc n40 (ninc n39 (ninc n38 (ninc n37 (ninc n36 nin0))))) (ninc n45 (ninc n44 (ninc n43 (ninc n42 (ninc n41 nin0))))) (ninc n50 (ninc n49 (ninc n48 (ninc n47 (ninc n46 nin0))))) (fun c hc => ⟨(fun z9 => nomatch z9), (ninc (hE0.us k_bu (Nat.ne_of_beq_eq_false rfl) c hc) (ninc (hE0.us k_bg (Nat.ne_of_beq_eq_false rfl) c hc) (ninc (hE0.us k_bh (Nat.ne_of_beq_eq_false rfl) c hc) (ninc (hE0.us k_bl (Nat.ne_of_beq_eq_false rfl) c hc) (ninc (hE0.us k_bf (Nat.ne_of_beq_eq_false rfl) c hc) nin0)))))⟩) (fun a9 ha9 k9 hk9 => by
      simp only [List.mem_cons, List.not_mem_nil, or_false] at ha9
      rcases ha9 with ha9 | ha9 | ha9 | ha9 | ha9
      · rw [ha9, k_bu] at hk9; cases hk9
      · rw [ha9, k_bg] at hk9; cases hk9
      · rw [ha9, k_bh] at hk9; cases hk9
      · rw [ha9, k_bl] at hk9; cases hk9
      · rw [ha9, k_bf] at hk9; cases hk9), hE1.kp hk (ninc n55 (ninc n54 (ninc n53 (ninc n52 (ninc n51 nin0))))) (ninc n60 (ninc n59 (ninc n58 (ninc n57 (ninc n56 nin0))))) (ninc n65 (ninc n64 (ninc n63 (ninc n62 (ninc n61 nin0))))) (fun c hc => ⟨(fun z9 => nomatch z9), (ninc (hE1.us k_bu (Nat.ne_of_beq_eq_false rfl) c hc) (ninc (hE1.us k_bg (Nat.ne_of_beq_eq_false rfl) c hc) (ninc (hE1.us k_bh (Nat.ne_of_beq_eq_false rfl) c hc) (ninc (hE1.us k_bl (Nat.ne_of_beq_eq_false rfl) c hc) (ninc (hE1.us k_bf (Nat.ne_of_beq_eq_false rfl) c hc) nin0)))))⟩) (fun a9 ha9 k9 hk9 => by
      simp only [List.mem_cons, List.not_mem_nil, or_false] at ha9
      rcases ha9 with ha9 | ha9 | ha9 | ha9 | ha9
      · rw [ha9, k_bu] at hk9; cases hk9
      · rw [ha9, k_bg] at hk9; cases hk9
      · rw [ha9, k_bh] at hk9; cases hk9
      · rw [ha9, k_bl] at hk9; cases hk9
      · rw [ha9, k_bf] at hk9; cases hk9), hk.2 _ _ k_nw0 (ninc n11 (ninc n10 (ninc n8 (ninc n7 (ninc n6 nin0))))) (fun t9 => absurd t9 (Nat.ne_of_beq_eq_false rfl)), hk.2 _ _ k_na0 (ninc n16 (ninc n15 (ninc n14 (ninc n13 (ninc n12 nin0))))) (fun t9 => absurd t9 (Nat.ne_of_beq_eq_false rfl)), hk.2 _ _ k_nw1 (ninc n21 (ninc n20 (ninc n19 (ninc n18 (ninc n17 nin0))))) (fun t9 => absurd t9 (Nat.ne_of_beq_eq_false rfl)), hk.2 _ _ k_na1 (ninc n26 (ninc n25 (ninc n24 (ninc n23 (ninc n22 nin0))))) (fun t9 => absurd t9 (Nat.ne_of_beq_eq_false rfl)), j_bu, hk.2 _ _ k_bs (ninc n31 (ninc n30 (ninc n29 (ninc n28 (ninc n27 nin0))))) (fun t9 => absurd t9 (Nat.ne_of_beq_eq_false rfl)), hk.2 _ _ k_bp (ninc n35 (ninc n34 (ninc (Ne.symm nd_bh_bp) (ninc n33 (ninc n32 nin0))))) (fun t9 => absurd t9 (Nat.ne_of_beq_eq_false rfl)), j_bh, j_bf, j_bl, j_bg, jB, jF, nd_ez_eo, nd_nr0_nr1, nd_nw0_na0, nd_nw0_nq0, nd_nw0_nw1, nd_nw0_na1, nd_nw0_nq1, nd_na0_nq0, nd_na0_nw1, nd_na0_na1, nd_na0_nq1, nd_nq0_nw1, nd_nq0_na1, nd_nq0_nq1, nd_nw1_na1, nd_nw1_nq1, nd_na1_nq1, nd_bh_bp, nd_bf_bl, hd1, hd2⟩
theorem CXQ.d {G : hG} {f f1 : hM} {xo ez eo bu nw0 na0 nq0 nr0 nw1 na1 nq1 nr1 bs bp bh bf bl bg : Nat} {Q0 Q1 : List (Nat × Nat)} {S0 : ES} {S1 : ES} {gw0 : Nat → Int32} {ga0 : Nat → Int32} {gw1 : Nat → Int32} {ga1 : Nat → Int32} {n : Nat} {a : Nat} {cg : Nat} {x : Nat} {sa : Nat → Nat} {pk : Nat → Nat} {fl : Nat → Nat} {gv : Nat → Nat} {gh : Nat → Int32} {gl : Nat → Int32} {fl9 : Nat → Nat} (h : CXQ G f xo ez eo bu nw0 na0 nq0 nr0 nw1 na1 nq1 nr1 bs bp bh bf bl bg Q0 Q1 S0 S1 gw0 ga0 gw1 ga1 n a cg x sa pk fl gv gh gl) (hk : hK2 [bf] [] f f1) (j_bf : f1 bf = some (.inl (cI G, 3, .inl (nf fl9)))) (jB : BOK n a cg x sa pk) (jF : ∀ k, k < 3 → fl9 k < 243) : CXQ G f1 xo ez eo bu nw0 na0 nq0 nr0 nw1 na1 nq1 nr1 bs bp bh bf bl bg Q0 Q1 S0 S1 gw0 ga0 gw1 ga1 n a cg x sa pk fl9 gv gh gl := by
  obtain ⟨k_xo, hE0, hE1, k_nw0, k_na0, k_nw1, k_na1, k_bu, k_bs, k_bp, k_bh, k_bf, k_bl, k_bg, hB9, hfl9, nd_ez_eo, nd_nr0_nr1, nd_nw0_na0, nd_nw0_nq0, nd_nw0_nw1, nd_nw0_na1, nd_nw0_nq1, nd_na0_nq0, nd_na0_nw1, nd_na0_na1, nd_na0_nq1, nd_nq0_nw1, nd_nq0_na1, nd_nq0_nq1, nd_nw1_na1, nd_nw1_nq1, nd_na1_nq1, nd_bh_bp, nd_bf_bl, hd1, hd2⟩ := h
  obtain ⟨k_ez, k_nq0, ⟨hv0, k_nr0, hch0⟩, -⟩ := id hE0
  obtain ⟨k_eo, k_nq1, ⟨hv1, k_nr1, hch1⟩, -⟩ := id hE1
  have n1 : xo ≠ bf := hne k_xo k_bf (Nat.ne_of_beq_eq_false rfl)
  have n2 : nw0 ≠ bf := hneL k_nw0 k_bf (Nat.ne_of_beq_eq_false rfl)
  have n3 : na0 ≠ bf := hneL k_na0 k_bf (Nat.ne_of_beq_eq_false rfl)
  have n4 : nw1 ≠ bf := hneL k_nw1 k_bf (Nat.ne_of_beq_eq_false rfl)
  have n5 : na1 ≠ bf := hneL k_na1 k_bf (Nat.ne_of_beq_eq_false rfl)
  have n6 : bu ≠ bf := hne k_bu k_bf (Nat.ne_of_beq_eq_false rfl)
  have n7 : bs ≠ bf := hneL k_bs k_bf (Nat.ne_of_beq_eq_false rfl)
  have n8 : bp ≠ bf := hneL k_bp k_bf (Nat.ne_of_beq_eq_false rfl)
  have n10 : bh ≠ bf := hneL k_bh k_bf (Nat.ne_of_beq_eq_false rfl)
  have n11 : bg ≠ bf := hneL k_bg k_bf (Nat.ne_of_beq_eq_false rfl)
  have n12 : ez ≠ bf := hne k_ez k_bf (Nat.ne_of_beq_eq_false rfl)
  have n13 : nq0 ≠ bf := hneL k_nq0 k_bf (Nat.ne_of_beq_eq_false rfl)
  have n14 : nr0 ≠ bf := hne k_nr0 k_bf (Nat.ne_of_beq_eq_false rfl)
  have n15 : eo ≠ bf := hne k_eo k_bf (Nat.ne_of_beq_eq_false rfl)
  have n16 : nq1 ≠ bf := hneL k_nq1 k_bf (Nat.ne_of_beq_eq_false rfl)
  have n17 : nr1 ≠ bf := hne k_nr1 k_bf (Nat.ne_of_beq_eq_false rfl)
  exact ⟨hk.2 _ _ k_xo (ninc n1 nin0) (fun t9 => absurd t9 (Nat.ne_of_beq_eq_false rfl)), hE0.kp hk (ninc n12 nin0) (ninc n13 nin0) (ninc n14 nin0) (fun c hc => ⟨(fun z9 => nomatch z9), (ninc (hE0.us k_bf (Nat.ne_of_beq_eq_false rfl) c hc) nin0)⟩) (fun a9 ha9 k9 hk9 => by
      simp only [List.mem_cons, List.not_mem_nil, or_false] at ha9
      rcases ha9 with ha9
      · rw [ha9, k_bf] at hk9; cases hk9), hE1.kp hk (ninc n15 nin0) (ninc n16 nin0) (ninc n17 nin0) (fun c hc => ⟨(fun z9 => nomatch z9), (ninc (hE1.us k_bf (Nat.ne_of_beq_eq_false rfl) c hc) nin0)⟩) (fun a9 ha9 k9 hk9 => by
      simp only [List.mem_cons, List.not_mem_nil, or_false] at ha9
      rcases ha9 with ha9
      · rw [ha9, k_bf] at hk9; cases hk9), hk.2 _ _ k_nw0 (ninc n2 nin0) (fun t9 => absurd t9 (Nat.ne_of_beq_eq_false rfl)), hk.2 _ _ k_na0 (ninc n3 nin0) (fun t9 => absurd t9 (Nat.ne_of_beq_eq_false rfl)), hk.2 _ _ k_nw1 (ninc n4 nin0) (fun t9 => absurd t9 (Nat.ne_of_beq_eq_false rfl)), hk.2 _ _ k_na1 (ninc n5 nin0) (fun t9 => absurd t9 (Nat.ne_of_beq_eq_false rfl)), hk.2 _ _ k_bu (ninc n6 nin0) (fun t9 => absurd t9 (Nat.ne_of_beq_eq_false rfl)), hk.2 _ _ k_bs (ninc n7 nin0) (fun t9 => absurd t9 (Nat.ne_of_beq_eq_false rfl)), hk.2 _ _ k_bp (ninc n8 nin0) (fun t9 => absurd t9 (Nat.ne_of_beq_eq_false rfl)), hk.2 _ _ k_bh (ninc n10 nin0) (fun t9 => absurd t9 (Nat.ne_of_beq_eq_false rfl)), j_bf, hk.2 _ _ k_bl (ninc (Ne.symm nd_bf_bl) nin0) (fun t9 => absurd t9 (Nat.ne_of_beq_eq_false rfl)), hk.2 _ _ k_bg (ninc n11 nin0) (fun t9 => absurd t9 (Nat.ne_of_beq_eq_false rfl)), jB, jF, nd_ez_eo, nd_nr0_nr1, nd_nw0_na0, nd_nw0_nq0, nd_nw0_nw1, nd_nw0_na1, nd_nw0_nq1, nd_na0_nq0, nd_na0_nw1, nd_na0_na1, nd_na0_nq1, nd_nq0_nw1, nd_nq0_na1, nd_nq0_nq1, nd_nw1_na1, nd_nw1_nq1, nd_na1_nq1, nd_bh_bp, nd_bf_bl, hd1, hd2⟩
theorem CXQ.eq {G : hG} {f f1 : hM} {xo ez eo bu nw0 na0 nq0 nr0 nw1 na1 nq1 nr1 bs bp bh bf bl bg : Nat} {Q0 Q1 : List (Nat × Nat)} {S0 : ES} {S1 : ES} {gw0 : Nat → Int32} {ga0 : Nat → Int32} {gw1 : Nat → Int32} {ga1 : Nat → Int32} {n : Nat} {a : Nat} {cg : Nat} {x : Nat} {sa : Nat → Nat} {pk : Nat → Nat} {fl : Nat → Nat} {gv : Nat → Nat} {gh : Nat → Int32} {gl : Nat → Int32} {S : List Nat} (h : CXQ G f xo ez eo bu nw0 na0 nq0 nr0 nw1 na1 nq1 nr1 bs bp bh bf bl bg Q0 Q1 S0 S1 gw0 ga0 gw1 ga1 n a cg x sa pk fl gv gh gl) (he : hEq S f f1) (hd : ∀ p ∈ [xo, ez, eo, bu, nw0, na0, nq0, nr0, nw1, na1, nq1, nr1, bs, bp, bh, bf, bl, bg], p ∉ S) (hfr : ∀ b ∈ S, ∃ e0 e1, f b = some e0 ∧ f1 b = some e1 ∧ hTag e0 ≠ 3 ∧ hLen e0 ≠ 6) : CXQ G f1 xo ez eo bu nw0 na0 nq0 nr0 nw1 na1 nq1 nr1 bs bp bh bf bl bg Q0 Q1 S0 S1 gw0 ga0 gw1 ga1 n a cg x sa pk fl gv gh gl := by
  obtain ⟨k_xo, hE0, hE1, k_nw0, k_na0, k_nw1, k_na1, k_bu, k_bs, k_bp, k_bh, k_bf, k_bl, k_bg, hB9, hfl9, nd_ez_eo, nd_nr0_nr1, nd_nw0_na0, nd_nw0_nq0, nd_nw0_nw1, nd_nw0_na1, nd_nw0_nq1, nd_na0_nq0, nd_na0_nw1, nd_na0_na1, nd_na0_nq1, nd_nq0_nw1, nd_nq0_na1, nd_nq0_nq1, nd_nw1_na1, nd_nw1_nq1, nd_na1_nq1, nd_bh_bp, nd_bf_bl, hd1, hd2⟩ := h
  have hk : hK2 S [] f f1 := hK2.of he (fun a ha => by obtain ⟨e0, e1, q0, q1, -⟩ := hfr a ha; exact ⟨e1, q1⟩)
  have hsf : ∀ a ∈ S, ∀ k, f a ≠ some (.inr (2, k)) := fun a ha k hk9 => by obtain ⟨e0, e1, q0, q1, t0, -⟩ := hfr a ha; rw [hk9] at q0; cases q0; exact t0 rfl
  have hu : ∀ (en nw na nq nr : Nat) (S9 : ES) (Q : List (Nat × Nat)), EX G f en nw na nq nr S9 Q → ∀ c ∈ Q, c.1 ∉ ws [] ∧ c.2 ∉ S := fun en nw na nq nr S9 Q hE c hc => ⟨(fun z => nomatch z), fun z => by
    obtain ⟨e0, e1, q0, q1, t0, l0⟩ := hfr _ z
    exact hE.us q0 l0 c hc rfl⟩
  exact ⟨(he _ (hd _ (by simp))).trans k_xo, hE0.kp hk (hd _ (by simp)) (hd _ (by simp)) (hd _ (by simp)) (hu _ _ _ _ _ _ _ hE0) hsf, hE1.kp hk (hd _ (by simp)) (hd _ (by simp)) (hd _ (by simp)) (hu _ _ _ _ _ _ _ hE1) hsf, (he _ (hd _ (by simp))).trans k_nw0, (he _ (hd _ (by simp))).trans k_na0, (he _ (hd _ (by simp))).trans k_nw1, (he _ (hd _ (by simp))).trans k_na1, (he _ (hd _ (by simp))).trans k_bu, (he _ (hd _ (by simp))).trans k_bs, (he _ (hd _ (by simp))).trans k_bp, (he _ (hd _ (by simp))).trans k_bh, (he _ (hd _ (by simp))).trans k_bf, (he _ (hd _ (by simp))).trans k_bl, (he _ (hd _ (by simp))).trans k_bg, hB9, hfl9, nd_ez_eo, nd_nr0_nr1, nd_nw0_na0, nd_nw0_nq0, nd_nw0_nw1, nd_nw0_na1, nd_nw0_nq1, nd_na0_nq0, nd_na0_nw1, nd_na0_na1, nd_na0_nq1, nd_nq0_nw1, nd_nq0_na1, nd_nq0_nq1, nd_nw1_na1, nd_nw1_nq1, nd_na1_nq1, nd_bh_bp, nd_bf_bl, hd1, hd2⟩
theorem CXW.eq {G : hG} {f f1 : hM} {xo ez eo bu nw0 na0 nq0 nr0 nw1 na1 nq1 nr1 bs bp bh bf bl bg : Nat} {S0 : ES} {S1 : ES} {gw0 : Nat → Int32} {ga0 : Nat → Int32} {gw1 : Nat → Int32} {ga1 : Nat → Int32} {n : Nat} {a : Nat} {cg : Nat} {x : Nat} {sa : Nat → Nat} {pk : Nat → Nat} {fl : Nat → Nat} {gv : Nat → Nat} {gh : Nat → Int32} {gl : Nat → Int32} {S : List Nat} (h : CXW G f xo ez eo bu nw0 na0 nq0 nr0 nw1 na1 nq1 nr1 bs bp bh bf bl bg S0 S1 gw0 ga0 gw1 ga1 n a cg x sa pk fl gv gh gl) (he : hEq S f f1) (hd : ∀ p ∈ [xo, ez, eo, bu, nw0, na0, nq0, nr0, nw1, na1, nq1, nr1, bs, bp, bh, bf, bl, bg], p ∉ S) (hfr : ∀ b ∈ S, ∃ e0 e1, f b = some e0 ∧ f1 b = some e1 ∧ hTag e0 ≠ 3 ∧ hLen e0 ≠ 6) : CXW G f1 xo ez eo bu nw0 na0 nq0 nr0 nw1 na1 nq1 nr1 bs bp bh bf bl bg S0 S1 gw0 ga0 gw1 ga1 n a cg x sa pk fl gv gh gl := by
  obtain ⟨Q0, Q1, h⟩ := h
  exact ⟨Q0, Q1, h.eq he hd hfr⟩
set_option maxHeartbeats 4000000 in
set_option maxRecDepth 100000 in
theorem c_X4_takeFrameX {l : Launch} (hl : l.stackTraces = false) (G : hG) (f : hM) (en nw na nq nr : Nat) (st li sr tm lp mi ix : Int32) (gq : Nat → Int32) (L : List Fr) (Q : List (Nat × Nat)) (hE : EX G f en nw na nq nr (st, li, sr, tm, lp, mi, ix, gq, L) Q) : CT l yX4_takeFrame (.code yX4_takeFrame cX4_takeFrame 2 (some (.object "OptionLine$Frame"))) 6 82 1 6 G [.ref en] f (fun v f1 => ∃ (c : Nat × Nat) (Q1 : List (Nat × Nat)) (r : Fr) (L1 : List Fr), Q = c :: Q1 ∧ L = r :: L1 ∧ v = some (.ref c.1) ∧ EX G f1 en nw na nq nr (st, li, sr, tm, lp, mi, ix, gq, L1) Q1 ∧ (∃ nx : Value, f1 c.1 = some (.inr (2, [.int r.1, .int r.2.1, .int (mgF r), .ref c.2, nx]))) ∧ f1 c.2 = some (.inl (cI G, 6, .inl r.2.2.2)) ∧ hK2 [nr] [] f f1) (fun E f1 => E = eS ∧ f1 = f ∧ L = []) := by
  refine hp_start hl (own := RX4) (by decide) rfl (Nat.le_of_ble_eq_true rfl) ?_
  intro p e s m args below meth c B0 hr hnm hout hw hS ls hl9
  have hx := B0.1
  have hb := B0.2.1
  have hl9 : lv_has ls 2 [(0, .ref en)] := hl9
  have ke1 : f en = some (.inr (1, [.ref nw, .ref na, .ref nq, .ref nr, .int (num ix), .int st, .int tm, .int sr, .int li, .int lp, .int mi])) := (hE).1
  have kq2 : f nq = some (.inl (cI G, 6, .inl gq)) := (hE).2.1
  obtain ⟨hd4, kr3, hc5⟩ := (hE).2.2.1
  refine lv_aload_n hx hb dX4_takeFrame_0 rfl (lv_at hl9 0 rfl) ?_
  refine hp_getN B0 hw 1 rfl in_X1 ke1 3 (by decide) oF_X4_106 rfl dX4_takeFrame_1 ?_
  refine hp_V (ci := 3) (As := []) (rest := []) B0 hw hS (c_X3_takeX hl G f nr Q L ⟨_, kr3, hc5⟩) mV_X3_takeFirst qM_X4_152 rfl kr3 rfl rfl hl9.1 (Nat.le_of_ble_eq_true rfl) ⟨⟨Nat.le_of_ble_eq_true rfl, Nat.le_of_ble_eq_true rfl⟩, Nat.le_of_ble_eq_true rfl, Nat.le_of_ble_eq_true rfl⟩ dX4_takeFrame_4 (fun E ce q9 f6 H locs hPX hw hS hce hcv hcl => ?_) (fun v f6 H locs hP hw hS => ?_)
  · exact hPX.elim
  · rcases hP with ⟨eQ9, ev9, ef9⟩ | ⟨⟨w9, u9⟩, Q9, r9, L9, eQ9, eL9, ev9, hR9, hk9⟩
    · rw [ef9] at hw
      subst ev9
      refine W.eq (g2 := F0 m 7 ls [.null]) rfl ?_
      refine lv_astore_nN (lv' := [(1, .null), (0, .ref en)]) hx hb dX4_takeFrame_7 rfl hl9 (by decide) rfl (fun ls hl9 => ?_)
      refine lv_aload_nN hx hb dX4_takeFrame_8 rfl (lv_at hl9 0 rfl) ?_
      refine lv_ifnonnullN hx hb dX4_takeFrame_9 ?_
      exact hp_throw (cls := eS) (names := tNm) B0 hw hS hout tF_eS qC_X4_59 qN_java_lang_IllegalStateException sR_X4_156 tA_eS tB_eS tG_eS hl9.1 dX4_takeFrame_12 dX4_takeFrame_15 dX4_takeFrame_16 dX4_takeFrame_18 dX4_takeFrame_21 ⟨⟨Nat.le_of_ble_eq_true rfl, Nat.le_of_ble_eq_true rfl⟩, Nat.le_of_ble_eq_true rfl, Nat.le_of_ble_eq_true rfl⟩ ⟨Nat.le_of_ble_eq_true rfl, Nat.le_of_ble_eq_true rfl⟩ (⟨rfl, rfl, List.eq_nil_of_length_eq_zero (by rw [← CH.len hc5, eQ9]; rfl)⟩)
    · subst ev9
      refine W.eq (g2 := F0 m 7 ls [.ref w9]) rfl ?_
      refine lv_astore_n (lv' := [(1, .ref w9), (0, .ref en)]) hx hb dX4_takeFrame_7 rfl hl9 (by decide) rfl (fun ls hl9 => ?_)
      refine lv_aload_n hx hb dX4_takeFrame_8 rfl (lv_at hl9 0 rfl) ?_
      refine lv_ifnonnull (tgt := 22) hx hb dX4_takeFrame_9 (by decide) ?_
      refine lv_aload_n hx hb dX4_takeFrame_22 rfl (lv_at hl9 0 rfl) ?_
      have n7 : en ≠ nr := hne ke1 kr3 (Nat.ne_of_beq_eq_false rfl)
      have h8 : f6 en = some (.inr (1, [.ref nw, .ref na, .ref nq, .ref nr, .int (num ix), .int st, .int tm, .int sr, .int li, .int lp, .int mi])) := hk9.2 _ _ ke1 (ninc n7 nin0) (fun t9 => absurd t9 (Nat.ne_of_beq_eq_false rfl))
      have n10 : nq ≠ nr := hne kq2 kr3 (Nat.ne_of_beq_eq_false rfl)
      have h11 : f6 nq = some (.inl (cI G, 6, .inl gq)) := hk9.2 _ _ kq2 (ninc n10 nin0) (fun t9 => absurd t9 (Nat.ne_of_beq_eq_false rfl))
      subst eQ9
      subst eL9
      obtain ⟨r8, L8, nx8, e8r, e7, g1, g2, g3⟩ := id hc5
      obtain ⟨e81, e82⟩ := List.cons.inj e8r
      have g1 : f w9 = some (.inr (2, [.int r9.1, .int r9.2.1, .int (mgF r9), .ref u9, nx8])) := by rw [e81]; exact g1
      have g2 : f u9 = some (.inl (cI G, 6, .inl r9.2.2.2)) := by rw [e81]; exact g2
      exact hp_aret (v := .ref w9) B0 hw hS hr (Or.inl ⟨_, rfl⟩) (Or.inr ⟨_, rfl⟩) ⟨Nat.le_of_ble_eq_true rfl, Nat.le_of_ble_eq_true rfl⟩ dX4_takeFrame_23 (⟨(w9, u9), Q9, r9, L9, rfl, rfl, rfl, ⟨h8, h11, hR9, (List.nodup_cons.mp (hE).2.2.2.1).2, fun c9 h9 => (hE).2.2.2.2.1 c9 (List.mem_cons_of_mem _ h9), (hE).2.2.2.2.2⟩, ⟨nx8, hk9.2 _ _ g1 (ninc (hne g1 kr3 (Nat.ne_of_beq_eq_false rfl)) nin0) (fun _ z9 => nomatch z9)⟩, hk9.2 _ _ g2 (ninc (hne g2 kr3 (Nat.ne_of_beq_eq_false rfl)) nin0) (fun _ z9 => nomatch z9), hk9⟩)

theorem begV_01 (S : ES) : begV S = 0 ∨ begV S = 1 := by
  unfold begV
  split
  · exact Or.inr rfl
  · exact Or.inl rfl
theorem tickV_01 (S : ES) : tickV S = 0 ∨ tickV S = 1 := by
  unfold tickV
  split
  · exact Or.inl rfl
  · split
    · exact begV_01 S
    · exact Or.inl rfl
theorem begS_len (S : ES) : (begS S).2.2.2.2.2.2.2.2.length ≤ S.2.2.2.2.2.2.2.2.length + 1 := by
  unfold begS
  split
  · simp
  · exact Nat.le_succ _
theorem tickS_len (S : ES) : (tickS S).2.2.2.2.2.2.2.2.length ≤ S.2.2.2.2.2.2.2.2.length + 1 := by
  unfold tickS
  split
  · exact Nat.le_succ _
  · split
    · exact begS_len _
    · exact Nat.le_succ _
/-- some ticks: both ends and the requests sent -/
def passF : Nat → ES × ES × Int32 → ES × ES × Int32
  | 0, z => z
  | n + 1, z => passF n (tickS z.1, tickS z.2.1, z.2.2 + tickV z.1 + tickV z.2.1)
theorem lenT {n m j : Nat} (h : n = m) (hm : m < 3000 + j) (hj : j < 51) : n < 3900 := by omega
set_option maxHeartbeats 4000000 in
set_option maxRecDepth 100000 in
theorem c_P_wish_0 {l : Launch} (hl : l.stackTraces = false) (G : hG) (f : hM) (xo ez eo bu nw0 na0 nq0 nr0 nw1 na1 nq1 nr1 bs bp bh bf bl bg : Nat) (S0 : ES) (S1 : ES) (gw0 : Nat → Int32) (ga0 : Nat → Int32) (gw1 : Nat → Int32) (ga1 : Nat → Int32) (n : Nat) (a : Nat) (cg : Nat) (x : Nat) (sa : Nat → Nat) (pk : Nat → Nat) (fl : Nat → Nat) (gv : Nat → Nat) (gh : Nat → Int32) (gl : Nat → Int32) (hC : CXW G f xo ez eo bu nw0 na0 nq0 nr0 nw1 na1 nq1 nr1 bs bp bh bf bl bg S0 S1 gw0 ga0 gw1 ga1 n a cg x sa pk fl gv gh gl) (hL0 : S0.2.2.2.2.2.2.2.2.length < 3000) (hL1 : S1.2.2.2.2.2.2.2.2.length < 3000) (j : Nat) (hj : j < 6) (xv : Int32) (hv : -1 ≤ xv.toInt ∧ xv.toInt ≤ 9) : CT l yX4_wish (.code yX4_wish cX4_wish 5 (some .int)) 7 103 2 12 G [.ref xo, .int 0, .int (nI j), .int xv] f (fun v f1 => v = some (.int (gw0 j)) ∧ CXW G f1 xo ez eo bu nw0 na0 nq0 nr0 nw1 na1 nq1 nr1 bs bp bh bf bl bg S0 S1 (upd gw0 j xv) ga0 gw1 ga1 n a cg x sa pk fl gv gh gl ∧ hKn [xo, ez, eo, bu, nw0, na0, nq0, nr0, nw1, na1, nq1, nr1, bs, bp, bh, bf, bl, bg] f f1) (fun E f1 => False) := by
  refine hp_start hl (own := RX4) (by decide) rfl (Nat.le_of_ble_eq_true rfl) ?_
  intro p e s m args below meth c B0 hr hnm hout hw hS ls hl9
  have hx := B0.1
  have hb := B0.2.1
  have hl9 : lv_has ls 5 [(0, .ref xo), (1, .int 0), (2, .int (nI j)), (3, .int xv)] := hl9
  obtain ⟨Q0, Q1, hq⟩ := id hC
  have h1 : f xo = some (.inr (4, [.ref ez, .ref eo, .ref bu])) := hq.1
  have h2 : f ez = some (.inr (1, [.ref nw0, .ref na0, .ref nq0, .ref nr0, .int (num S0.2.2.2.2.2.2.1), .int S0.1, .int S0.2.2.2.1, .int S0.2.2.1, .int S0.2.1, .int S0.2.2.2.2.1, .int S0.2.2.2.2.2.1])) := (hq.2.1).1
  have h3 : f eo = some (.inr (1, [.ref nw1, .ref na1, .ref nq1, .ref nr1, .int (num S1.2.2.2.2.2.2.1), .int S1.1, .int S1.2.2.2.1, .int S1.2.2.1, .int S1.2.1, .int S1.2.2.2.2.1, .int S1.2.2.2.2.2.1])) := (hq.2.2.1).1
  have ho := (show sO (nI j) from ⟨by rw [nI_toInt (by omega)]; omega, by rw [nI_toInt (by omega)]; omega⟩)
  refine lv_aload_n hx hb dX4_wish_0 rfl (lv_at hl9 0 rfl) ?_
  refine lv_iload_n hx hb dX4_wish_1 rfl (lv_at hl9 1 rfl) ?_
  refine hp_V (ci := 4) (As := [.int 0]) (rest := []) B0 hw hS (c_X4_endAt hl G f xo ez eo bu h1 0) mV_X4_endAt qM_X4_28 rfl h1 rfl rfl hl9.1 (Nat.le_of_ble_eq_true rfl) ⟨⟨Nat.le_of_ble_eq_true rfl, Nat.le_of_ble_eq_true rfl⟩, Nat.le_of_ble_eq_true rfl, Nat.le_of_ble_eq_true rfl⟩ dX4_wish_2 (fun E ce q9 f4 H locs hPX hw hS hce hcv hcl => ?_) (fun v f4 H locs hP hw hS => ?_)
  · obtain ⟨ef9, eE9, hE9⟩ := hPX
    rw [ef9] at hw
    exact absurd (Or.inl rfl) hE9
  · obtain ⟨ef9, hv9⟩ := hP
    rw [ef9] at hw
    rcases hv9 with ⟨k9, ev9⟩ | ⟨k9, ev9⟩
    rotate_left
    exact absurd k9 (by decide)
    subst ev9
    refine W.eq (g2 := F0 m 5 ls [.ref ez]) rfl ?_
    refine lv_astore (lv' := [(4, .ref ez), (0, .ref xo), (1, .int 0), (2, .int (nI j)), (3, .int xv)]) hx hb dX4_wish_5 hl9 (by decide) rfl (fun ls hl9 => ?_)
    refine lv_iload_n hx hb dX4_wish_7 rfl (lv_at hl9 3 rfl) ?_
    refine hp_S (As := [.int (nI j)]) (rest := []) B0 hw hS (c_X4_refuseNoOption hl G f (nI j)) mS_X4_refuseNoOption qM_X4_32 rfl rfl hl9.1 (Nat.le_of_ble_eq_true rfl) ⟨⟨Nat.le_of_ble_eq_true rfl, Nat.le_of_ble_eq_true rfl⟩, Nat.le_of_ble_eq_true rfl, Nat.le_of_ble_eq_true rfl⟩ dX4_wish_8 (fun E ce q9 f5 H locs hPX hw hS hce hcv hcl => ?_) (fun v f5 H locs hP hw hS => ?_)
    · obtain ⟨ef9, eE9, hE9⟩ := hPX
      rw [ef9] at hw
      exact absurd ho hE9
    · obtain ⟨ef9, ev9, ho9⟩ := hP
      rw [ef9] at hw
      subst ev9
      refine W.eq (g2 := F0 m 11 ls []) rfl ?_
      refine lv_iload_n hx hb dX4_wish_11 rfl (lv_at hl9 4 rfl) ?_
      refine lv_iconst (v := (-1)) hx hb dX4_wish_12 (by decide) ?_
      refine lv_icmp_lt (tgt := 22) hx hb dX4_wish_13 (by decide) (fun c9 => absurd c9 (by simp only [jlt, jle, tq0, tq1, tq3, tq4, tq6, tq9, tq50, tq60, tq1023, tqm1]; omega)) (fun _ => ?_)
      refine lv_iload_n hx hb dX4_wish_16 rfl (lv_at hl9 4 rfl) ?_
      refine lv_bipush (v := 9) hx hb dX4_wish_17 (by decide) ?_
      refine lv_icmp_le (tgt := 32) hx hb dX4_wish_19 (by decide) (fun _ => ?_) (fun c9 => absurd (by simp only [jlt, jle, tq0, tq1, tq3, tq4, tq6, tq9, tq50, tq60, tq1023, tqm1]; omega) c9)
      refine lv_aload hx hb dX4_wish_32 (lv_at hl9 0 rfl) ?_
      refine lv_iload_n hx hb dX4_wish_34 rfl (lv_at hl9 3 rfl) ?_
      refine lv_iload_n hx hb dX4_wish_35 rfl (lv_at hl9 4 rfl) ?_
      have h6 : f nw0 = some (.inl (cI G, 6, .inl gw0)) := hq.2.2.2.1
      refine hp_V (ci := 1) (As := [.int (nI j), .int xv]) (rest := []) B0 hw hS (c_X1_changeWish hl G f ez nw0 na0 nq0 nr0 (num S0.2.2.2.2.2.2.1) S0.1 S0.2.2.2.1 S0.2.2.1 S0.2.1 S0.2.2.2.2.1 S0.2.2.2.2.2.1 h2 gw0 h6 (nI j) xv (show sO (nI j) from ⟨by rw [nI_toInt (by omega)]; omega, by rw [nI_toInt (by omega)]; omega⟩)) mV_X1_changeWish qM_X4_42 rfl h2 rfl rfl hl9.1 (Nat.le_of_ble_eq_true rfl) ⟨⟨Nat.le_of_ble_eq_true rfl, Nat.le_of_ble_eq_true rfl⟩, Nat.le_of_ble_eq_true rfl, Nat.le_of_ble_eq_true rfl⟩ dX4_wish_36 (fun E ce q9 f7 H locs hPX hw hS hce hcv hcl => ?_) (fun v f7 H locs hP hw hS => ?_)
      · exact hPX.elim
      · obtain ⟨ho9, ev9, e8, -⟩ := hP
        rw [show (nI j).toNatClampNeg = j from nI_clamp (by omega)] at ev9 e8
        subst ev9
        have h12 : f7 nw0 = some (.inl (cI G, 6, .inl (upd gw0 j xv))) := by rw [e8, va_up_self]
        have hq11 : CXQ G f7 xo ez eo bu nw0 na0 nq0 nr0 nw1 na1 nq1 nr1 bs bp bh bf bl bg Q0 Q1 S0 S1 (upd gw0 j xv) ga0 gw1 ga1 n a cg x sa pk fl gv gh gl := CXQ.w0 hq (show hK2 [nw0] [] f f7 from (by rw [e8]; exact hK2.up List.mem_cons_self)) h12 (hq.2.2.2.2.2.2.2.2.2.2.2.2.2.2.1) (hq.2.2.2.2.2.2.2.2.2.2.2.2.2.2.2.1)
        have h13 : f7 xo = some (.inr (4, [.ref ez, .ref eo, .ref bu])) := hq11.1
        have h14 : f7 ez = some (.inr (1, [.ref nw0, .ref na0, .ref nq0, .ref nr0, .int (num S0.2.2.2.2.2.2.1), .int S0.1, .int S0.2.2.2.1, .int S0.2.2.1, .int S0.2.1, .int S0.2.2.2.2.1, .int S0.2.2.2.2.2.1])) := (hq11.2.1).1
        have h15 : f7 eo = some (.inr (1, [.ref nw1, .ref na1, .ref nq1, .ref nr1, .int (num S1.2.2.2.2.2.2.1), .int S1.1, .int S1.2.2.2.1, .int S1.2.2.1, .int S1.2.1, .int S1.2.2.2.2.1, .int S1.2.2.2.2.2.1])) := (hq11.2.2.1).1
        refine W.eq (g2 := F0 m 39 ls [.int (gw0 j)]) rfl ?_
        exact hp_iret (v := (gw0 j)) B0 hw hS hr ⟨Nat.le_of_ble_eq_true rfl, Nat.le_of_ble_eq_true rfl⟩ dX4_wish_39 (⟨rfl, ⟨_, _, hq11⟩, (show hKn [xo, ez, eo, bu, nw0, na0, nq0, nr0, nw1, na1, nq1, nr1, bs, bp, bh, bf, bl, bg] f f7 from (by rw [e8]; exact hKn.up (List.mem_cons_of_mem _ (List.mem_cons_of_mem _ (List.mem_cons_of_mem _ (List.mem_cons_of_mem _ List.mem_cons_self))))))⟩)

set_option maxHeartbeats 4000000 in
set_option maxRecDepth 100000 in
theorem c_P_wish_O0 {l : Launch} (hl : l.stackTraces = false) (G : hG) (f : hM) (xo ez eo bu nw0 na0 nq0 nr0 nw1 na1 nq1 nr1 bs bp bh bf bl bg : Nat) (S0 : ES) (S1 : ES) (gw0 : Nat → Int32) (ga0 : Nat → Int32) (gw1 : Nat → Int32) (ga1 : Nat → Int32) (n : Nat) (a : Nat) (cg : Nat) (x : Nat) (sa : Nat → Nat) (pk : Nat → Nat) (fl : Nat → Nat) (gv : Nat → Nat) (gh : Nat → Int32) (gl : Nat → Int32) (hC : CXW G f xo ez eo bu nw0 na0 nq0 nr0 nw1 na1 nq1 nr1 bs bp bh bf bl bg S0 S1 gw0 ga0 gw1 ga1 n a cg x sa pk fl gv gh gl) (hL0 : S0.2.2.2.2.2.2.2.2.length < 3000) (hL1 : S1.2.2.2.2.2.2.2.2.length < 3000) (o xv : Int32) (ho : ¬ sO o) : CT l yX4_wish (.code yX4_wish cX4_wish 5 (some .int)) 7 103 2 12 G [.ref xo, .int 0, .int o, .int xv] f (fun v f1 => False) (fun E f1 => E = eI ∧ CXW G f1 xo ez eo bu nw0 na0 nq0 nr0 nw1 na1 nq1 nr1 bs bp bh bf bl bg S0 S1 gw0 ga0 gw1 ga1 n a cg x sa pk fl gv gh gl ∧ hKn [xo, ez, eo, bu, nw0, na0, nq0, nr0, nw1, na1, nq1, nr1, bs, bp, bh, bf, bl, bg] f f1) := by
  refine hp_start hl (own := RX4) (by decide) rfl (Nat.le_of_ble_eq_true rfl) ?_
  intro p e s m args below meth c B0 hr hnm hout hw hS ls hl9
  have hx := B0.1
  have hb := B0.2.1
  have hl9 : lv_has ls 5 [(0, .ref xo), (1, .int 0), (2, .int o), (3, .int xv)] := hl9
  obtain ⟨Q0, Q1, hq⟩ := id hC
  have h1 : f xo = some (.inr (4, [.ref ez, .ref eo, .ref bu])) := hq.1
  have h2 : f ez = some (.inr (1, [.ref nw0, .ref na0, .ref nq0, .ref nr0, .int (num S0.2.2.2.2.2.2.1), .int S0.1, .int S0.2.2.2.1, .int S0.2.2.1, .int S0.2.1, .int S0.2.2.2.2.1, .int S0.2.2.2.2.2.1])) := (hq.2.1).1
  have h3 : f eo = some (.inr (1, [.ref nw1, .ref na1, .ref nq1, .ref nr1, .int (num S1.2.2.2.2.2.2.1), .int S1.1, .int S1.2.2.2.1, .int S1.2.2.1, .int S1.2.1, .int S1.2.2.2.2.1, .int S1.2.2.2.2.2.1])) := (hq.2.2.1).1
  refine lv_aload_n hx hb dX4_wish_0 rfl (lv_at hl9 0 rfl) ?_
  refine lv_iload_n hx hb dX4_wish_1 rfl (lv_at hl9 1 rfl) ?_
  refine hp_V (ci := 4) (As := [.int 0]) (rest := []) B0 hw hS (c_X4_endAt hl G f xo ez eo bu h1 0) mV_X4_endAt qM_X4_28 rfl h1 rfl rfl hl9.1 (Nat.le_of_ble_eq_true rfl) ⟨⟨Nat.le_of_ble_eq_true rfl, Nat.le_of_ble_eq_true rfl⟩, Nat.le_of_ble_eq_true rfl, Nat.le_of_ble_eq_true rfl⟩ dX4_wish_2 (fun E ce q9 f4 H locs hPX hw hS hce hcv hcl => ?_) (fun v f4 H locs hP hw hS => ?_)
  · obtain ⟨ef9, eE9, hE9⟩ := hPX
    rw [ef9] at hw
    exact absurd (Or.inl rfl) hE9
  · obtain ⟨ef9, hv9⟩ := hP
    rw [ef9] at hw
    rcases hv9 with ⟨k9, ev9⟩ | ⟨k9, ev9⟩
    rotate_left
    exact absurd k9 (by decide)
    subst ev9
    refine W.eq (g2 := F0 m 5 ls [.ref ez]) rfl ?_
    refine lv_astore (lv' := [(4, .ref ez), (0, .ref xo), (1, .int 0), (2, .int o), (3, .int xv)]) hx hb dX4_wish_5 hl9 (by decide) rfl (fun ls hl9 => ?_)
    refine lv_iload_n hx hb dX4_wish_7 rfl (lv_at hl9 3 rfl) ?_
    refine hp_S (As := [.int o]) (rest := []) B0 hw hS (c_X4_refuseNoOption hl G f o) mS_X4_refuseNoOption qM_X4_32 rfl rfl hl9.1 (Nat.le_of_ble_eq_true rfl) ⟨⟨Nat.le_of_ble_eq_true rfl, Nat.le_of_ble_eq_true rfl⟩, Nat.le_of_ble_eq_true rfl, Nat.le_of_ble_eq_true rfl⟩ dX4_wish_8 (fun E ce q9 f5 H locs hPX hw hS hce hcv hcl => ?_) (fun v f5 H locs hP hw hS => ?_)
    · obtain ⟨ef9, eE9, hE9⟩ := hPX
      rw [ef9] at hw
      subst eE9
      exact hp_out B0 hw hS hout hce hcv hcl ⟨Nat.le_of_ble_eq_true rfl, Nat.le_of_ble_eq_true rfl⟩ (⟨rfl, ⟨_, _, hq⟩, hKn.rf⟩)
    · obtain ⟨ef9, ev9, ho9⟩ := hP
      rw [ef9] at hw
      exact absurd ho9 ho

set_option maxHeartbeats 4000000 in
set_option maxRecDepth 100000 in
theorem c_P_wish_V0 {l : Launch} (hl : l.stackTraces = false) (G : hG) (f : hM) (xo ez eo bu nw0 na0 nq0 nr0 nw1 na1 nq1 nr1 bs bp bh bf bl bg : Nat) (S0 : ES) (S1 : ES) (gw0 : Nat → Int32) (ga0 : Nat → Int32) (gw1 : Nat → Int32) (ga1 : Nat → Int32) (n : Nat) (a : Nat) (cg : Nat) (x : Nat) (sa : Nat → Nat) (pk : Nat → Nat) (fl : Nat → Nat) (gv : Nat → Nat) (gh : Nat → Int32) (gl : Nat → Int32) (hC : CXW G f xo ez eo bu nw0 na0 nq0 nr0 nw1 na1 nq1 nr1 bs bp bh bf bl bg S0 S1 gw0 ga0 gw1 ga1 n a cg x sa pk fl gv gh gl) (hL0 : S0.2.2.2.2.2.2.2.2.length < 3000) (hL1 : S1.2.2.2.2.2.2.2.2.length < 3000) (j : Nat) (hj : j < 6) (xv : Int32) (hv : ¬ (-1 ≤ xv.toInt ∧ xv.toInt ≤ 9)) : CT l yX4_wish (.code yX4_wish cX4_wish 5 (some .int)) 7 103 3 18 G [.ref xo, .int 0, .int (nI j), .int xv] f (fun v f1 => False) (fun E f1 => E = eA ∧ CXW G f1 xo ez eo bu nw0 na0 nq0 nr0 nw1 na1 nq1 nr1 bs bp bh bf bl bg S0 S1 gw0 ga0 gw1 ga1 n a cg x sa pk fl gv gh gl ∧ hKn [xo, ez, eo, bu, nw0, na0, nq0, nr0, nw1, na1, nq1, nr1, bs, bp, bh, bf, bl, bg] f f1) := by
  refine hp_start hl (own := RX4) (by decide) rfl (Nat.le_of_ble_eq_true rfl) ?_
  intro p e s m args below meth c B0 hr hnm hout hw hS ls hl9
  have hx := B0.1
  have hb := B0.2.1
  have hl9 : lv_has ls 5 [(0, .ref xo), (1, .int 0), (2, .int (nI j)), (3, .int xv)] := hl9
  obtain ⟨Q0, Q1, hq⟩ := id hC
  have h1 : f xo = some (.inr (4, [.ref ez, .ref eo, .ref bu])) := hq.1
  have h2 : f ez = some (.inr (1, [.ref nw0, .ref na0, .ref nq0, .ref nr0, .int (num S0.2.2.2.2.2.2.1), .int S0.1, .int S0.2.2.2.1, .int S0.2.2.1, .int S0.2.1, .int S0.2.2.2.2.1, .int S0.2.2.2.2.2.1])) := (hq.2.1).1
  have h3 : f eo = some (.inr (1, [.ref nw1, .ref na1, .ref nq1, .ref nr1, .int (num S1.2.2.2.2.2.2.1), .int S1.1, .int S1.2.2.2.1, .int S1.2.2.1, .int S1.2.1, .int S1.2.2.2.2.1, .int S1.2.2.2.2.2.1])) := (hq.2.2.1).1
  have ho := (show sO (nI j) from ⟨by rw [nI_toInt (by omega)]; omega, by rw [nI_toInt (by omega)]; omega⟩)
  refine lv_aload_n hx hb dX4_wish_0 rfl (lv_at hl9 0 rfl) ?_
  refine lv_iload_n hx hb dX4_wish_1 rfl (lv_at hl9 1 rfl) ?_
  refine hp_V (ci := 4) (As := [.int 0]) (rest := []) B0 hw hS (c_X4_endAt hl G f xo ez eo bu h1 0) mV_X4_endAt qM_X4_28 rfl h1 rfl rfl hl9.1 (Nat.le_of_ble_eq_true rfl) ⟨⟨Nat.le_of_ble_eq_true rfl, Nat.le_of_ble_eq_true rfl⟩, Nat.le_of_ble_eq_true rfl, Nat.le_of_ble_eq_true rfl⟩ dX4_wish_2 (fun E ce q9 f4 H locs hPX hw hS hce hcv hcl => ?_) (fun v f4 H locs hP hw hS => ?_)
  · obtain ⟨ef9, eE9, hE9⟩ := hPX
    rw [ef9] at hw
    exact absurd (Or.inl rfl) hE9
  · obtain ⟨ef9, hv9⟩ := hP
    rw [ef9] at hw
    rcases hv9 with ⟨k9, ev9⟩ | ⟨k9, ev9⟩
    rotate_left
    exact absurd k9 (by decide)
    subst ev9
    refine W.eq (g2 := F0 m 5 ls [.ref ez]) rfl ?_
    refine lv_astore (lv' := [(4, .ref ez), (0, .ref xo), (1, .int 0), (2, .int (nI j)), (3, .int xv)]) hx hb dX4_wish_5 hl9 (by decide) rfl (fun ls hl9 => ?_)
    refine lv_iload_n hx hb dX4_wish_7 rfl (lv_at hl9 3 rfl) ?_
    refine hp_S (As := [.int (nI j)]) (rest := []) B0 hw hS (c_X4_refuseNoOption hl G f (nI j)) mS_X4_refuseNoOption qM_X4_32 rfl rfl hl9.1 (Nat.le_of_ble_eq_true rfl) ⟨⟨Nat.le_of_ble_eq_true rfl, Nat.le_of_ble_eq_true rfl⟩, Nat.le_of_ble_eq_true rfl, Nat.le_of_ble_eq_true rfl⟩ dX4_wish_8 (fun E ce q9 f5 H locs hPX hw hS hce hcv hcl => ?_) (fun v f5 H locs hP hw hS => ?_)
    · obtain ⟨ef9, eE9, hE9⟩ := hPX
      rw [ef9] at hw
      exact absurd ho hE9
    · obtain ⟨ef9, ev9, ho9⟩ := hP
      rw [ef9] at hw
      subst ev9
      refine W.eq (g2 := F0 m 11 ls []) rfl ?_
      refine lv_iload_n hx hb dX4_wish_11 rfl (lv_at hl9 4 rfl) ?_
      refine lv_iconst (v := (-1)) hx hb dX4_wish_12 (by decide) ?_
      refine lv_icmp_lt (tgt := 22) hx hb dX4_wish_13 (by decide) (fun c6 => ?_) (fun c6 => ?_)
      · exact hp_throw (cls := eA) (names := tNm) B0 hw hS hout tF_eA qC_X4_35 qN_java_lang_IllegalArgumentException sR_X4_37 tA_eA tB_eA tG_eA hl9.1 dX4_wish_22 dX4_wish_25 dX4_wish_26 dX4_wish_28 dX4_wish_31 ⟨⟨Nat.le_of_ble_eq_true rfl, Nat.le_of_ble_eq_true rfl⟩, Nat.le_of_ble_eq_true rfl, Nat.le_of_ble_eq_true rfl⟩ ⟨Nat.le_of_ble_eq_true rfl, Nat.le_of_ble_eq_true rfl⟩ (⟨rfl, ⟨_, _, hq⟩, hKn.rf⟩)
      · refine lv_iload_n hx hb dX4_wish_16 rfl (lv_at hl9 4 rfl) ?_
        refine lv_bipush (v := 9) hx hb dX4_wish_17 (by decide) ?_
        refine lv_icmp_le (tgt := 32) hx hb dX4_wish_19 (by decide) (fun c9 => absurd c9 (fun h9 => hv (by have h1 := c6; have h2 := h9; simp only [jlt, jle, tq0, tq1, tq3, tq4, tq6, tq9, tq50, tq60, tq1023, tqm1] at h1 h2; exact ⟨by omega, by omega⟩))) (fun _ => ?_)
        exact hp_throw (cls := eA) (names := tNm) B0 hw hS hout tF_eA qC_X4_35 qN_java_lang_IllegalArgumentException sR_X4_37 tA_eA tB_eA tG_eA hl9.1 dX4_wish_22 dX4_wish_25 dX4_wish_26 dX4_wish_28 dX4_wish_31 ⟨⟨Nat.le_of_ble_eq_true rfl, Nat.le_of_ble_eq_true rfl⟩, Nat.le_of_ble_eq_true rfl, Nat.le_of_ble_eq_true rfl⟩ ⟨Nat.le_of_ble_eq_true rfl, Nat.le_of_ble_eq_true rfl⟩ (⟨rfl, ⟨_, _, hq⟩, hKn.rf⟩)

set_option maxHeartbeats 4000000 in
set_option maxRecDepth 100000 in
theorem c_P_wish_1 {l : Launch} (hl : l.stackTraces = false) (G : hG) (f : hM) (xo ez eo bu nw0 na0 nq0 nr0 nw1 na1 nq1 nr1 bs bp bh bf bl bg : Nat) (S0 : ES) (S1 : ES) (gw0 : Nat → Int32) (ga0 : Nat → Int32) (gw1 : Nat → Int32) (ga1 : Nat → Int32) (n : Nat) (a : Nat) (cg : Nat) (x : Nat) (sa : Nat → Nat) (pk : Nat → Nat) (fl : Nat → Nat) (gv : Nat → Nat) (gh : Nat → Int32) (gl : Nat → Int32) (hC : CXW G f xo ez eo bu nw0 na0 nq0 nr0 nw1 na1 nq1 nr1 bs bp bh bf bl bg S0 S1 gw0 ga0 gw1 ga1 n a cg x sa pk fl gv gh gl) (hL0 : S0.2.2.2.2.2.2.2.2.length < 3000) (hL1 : S1.2.2.2.2.2.2.2.2.length < 3000) (j : Nat) (hj : j < 6) (xv : Int32) (hv : -1 ≤ xv.toInt ∧ xv.toInt ≤ 9) : CT l yX4_wish (.code yX4_wish cX4_wish 5 (some .int)) 7 103 2 12 G [.ref xo, .int 1, .int (nI j), .int xv] f (fun v f1 => v = some (.int (gw1 j)) ∧ CXW G f1 xo ez eo bu nw0 na0 nq0 nr0 nw1 na1 nq1 nr1 bs bp bh bf bl bg S0 S1 gw0 ga0 (upd gw1 j xv) ga1 n a cg x sa pk fl gv gh gl ∧ hKn [xo, ez, eo, bu, nw0, na0, nq0, nr0, nw1, na1, nq1, nr1, bs, bp, bh, bf, bl, bg] f f1) (fun E f1 => False) := by
  refine hp_start hl (own := RX4) (by decide) rfl (Nat.le_of_ble_eq_true rfl) ?_
  intro p e s m args below meth c B0 hr hnm hout hw hS ls hl9
  have hx := B0.1
  have hb := B0.2.1
  have hl9 : lv_has ls 5 [(0, .ref xo), (1, .int 1), (2, .int (nI j)), (3, .int xv)] := hl9
  obtain ⟨Q0, Q1, hq⟩ := id hC
  have h1 : f xo = some (.inr (4, [.ref ez, .ref eo, .ref bu])) := hq.1
  have h2 : f ez = some (.inr (1, [.ref nw0, .ref na0, .ref nq0, .ref nr0, .int (num S0.2.2.2.2.2.2.1), .int S0.1, .int S0.2.2.2.1, .int S0.2.2.1, .int S0.2.1, .int S0.2.2.2.2.1, .int S0.2.2.2.2.2.1])) := (hq.2.1).1
  have h3 : f eo = some (.inr (1, [.ref nw1, .ref na1, .ref nq1, .ref nr1, .int (num S1.2.2.2.2.2.2.1), .int S1.1, .int S1.2.2.2.1, .int S1.2.2.1, .int S1.2.1, .int S1.2.2.2.2.1, .int S1.2.2.2.2.2.1])) := (hq.2.2.1).1
  have ho := (show sO (nI j) from ⟨by rw [nI_toInt (by omega)]; omega, by rw [nI_toInt (by omega)]; omega⟩)
  refine lv_aload_n hx hb dX4_wish_0 rfl (lv_at hl9 0 rfl) ?_
  refine lv_iload_n hx hb dX4_wish_1 rfl (lv_at hl9 1 rfl) ?_
  refine hp_V (ci := 4) (As := [.int 1]) (rest := []) B0 hw hS (c_X4_endAt hl G f xo ez eo bu h1 1) mV_X4_endAt qM_X4_28 rfl h1 rfl rfl hl9.1 (Nat.le_of_ble_eq_true rfl) ⟨⟨Nat.le_of_ble_eq_true rfl, Nat.le_of_ble_eq_true rfl⟩, Nat.le_of_ble_eq_true rfl, Nat.le_of_ble_eq_true rfl⟩ dX4_wish_2 (fun E ce q9 f4 H locs hPX hw hS hce hcv hcl => ?_) (fun v f4 H locs hP hw hS => ?_)
  · obtain ⟨ef9, eE9, hE9⟩ := hPX
    rw [ef9] at hw
    exact absurd (Or.inr rfl) hE9
  · obtain ⟨ef9, hv9⟩ := hP
    rw [ef9] at hw
    rcases hv9 with ⟨k9, ev9⟩ | ⟨k9, ev9⟩
    exact absurd k9 (by decide)
    subst ev9
    refine W.eq (g2 := F0 m 5 ls [.ref eo]) rfl ?_
    refine lv_astore (lv' := [(4, .ref eo), (0, .ref xo), (1, .int 1), (2, .int (nI j)), (3, .int xv)]) hx hb dX4_wish_5 hl9 (by decide) rfl (fun ls hl9 => ?_)
    refine lv_iload_n hx hb dX4_wish_7 rfl (lv_at hl9 3 rfl) ?_
    refine hp_S (As := [.int (nI j)]) (rest := []) B0 hw hS (c_X4_refuseNoOption hl G f (nI j)) mS_X4_refuseNoOption qM_X4_32 rfl rfl hl9.1 (Nat.le_of_ble_eq_true rfl) ⟨⟨Nat.le_of_ble_eq_true rfl, Nat.le_of_ble_eq_true rfl⟩, Nat.le_of_ble_eq_true rfl, Nat.le_of_ble_eq_true rfl⟩ dX4_wish_8 (fun E ce q9 f5 H locs hPX hw hS hce hcv hcl => ?_) (fun v f5 H locs hP hw hS => ?_)
    · obtain ⟨ef9, eE9, hE9⟩ := hPX
      rw [ef9] at hw
      exact absurd ho hE9
    · obtain ⟨ef9, ev9, ho9⟩ := hP
      rw [ef9] at hw
      subst ev9
      refine W.eq (g2 := F0 m 11 ls []) rfl ?_
      refine lv_iload_n hx hb dX4_wish_11 rfl (lv_at hl9 4 rfl) ?_
      refine lv_iconst (v := (-1)) hx hb dX4_wish_12 (by decide) ?_
      refine lv_icmp_lt (tgt := 22) hx hb dX4_wish_13 (by decide) (fun c9 => absurd c9 (by simp only [jlt, jle, tq0, tq1, tq3, tq4, tq6, tq9, tq50, tq60, tq1023, tqm1]; omega)) (fun _ => ?_)
      refine lv_iload_n hx hb dX4_wish_16 rfl (lv_at hl9 4 rfl) ?_
      refine lv_bipush (v := 9) hx hb dX4_wish_17 (by decide) ?_
      refine lv_icmp_le (tgt := 32) hx hb dX4_wish_19 (by decide) (fun _ => ?_) (fun c9 => absurd (by simp only [jlt, jle, tq0, tq1, tq3, tq4, tq6, tq9, tq50, tq60, tq1023, tqm1]; omega) c9)
      refine lv_aload hx hb dX4_wish_32 (lv_at hl9 0 rfl) ?_
      refine lv_iload_n hx hb dX4_wish_34 rfl (lv_at hl9 3 rfl) ?_
      refine lv_iload_n hx hb dX4_wish_35 rfl (lv_at hl9 4 rfl) ?_
      have h6 : f nw1 = some (.inl (cI G, 6, .inl gw1)) := hq.2.2.2.2.2.1
      refine hp_V (ci := 1) (As := [.int (nI j), .int xv]) (rest := []) B0 hw hS (c_X1_changeWish hl G f eo nw1 na1 nq1 nr1 (num S1.2.2.2.2.2.2.1) S1.1 S1.2.2.2.1 S1.2.2.1 S1.2.1 S1.2.2.2.2.1 S1.2.2.2.2.2.1 h3 gw1 h6 (nI j) xv (show sO (nI j) from ⟨by rw [nI_toInt (by omega)]; omega, by rw [nI_toInt (by omega)]; omega⟩)) mV_X1_changeWish qM_X4_42 rfl h3 rfl rfl hl9.1 (Nat.le_of_ble_eq_true rfl) ⟨⟨Nat.le_of_ble_eq_true rfl, Nat.le_of_ble_eq_true rfl⟩, Nat.le_of_ble_eq_true rfl, Nat.le_of_ble_eq_true rfl⟩ dX4_wish_36 (fun E ce q9 f7 H locs hPX hw hS hce hcv hcl => ?_) (fun v f7 H locs hP hw hS => ?_)
      · exact hPX.elim
      · obtain ⟨ho9, ev9, e8, -⟩ := hP
        rw [show (nI j).toNatClampNeg = j from nI_clamp (by omega)] at ev9 e8
        subst ev9
        have h12 : f7 nw1 = some (.inl (cI G, 6, .inl (upd gw1 j xv))) := by rw [e8, va_up_self]
        have hq11 : CXQ G f7 xo ez eo bu nw0 na0 nq0 nr0 nw1 na1 nq1 nr1 bs bp bh bf bl bg Q0 Q1 S0 S1 gw0 ga0 (upd gw1 j xv) ga1 n a cg x sa pk fl gv gh gl := CXQ.w1 hq (show hK2 [nw1] [] f f7 from (by rw [e8]; exact hK2.up List.mem_cons_self)) h12 (hq.2.2.2.2.2.2.2.2.2.2.2.2.2.2.1) (hq.2.2.2.2.2.2.2.2.2.2.2.2.2.2.2.1)
        have h13 : f7 xo = some (.inr (4, [.ref ez, .ref eo, .ref bu])) := hq11.1
        have h14 : f7 ez = some (.inr (1, [.ref nw0, .ref na0, .ref nq0, .ref nr0, .int (num S0.2.2.2.2.2.2.1), .int S0.1, .int S0.2.2.2.1, .int S0.2.2.1, .int S0.2.1, .int S0.2.2.2.2.1, .int S0.2.2.2.2.2.1])) := (hq11.2.1).1
        have h15 : f7 eo = some (.inr (1, [.ref nw1, .ref na1, .ref nq1, .ref nr1, .int (num S1.2.2.2.2.2.2.1), .int S1.1, .int S1.2.2.2.1, .int S1.2.2.1, .int S1.2.1, .int S1.2.2.2.2.1, .int S1.2.2.2.2.2.1])) := (hq11.2.2.1).1
        refine W.eq (g2 := F0 m 39 ls [.int (gw1 j)]) rfl ?_
        exact hp_iret (v := (gw1 j)) B0 hw hS hr ⟨Nat.le_of_ble_eq_true rfl, Nat.le_of_ble_eq_true rfl⟩ dX4_wish_39 (⟨rfl, ⟨_, _, hq11⟩, (show hKn [xo, ez, eo, bu, nw0, na0, nq0, nr0, nw1, na1, nq1, nr1, bs, bp, bh, bf, bl, bg] f f7 from (by rw [e8]; exact hKn.up (List.mem_cons_of_mem _ (List.mem_cons_of_mem _ (List.mem_cons_of_mem _ (List.mem_cons_of_mem _ (List.mem_cons_of_mem _ (List.mem_cons_of_mem _ (List.mem_cons_of_mem _ (List.mem_cons_of_mem _ List.mem_cons_self))))))))))⟩)

set_option maxHeartbeats 4000000 in
set_option maxRecDepth 100000 in
theorem c_P_wish_O1 {l : Launch} (hl : l.stackTraces = false) (G : hG) (f : hM) (xo ez eo bu nw0 na0 nq0 nr0 nw1 na1 nq1 nr1 bs bp bh bf bl bg : Nat) (S0 : ES) (S1 : ES) (gw0 : Nat → Int32) (ga0 : Nat → Int32) (gw1 : Nat → Int32) (ga1 : Nat → Int32) (n : Nat) (a : Nat) (cg : Nat) (x : Nat) (sa : Nat → Nat) (pk : Nat → Nat) (fl : Nat → Nat) (gv : Nat → Nat) (gh : Nat → Int32) (gl : Nat → Int32) (hC : CXW G f xo ez eo bu nw0 na0 nq0 nr0 nw1 na1 nq1 nr1 bs bp bh bf bl bg S0 S1 gw0 ga0 gw1 ga1 n a cg x sa pk fl gv gh gl) (hL0 : S0.2.2.2.2.2.2.2.2.length < 3000) (hL1 : S1.2.2.2.2.2.2.2.2.length < 3000) (o xv : Int32) (ho : ¬ sO o) : CT l yX4_wish (.code yX4_wish cX4_wish 5 (some .int)) 7 103 2 12 G [.ref xo, .int 1, .int o, .int xv] f (fun v f1 => False) (fun E f1 => E = eI ∧ CXW G f1 xo ez eo bu nw0 na0 nq0 nr0 nw1 na1 nq1 nr1 bs bp bh bf bl bg S0 S1 gw0 ga0 gw1 ga1 n a cg x sa pk fl gv gh gl ∧ hKn [xo, ez, eo, bu, nw0, na0, nq0, nr0, nw1, na1, nq1, nr1, bs, bp, bh, bf, bl, bg] f f1) := by
  refine hp_start hl (own := RX4) (by decide) rfl (Nat.le_of_ble_eq_true rfl) ?_
  intro p e s m args below meth c B0 hr hnm hout hw hS ls hl9
  have hx := B0.1
  have hb := B0.2.1
  have hl9 : lv_has ls 5 [(0, .ref xo), (1, .int 1), (2, .int o), (3, .int xv)] := hl9
  obtain ⟨Q0, Q1, hq⟩ := id hC
  have h1 : f xo = some (.inr (4, [.ref ez, .ref eo, .ref bu])) := hq.1
  have h2 : f ez = some (.inr (1, [.ref nw0, .ref na0, .ref nq0, .ref nr0, .int (num S0.2.2.2.2.2.2.1), .int S0.1, .int S0.2.2.2.1, .int S0.2.2.1, .int S0.2.1, .int S0.2.2.2.2.1, .int S0.2.2.2.2.2.1])) := (hq.2.1).1
  have h3 : f eo = some (.inr (1, [.ref nw1, .ref na1, .ref nq1, .ref nr1, .int (num S1.2.2.2.2.2.2.1), .int S1.1, .int S1.2.2.2.1, .int S1.2.2.1, .int S1.2.1, .int S1.2.2.2.2.1, .int S1.2.2.2.2.2.1])) := (hq.2.2.1).1
  refine lv_aload_n hx hb dX4_wish_0 rfl (lv_at hl9 0 rfl) ?_
  refine lv_iload_n hx hb dX4_wish_1 rfl (lv_at hl9 1 rfl) ?_
  refine hp_V (ci := 4) (As := [.int 1]) (rest := []) B0 hw hS (c_X4_endAt hl G f xo ez eo bu h1 1) mV_X4_endAt qM_X4_28 rfl h1 rfl rfl hl9.1 (Nat.le_of_ble_eq_true rfl) ⟨⟨Nat.le_of_ble_eq_true rfl, Nat.le_of_ble_eq_true rfl⟩, Nat.le_of_ble_eq_true rfl, Nat.le_of_ble_eq_true rfl⟩ dX4_wish_2 (fun E ce q9 f4 H locs hPX hw hS hce hcv hcl => ?_) (fun v f4 H locs hP hw hS => ?_)
  · obtain ⟨ef9, eE9, hE9⟩ := hPX
    rw [ef9] at hw
    exact absurd (Or.inr rfl) hE9
  · obtain ⟨ef9, hv9⟩ := hP
    rw [ef9] at hw
    rcases hv9 with ⟨k9, ev9⟩ | ⟨k9, ev9⟩
    exact absurd k9 (by decide)
    subst ev9
    refine W.eq (g2 := F0 m 5 ls [.ref eo]) rfl ?_
    refine lv_astore (lv' := [(4, .ref eo), (0, .ref xo), (1, .int 1), (2, .int o), (3, .int xv)]) hx hb dX4_wish_5 hl9 (by decide) rfl (fun ls hl9 => ?_)
    refine lv_iload_n hx hb dX4_wish_7 rfl (lv_at hl9 3 rfl) ?_
    refine hp_S (As := [.int o]) (rest := []) B0 hw hS (c_X4_refuseNoOption hl G f o) mS_X4_refuseNoOption qM_X4_32 rfl rfl hl9.1 (Nat.le_of_ble_eq_true rfl) ⟨⟨Nat.le_of_ble_eq_true rfl, Nat.le_of_ble_eq_true rfl⟩, Nat.le_of_ble_eq_true rfl, Nat.le_of_ble_eq_true rfl⟩ dX4_wish_8 (fun E ce q9 f5 H locs hPX hw hS hce hcv hcl => ?_) (fun v f5 H locs hP hw hS => ?_)
    · obtain ⟨ef9, eE9, hE9⟩ := hPX
      rw [ef9] at hw
      subst eE9
      exact hp_out B0 hw hS hout hce hcv hcl ⟨Nat.le_of_ble_eq_true rfl, Nat.le_of_ble_eq_true rfl⟩ (⟨rfl, ⟨_, _, hq⟩, hKn.rf⟩)
    · obtain ⟨ef9, ev9, ho9⟩ := hP
      rw [ef9] at hw
      exact absurd ho9 ho

set_option maxHeartbeats 4000000 in
set_option maxRecDepth 100000 in
theorem c_P_wish_V1 {l : Launch} (hl : l.stackTraces = false) (G : hG) (f : hM) (xo ez eo bu nw0 na0 nq0 nr0 nw1 na1 nq1 nr1 bs bp bh bf bl bg : Nat) (S0 : ES) (S1 : ES) (gw0 : Nat → Int32) (ga0 : Nat → Int32) (gw1 : Nat → Int32) (ga1 : Nat → Int32) (n : Nat) (a : Nat) (cg : Nat) (x : Nat) (sa : Nat → Nat) (pk : Nat → Nat) (fl : Nat → Nat) (gv : Nat → Nat) (gh : Nat → Int32) (gl : Nat → Int32) (hC : CXW G f xo ez eo bu nw0 na0 nq0 nr0 nw1 na1 nq1 nr1 bs bp bh bf bl bg S0 S1 gw0 ga0 gw1 ga1 n a cg x sa pk fl gv gh gl) (hL0 : S0.2.2.2.2.2.2.2.2.length < 3000) (hL1 : S1.2.2.2.2.2.2.2.2.length < 3000) (j : Nat) (hj : j < 6) (xv : Int32) (hv : ¬ (-1 ≤ xv.toInt ∧ xv.toInt ≤ 9)) : CT l yX4_wish (.code yX4_wish cX4_wish 5 (some .int)) 7 103 3 18 G [.ref xo, .int 1, .int (nI j), .int xv] f (fun v f1 => False) (fun E f1 => E = eA ∧ CXW G f1 xo ez eo bu nw0 na0 nq0 nr0 nw1 na1 nq1 nr1 bs bp bh bf bl bg S0 S1 gw0 ga0 gw1 ga1 n a cg x sa pk fl gv gh gl ∧ hKn [xo, ez, eo, bu, nw0, na0, nq0, nr0, nw1, na1, nq1, nr1, bs, bp, bh, bf, bl, bg] f f1) := by
  refine hp_start hl (own := RX4) (by decide) rfl (Nat.le_of_ble_eq_true rfl) ?_
  intro p e s m args below meth c B0 hr hnm hout hw hS ls hl9
  have hx := B0.1
  have hb := B0.2.1
  have hl9 : lv_has ls 5 [(0, .ref xo), (1, .int 1), (2, .int (nI j)), (3, .int xv)] := hl9
  obtain ⟨Q0, Q1, hq⟩ := id hC
  have h1 : f xo = some (.inr (4, [.ref ez, .ref eo, .ref bu])) := hq.1
  have h2 : f ez = some (.inr (1, [.ref nw0, .ref na0, .ref nq0, .ref nr0, .int (num S0.2.2.2.2.2.2.1), .int S0.1, .int S0.2.2.2.1, .int S0.2.2.1, .int S0.2.1, .int S0.2.2.2.2.1, .int S0.2.2.2.2.2.1])) := (hq.2.1).1
  have h3 : f eo = some (.inr (1, [.ref nw1, .ref na1, .ref nq1, .ref nr1, .int (num S1.2.2.2.2.2.2.1), .int S1.1, .int S1.2.2.2.1, .int S1.2.2.1, .int S1.2.1, .int S1.2.2.2.2.1, .int S1.2.2.2.2.2.1])) := (hq.2.2.1).1
  have ho := (show sO (nI j) from ⟨by rw [nI_toInt (by omega)]; omega, by rw [nI_toInt (by omega)]; omega⟩)
  refine lv_aload_n hx hb dX4_wish_0 rfl (lv_at hl9 0 rfl) ?_
  refine lv_iload_n hx hb dX4_wish_1 rfl (lv_at hl9 1 rfl) ?_
  refine hp_V (ci := 4) (As := [.int 1]) (rest := []) B0 hw hS (c_X4_endAt hl G f xo ez eo bu h1 1) mV_X4_endAt qM_X4_28 rfl h1 rfl rfl hl9.1 (Nat.le_of_ble_eq_true rfl) ⟨⟨Nat.le_of_ble_eq_true rfl, Nat.le_of_ble_eq_true rfl⟩, Nat.le_of_ble_eq_true rfl, Nat.le_of_ble_eq_true rfl⟩ dX4_wish_2 (fun E ce q9 f4 H locs hPX hw hS hce hcv hcl => ?_) (fun v f4 H locs hP hw hS => ?_)
  · obtain ⟨ef9, eE9, hE9⟩ := hPX
    rw [ef9] at hw
    exact absurd (Or.inr rfl) hE9
  · obtain ⟨ef9, hv9⟩ := hP
    rw [ef9] at hw
    rcases hv9 with ⟨k9, ev9⟩ | ⟨k9, ev9⟩
    exact absurd k9 (by decide)
    subst ev9
    refine W.eq (g2 := F0 m 5 ls [.ref eo]) rfl ?_
    refine lv_astore (lv' := [(4, .ref eo), (0, .ref xo), (1, .int 1), (2, .int (nI j)), (3, .int xv)]) hx hb dX4_wish_5 hl9 (by decide) rfl (fun ls hl9 => ?_)
    refine lv_iload_n hx hb dX4_wish_7 rfl (lv_at hl9 3 rfl) ?_
    refine hp_S (As := [.int (nI j)]) (rest := []) B0 hw hS (c_X4_refuseNoOption hl G f (nI j)) mS_X4_refuseNoOption qM_X4_32 rfl rfl hl9.1 (Nat.le_of_ble_eq_true rfl) ⟨⟨Nat.le_of_ble_eq_true rfl, Nat.le_of_ble_eq_true rfl⟩, Nat.le_of_ble_eq_true rfl, Nat.le_of_ble_eq_true rfl⟩ dX4_wish_8 (fun E ce q9 f5 H locs hPX hw hS hce hcv hcl => ?_) (fun v f5 H locs hP hw hS => ?_)
    · obtain ⟨ef9, eE9, hE9⟩ := hPX
      rw [ef9] at hw
      exact absurd ho hE9
    · obtain ⟨ef9, ev9, ho9⟩ := hP
      rw [ef9] at hw
      subst ev9
      refine W.eq (g2 := F0 m 11 ls []) rfl ?_
      refine lv_iload_n hx hb dX4_wish_11 rfl (lv_at hl9 4 rfl) ?_
      refine lv_iconst (v := (-1)) hx hb dX4_wish_12 (by decide) ?_
      refine lv_icmp_lt (tgt := 22) hx hb dX4_wish_13 (by decide) (fun c6 => ?_) (fun c6 => ?_)
      · exact hp_throw (cls := eA) (names := tNm) B0 hw hS hout tF_eA qC_X4_35 qN_java_lang_IllegalArgumentException sR_X4_37 tA_eA tB_eA tG_eA hl9.1 dX4_wish_22 dX4_wish_25 dX4_wish_26 dX4_wish_28 dX4_wish_31 ⟨⟨Nat.le_of_ble_eq_true rfl, Nat.le_of_ble_eq_true rfl⟩, Nat.le_of_ble_eq_true rfl, Nat.le_of_ble_eq_true rfl⟩ ⟨Nat.le_of_ble_eq_true rfl, Nat.le_of_ble_eq_true rfl⟩ (⟨rfl, ⟨_, _, hq⟩, hKn.rf⟩)
      · refine lv_iload_n hx hb dX4_wish_16 rfl (lv_at hl9 4 rfl) ?_
        refine lv_bipush (v := 9) hx hb dX4_wish_17 (by decide) ?_
        refine lv_icmp_le (tgt := 32) hx hb dX4_wish_19 (by decide) (fun c9 => absurd c9 (fun h9 => hv (by have h1 := c6; have h2 := h9; simp only [jlt, jle, tq0, tq1, tq3, tq4, tq6, tq9, tq50, tq60, tq1023, tqm1] at h1 h2; exact ⟨by omega, by omega⟩))) (fun _ => ?_)
        exact hp_throw (cls := eA) (names := tNm) B0 hw hS hout tF_eA qC_X4_35 qN_java_lang_IllegalArgumentException sR_X4_37 tA_eA tB_eA tG_eA hl9.1 dX4_wish_22 dX4_wish_25 dX4_wish_26 dX4_wish_28 dX4_wish_31 ⟨⟨Nat.le_of_ble_eq_true rfl, Nat.le_of_ble_eq_true rfl⟩, Nat.le_of_ble_eq_true rfl, Nat.le_of_ble_eq_true rfl⟩ ⟨Nat.le_of_ble_eq_true rfl, Nat.le_of_ble_eq_true rfl⟩ (⟨rfl, ⟨_, _, hq⟩, hKn.rf⟩)

set_option maxHeartbeats 4000000 in
set_option maxRecDepth 100000 in
theorem c_P_wish_E {l : Launch} (hl : l.stackTraces = false) (G : hG) (f : hM) (xo ez eo bu nw0 na0 nq0 nr0 nw1 na1 nq1 nr1 bs bp bh bf bl bg : Nat) (S0 : ES) (S1 : ES) (gw0 : Nat → Int32) (ga0 : Nat → Int32) (gw1 : Nat → Int32) (ga1 : Nat → Int32) (n : Nat) (a : Nat) (cg : Nat) (x : Nat) (sa : Nat → Nat) (pk : Nat → Nat) (fl : Nat → Nat) (gv : Nat → Nat) (gh : Nat → Int32) (gl : Nat → Int32) (hC : CXW G f xo ez eo bu nw0 na0 nq0 nr0 nw1 na1 nq1 nr1 bs bp bh bf bl bg S0 S1 gw0 ga0 gw1 ga1 n a cg x sa pk fl gv gh gl) (hL0 : S0.2.2.2.2.2.2.2.2.length < 3000) (hL1 : S1.2.2.2.2.2.2.2.2.length < 3000) (i o xv : Int32) (hi : ¬ sE i) : CT l yX4_wish (.code yX4_wish cX4_wish 5 (some .int)) 7 103 1 6 G [.ref xo, .int i, .int o, .int xv] f (fun v f1 => False) (fun E f1 => E = eI ∧ CXW G f1 xo ez eo bu nw0 na0 nq0 nr0 nw1 na1 nq1 nr1 bs bp bh bf bl bg S0 S1 gw0 ga0 gw1 ga1 n a cg x sa pk fl gv gh gl ∧ hKn [xo, ez, eo, bu, nw0, na0, nq0, nr0, nw1, na1, nq1, nr1, bs, bp, bh, bf, bl, bg] f f1) := by
  refine hp_start hl (own := RX4) (by decide) rfl (Nat.le_of_ble_eq_true rfl) ?_
  intro p e s m args below meth c B0 hr hnm hout hw hS ls hl9
  have hx := B0.1
  have hb := B0.2.1
  have hl9 : lv_has ls 5 [(0, .ref xo), (1, .int i), (2, .int o), (3, .int xv)] := hl9
  obtain ⟨Q0, Q1, hq⟩ := id hC
  have h1 : f xo = some (.inr (4, [.ref ez, .ref eo, .ref bu])) := hq.1
  have h2 : f ez = some (.inr (1, [.ref nw0, .ref na0, .ref nq0, .ref nr0, .int (num S0.2.2.2.2.2.2.1), .int S0.1, .int S0.2.2.2.1, .int S0.2.2.1, .int S0.2.1, .int S0.2.2.2.2.1, .int S0.2.2.2.2.2.1])) := (hq.2.1).1
  have h3 : f eo = some (.inr (1, [.ref nw1, .ref na1, .ref nq1, .ref nr1, .int (num S1.2.2.2.2.2.2.1), .int S1.1, .int S1.2.2.2.1, .int S1.2.2.1, .int S1.2.1, .int S1.2.2.2.2.1, .int S1.2.2.2.2.2.1])) := (hq.2.2.1).1
  refine lv_aload_n hx hb dX4_wish_0 rfl (lv_at hl9 0 rfl) ?_
  refine lv_iload_n hx hb dX4_wish_1 rfl (lv_at hl9 1 rfl) ?_
  refine hp_V (ci := 4) (As := [.int i]) (rest := []) B0 hw hS (c_X4_endAt hl G f xo ez eo bu h1 i) mV_X4_endAt qM_X4_28 rfl h1 rfl rfl hl9.1 (Nat.le_of_ble_eq_true rfl) ⟨⟨Nat.le_of_ble_eq_true rfl, Nat.le_of_ble_eq_true rfl⟩, Nat.le_of_ble_eq_true rfl, Nat.le_of_ble_eq_true rfl⟩ dX4_wish_2 (fun E ce q9 f4 H locs hPX hw hS hce hcv hcl => ?_) (fun v f4 H locs hP hw hS => ?_)
  · obtain ⟨ef9, eE9, hE9⟩ := hPX
    rw [ef9] at hw
    subst eE9
    exact hp_out B0 hw hS hout hce hcv hcl ⟨Nat.le_of_ble_eq_true rfl, Nat.le_of_ble_eq_true rfl⟩ (⟨rfl, ⟨_, _, hq⟩, hKn.rf⟩)
  · obtain ⟨ef9, hv9⟩ := hP
    rw [ef9] at hw
    exact absurd (hv9.imp And.left And.left) hi

set_option maxHeartbeats 4000000 in
set_option maxRecDepth 100000 in
theorem c_P_allow_0 {l : Launch} (hl : l.stackTraces = false) (G : hG) (f : hM) (xo ez eo bu nw0 na0 nq0 nr0 nw1 na1 nq1 nr1 bs bp bh bf bl bg : Nat) (S0 : ES) (S1 : ES) (gw0 : Nat → Int32) (ga0 : Nat → Int32) (gw1 : Nat → Int32) (ga1 : Nat → Int32) (n : Nat) (a : Nat) (cg : Nat) (x : Nat) (sa : Nat → Nat) (pk : Nat → Nat) (fl : Nat → Nat) (gv : Nat → Nat) (gh : Nat → Int32) (gl : Nat → Int32) (hC : CXW G f xo ez eo bu nw0 na0 nq0 nr0 nw1 na1 nq1 nr1 bs bp bh bf bl bg S0 S1 gw0 ga0 gw1 ga1 n a cg x sa pk fl gv gh gl) (hL0 : S0.2.2.2.2.2.2.2.2.length < 3000) (hL1 : S1.2.2.2.2.2.2.2.2.length < 3000) (j : Nat) (hj : j < 6) (xv : Int32) (hv : 0 ≤ xv.toInt ∧ xv.toInt ≤ 1023) : CT l yX4_allow (.code yX4_allow cX4_allow 5 (some .int)) 7 103 2 12 G [.ref xo, .int 0, .int (nI j), .int xv] f (fun v f1 => v = some (.int (ga0 j)) ∧ CXW G f1 xo ez eo bu nw0 na0 nq0 nr0 nw1 na1 nq1 nr1 bs bp bh bf bl bg S0 S1 gw0 (upd ga0 j xv) gw1 ga1 n a cg x sa pk fl gv gh gl ∧ hKn [xo, ez, eo, bu, nw0, na0, nq0, nr0, nw1, na1, nq1, nr1, bs, bp, bh, bf, bl, bg] f f1) (fun E f1 => False) := by
  refine hp_start hl (own := RX4) (by decide) rfl (Nat.le_of_ble_eq_true rfl) ?_
  intro p e s m args below meth c B0 hr hnm hout hw hS ls hl9
  have hx := B0.1
  have hb := B0.2.1
  have hl9 : lv_has ls 5 [(0, .ref xo), (1, .int 0), (2, .int (nI j)), (3, .int xv)] := hl9
  obtain ⟨Q0, Q1, hq⟩ := id hC
  have h1 : f xo = some (.inr (4, [.ref ez, .ref eo, .ref bu])) := hq.1
  have h2 : f ez = some (.inr (1, [.ref nw0, .ref na0, .ref nq0, .ref nr0, .int (num S0.2.2.2.2.2.2.1), .int S0.1, .int S0.2.2.2.1, .int S0.2.2.1, .int S0.2.1, .int S0.2.2.2.2.1, .int S0.2.2.2.2.2.1])) := (hq.2.1).1
  have h3 : f eo = some (.inr (1, [.ref nw1, .ref na1, .ref nq1, .ref nr1, .int (num S1.2.2.2.2.2.2.1), .int S1.1, .int S1.2.2.2.1, .int S1.2.2.1, .int S1.2.1, .int S1.2.2.2.2.1, .int S1.2.2.2.2.2.1])) := (hq.2.2.1).1
  have ho := (show sO (nI j) from ⟨by rw [nI_toInt (by omega)]; omega, by rw [nI_toInt (by omega)]; omega⟩)
  refine lv_aload_n hx hb dX4_allow_0 rfl (lv_at hl9 0 rfl) ?_
  refine lv_iload_n hx hb dX4_allow_1 rfl (lv_at hl9 1 rfl) ?_
  refine hp_V (ci := 4) (As := [.int 0]) (rest := []) B0 hw hS (c_X4_endAt hl G f xo ez eo bu h1 0) mV_X4_endAt qM_X4_28 rfl h1 rfl rfl hl9.1 (Nat.le_of_ble_eq_true rfl) ⟨⟨Nat.le_of_ble_eq_true rfl, Nat.le_of_ble_eq_true rfl⟩, Nat.le_of_ble_eq_true rfl, Nat.le_of_ble_eq_true rfl⟩ dX4_allow_2 (fun E ce q9 f4 H locs hPX hw hS hce hcv hcl => ?_) (fun v f4 H locs hP hw hS => ?_)
  · obtain ⟨ef9, eE9, hE9⟩ := hPX
    rw [ef9] at hw
    exact absurd (Or.inl rfl) hE9
  · obtain ⟨ef9, hv9⟩ := hP
    rw [ef9] at hw
    rcases hv9 with ⟨k9, ev9⟩ | ⟨k9, ev9⟩
    rotate_left
    exact absurd k9 (by decide)
    subst ev9
    refine W.eq (g2 := F0 m 5 ls [.ref ez]) rfl ?_
    refine lv_astore (lv' := [(4, .ref ez), (0, .ref xo), (1, .int 0), (2, .int (nI j)), (3, .int xv)]) hx hb dX4_allow_5 hl9 (by decide) rfl (fun ls hl9 => ?_)
    refine lv_iload_n hx hb dX4_allow_7 rfl (lv_at hl9 3 rfl) ?_
    refine hp_S (As := [.int (nI j)]) (rest := []) B0 hw hS (c_X4_refuseNoOption hl G f (nI j)) mS_X4_refuseNoOption qM_X4_32 rfl rfl hl9.1 (Nat.le_of_ble_eq_true rfl) ⟨⟨Nat.le_of_ble_eq_true rfl, Nat.le_of_ble_eq_true rfl⟩, Nat.le_of_ble_eq_true rfl, Nat.le_of_ble_eq_true rfl⟩ dX4_allow_8 (fun E ce q9 f5 H locs hPX hw hS hce hcv hcl => ?_) (fun v f5 H locs hP hw hS => ?_)
    · obtain ⟨ef9, eE9, hE9⟩ := hPX
      rw [ef9] at hw
      exact absurd ho hE9
    · obtain ⟨ef9, ev9, ho9⟩ := hP
      rw [ef9] at hw
      subst ev9
      refine W.eq (g2 := F0 m 11 ls []) rfl ?_
      refine lv_iload_n hx hb dX4_allow_11 rfl (lv_at hl9 4 rfl) ?_
      refine lv_if_lt (tgt := 22) hx hb dX4_allow_12 (by decide) (fun c9 => absurd c9 (by simp only [jlt, jle, tq0, tq1, tq3, tq4, tq6, tq9, tq50, tq60, tq1023, tqm1]; omega)) (fun _ => ?_)
      refine lv_iload_n hx hb dX4_allow_15 rfl (lv_at hl9 4 rfl) ?_
      refine lv_sipush (v := 1023) hx hb dX4_allow_16 (by decide) ?_
      refine lv_icmp_le (tgt := 32) hx hb dX4_allow_19 (by decide) (fun _ => ?_) (fun c9 => absurd (by simp only [jlt, jle, tq0, tq1, tq3, tq4, tq6, tq9, tq50, tq60, tq1023, tqm1]; omega) c9)
      refine lv_aload hx hb dX4_allow_32 (lv_at hl9 0 rfl) ?_
      refine lv_iload_n hx hb dX4_allow_34 rfl (lv_at hl9 3 rfl) ?_
      refine lv_iload_n hx hb dX4_allow_35 rfl (lv_at hl9 4 rfl) ?_
      have h6 : f na0 = some (.inl (cI G, 6, .inl ga0)) := hq.2.2.2.2.1
      refine hp_V (ci := 1) (As := [.int (nI j), .int xv]) (rest := []) B0 hw hS (c_X1_changeAllowed hl G f ez nw0 na0 nq0 nr0 (num S0.2.2.2.2.2.2.1) S0.1 S0.2.2.2.1 S0.2.2.1 S0.2.1 S0.2.2.2.2.1 S0.2.2.2.2.2.1 h2 ga0 h6 (nI j) xv (show sO (nI j) from ⟨by rw [nI_toInt (by omega)]; omega, by rw [nI_toInt (by omega)]; omega⟩)) mV_X1_changeAllowed qM_X4_48 rfl h2 rfl rfl hl9.1 (Nat.le_of_ble_eq_true rfl) ⟨⟨Nat.le_of_ble_eq_true rfl, Nat.le_of_ble_eq_true rfl⟩, Nat.le_of_ble_eq_true rfl, Nat.le_of_ble_eq_true rfl⟩ dX4_allow_36 (fun E ce q9 f7 H locs hPX hw hS hce hcv hcl => ?_) (fun v f7 H locs hP hw hS => ?_)
      · exact hPX.elim
      · obtain ⟨ho9, ev9, e8, -⟩ := hP
        rw [show (nI j).toNatClampNeg = j from nI_clamp (by omega)] at ev9 e8
        subst ev9
        have h12 : f7 na0 = some (.inl (cI G, 6, .inl (upd ga0 j xv))) := by rw [e8, va_up_self]
        have hq11 : CXQ G f7 xo ez eo bu nw0 na0 nq0 nr0 nw1 na1 nq1 nr1 bs bp bh bf bl bg Q0 Q1 S0 S1 gw0 (upd ga0 j xv) gw1 ga1 n a cg x sa pk fl gv gh gl := CXQ.a0 hq (show hK2 [na0] [] f f7 from (by rw [e8]; exact hK2.up List.mem_cons_self)) h12 (hq.2.2.2.2.2.2.2.2.2.2.2.2.2.2.1) (hq.2.2.2.2.2.2.2.2.2.2.2.2.2.2.2.1)
        have h13 : f7 xo = some (.inr (4, [.ref ez, .ref eo, .ref bu])) := hq11.1
        have h14 : f7 ez = some (.inr (1, [.ref nw0, .ref na0, .ref nq0, .ref nr0, .int (num S0.2.2.2.2.2.2.1), .int S0.1, .int S0.2.2.2.1, .int S0.2.2.1, .int S0.2.1, .int S0.2.2.2.2.1, .int S0.2.2.2.2.2.1])) := (hq11.2.1).1
        have h15 : f7 eo = some (.inr (1, [.ref nw1, .ref na1, .ref nq1, .ref nr1, .int (num S1.2.2.2.2.2.2.1), .int S1.1, .int S1.2.2.2.1, .int S1.2.2.1, .int S1.2.1, .int S1.2.2.2.2.1, .int S1.2.2.2.2.2.1])) := (hq11.2.2.1).1
        refine W.eq (g2 := F0 m 39 ls [.int (ga0 j)]) rfl ?_
        exact hp_iret (v := (ga0 j)) B0 hw hS hr ⟨Nat.le_of_ble_eq_true rfl, Nat.le_of_ble_eq_true rfl⟩ dX4_allow_39 (⟨rfl, ⟨_, _, hq11⟩, (show hKn [xo, ez, eo, bu, nw0, na0, nq0, nr0, nw1, na1, nq1, nr1, bs, bp, bh, bf, bl, bg] f f7 from (by rw [e8]; exact hKn.up (List.mem_cons_of_mem _ (List.mem_cons_of_mem _ (List.mem_cons_of_mem _ (List.mem_cons_of_mem _ (List.mem_cons_of_mem _ List.mem_cons_self)))))))⟩)

set_option maxHeartbeats 4000000 in
set_option maxRecDepth 100000 in
theorem c_P_allow_O0 {l : Launch} (hl : l.stackTraces = false) (G : hG) (f : hM) (xo ez eo bu nw0 na0 nq0 nr0 nw1 na1 nq1 nr1 bs bp bh bf bl bg : Nat) (S0 : ES) (S1 : ES) (gw0 : Nat → Int32) (ga0 : Nat → Int32) (gw1 : Nat → Int32) (ga1 : Nat → Int32) (n : Nat) (a : Nat) (cg : Nat) (x : Nat) (sa : Nat → Nat) (pk : Nat → Nat) (fl : Nat → Nat) (gv : Nat → Nat) (gh : Nat → Int32) (gl : Nat → Int32) (hC : CXW G f xo ez eo bu nw0 na0 nq0 nr0 nw1 na1 nq1 nr1 bs bp bh bf bl bg S0 S1 gw0 ga0 gw1 ga1 n a cg x sa pk fl gv gh gl) (hL0 : S0.2.2.2.2.2.2.2.2.length < 3000) (hL1 : S1.2.2.2.2.2.2.2.2.length < 3000) (o xv : Int32) (ho : ¬ sO o) : CT l yX4_allow (.code yX4_allow cX4_allow 5 (some .int)) 7 103 2 12 G [.ref xo, .int 0, .int o, .int xv] f (fun v f1 => False) (fun E f1 => E = eI ∧ CXW G f1 xo ez eo bu nw0 na0 nq0 nr0 nw1 na1 nq1 nr1 bs bp bh bf bl bg S0 S1 gw0 ga0 gw1 ga1 n a cg x sa pk fl gv gh gl ∧ hKn [xo, ez, eo, bu, nw0, na0, nq0, nr0, nw1, na1, nq1, nr1, bs, bp, bh, bf, bl, bg] f f1) := by
  refine hp_start hl (own := RX4) (by decide) rfl (Nat.le_of_ble_eq_true rfl) ?_
  intro p e s m args below meth c B0 hr hnm hout hw hS ls hl9
  have hx := B0.1
  have hb := B0.2.1
  have hl9 : lv_has ls 5 [(0, .ref xo), (1, .int 0), (2, .int o), (3, .int xv)] := hl9
  obtain ⟨Q0, Q1, hq⟩ := id hC
  have h1 : f xo = some (.inr (4, [.ref ez, .ref eo, .ref bu])) := hq.1
  have h2 : f ez = some (.inr (1, [.ref nw0, .ref na0, .ref nq0, .ref nr0, .int (num S0.2.2.2.2.2.2.1), .int S0.1, .int S0.2.2.2.1, .int S0.2.2.1, .int S0.2.1, .int S0.2.2.2.2.1, .int S0.2.2.2.2.2.1])) := (hq.2.1).1
  have h3 : f eo = some (.inr (1, [.ref nw1, .ref na1, .ref nq1, .ref nr1, .int (num S1.2.2.2.2.2.2.1), .int S1.1, .int S1.2.2.2.1, .int S1.2.2.1, .int S1.2.1, .int S1.2.2.2.2.1, .int S1.2.2.2.2.2.1])) := (hq.2.2.1).1
  refine lv_aload_n hx hb dX4_allow_0 rfl (lv_at hl9 0 rfl) ?_
  refine lv_iload_n hx hb dX4_allow_1 rfl (lv_at hl9 1 rfl) ?_
  refine hp_V (ci := 4) (As := [.int 0]) (rest := []) B0 hw hS (c_X4_endAt hl G f xo ez eo bu h1 0) mV_X4_endAt qM_X4_28 rfl h1 rfl rfl hl9.1 (Nat.le_of_ble_eq_true rfl) ⟨⟨Nat.le_of_ble_eq_true rfl, Nat.le_of_ble_eq_true rfl⟩, Nat.le_of_ble_eq_true rfl, Nat.le_of_ble_eq_true rfl⟩ dX4_allow_2 (fun E ce q9 f4 H locs hPX hw hS hce hcv hcl => ?_) (fun v f4 H locs hP hw hS => ?_)
  · obtain ⟨ef9, eE9, hE9⟩ := hPX
    rw [ef9] at hw
    exact absurd (Or.inl rfl) hE9
  · obtain ⟨ef9, hv9⟩ := hP
    rw [ef9] at hw
    rcases hv9 with ⟨k9, ev9⟩ | ⟨k9, ev9⟩
    rotate_left
    exact absurd k9 (by decide)
    subst ev9
    refine W.eq (g2 := F0 m 5 ls [.ref ez]) rfl ?_
    refine lv_astore (lv' := [(4, .ref ez), (0, .ref xo), (1, .int 0), (2, .int o), (3, .int xv)]) hx hb dX4_allow_5 hl9 (by decide) rfl (fun ls hl9 => ?_)
    refine lv_iload_n hx hb dX4_allow_7 rfl (lv_at hl9 3 rfl) ?_
    refine hp_S (As := [.int o]) (rest := []) B0 hw hS (c_X4_refuseNoOption hl G f o) mS_X4_refuseNoOption qM_X4_32 rfl rfl hl9.1 (Nat.le_of_ble_eq_true rfl) ⟨⟨Nat.le_of_ble_eq_true rfl, Nat.le_of_ble_eq_true rfl⟩, Nat.le_of_ble_eq_true rfl, Nat.le_of_ble_eq_true rfl⟩ dX4_allow_8 (fun E ce q9 f5 H locs hPX hw hS hce hcv hcl => ?_) (fun v f5 H locs hP hw hS => ?_)
    · obtain ⟨ef9, eE9, hE9⟩ := hPX
      rw [ef9] at hw
      subst eE9
      exact hp_out B0 hw hS hout hce hcv hcl ⟨Nat.le_of_ble_eq_true rfl, Nat.le_of_ble_eq_true rfl⟩ (⟨rfl, ⟨_, _, hq⟩, hKn.rf⟩)
    · obtain ⟨ef9, ev9, ho9⟩ := hP
      rw [ef9] at hw
      exact absurd ho9 ho

set_option maxHeartbeats 4000000 in
set_option maxRecDepth 100000 in
theorem c_P_allow_V0 {l : Launch} (hl : l.stackTraces = false) (G : hG) (f : hM) (xo ez eo bu nw0 na0 nq0 nr0 nw1 na1 nq1 nr1 bs bp bh bf bl bg : Nat) (S0 : ES) (S1 : ES) (gw0 : Nat → Int32) (ga0 : Nat → Int32) (gw1 : Nat → Int32) (ga1 : Nat → Int32) (n : Nat) (a : Nat) (cg : Nat) (x : Nat) (sa : Nat → Nat) (pk : Nat → Nat) (fl : Nat → Nat) (gv : Nat → Nat) (gh : Nat → Int32) (gl : Nat → Int32) (hC : CXW G f xo ez eo bu nw0 na0 nq0 nr0 nw1 na1 nq1 nr1 bs bp bh bf bl bg S0 S1 gw0 ga0 gw1 ga1 n a cg x sa pk fl gv gh gl) (hL0 : S0.2.2.2.2.2.2.2.2.length < 3000) (hL1 : S1.2.2.2.2.2.2.2.2.length < 3000) (j : Nat) (hj : j < 6) (xv : Int32) (hv : ¬ (0 ≤ xv.toInt ∧ xv.toInt ≤ 1023)) : CT l yX4_allow (.code yX4_allow cX4_allow 5 (some .int)) 7 103 3 18 G [.ref xo, .int 0, .int (nI j), .int xv] f (fun v f1 => False) (fun E f1 => E = eA ∧ CXW G f1 xo ez eo bu nw0 na0 nq0 nr0 nw1 na1 nq1 nr1 bs bp bh bf bl bg S0 S1 gw0 ga0 gw1 ga1 n a cg x sa pk fl gv gh gl ∧ hKn [xo, ez, eo, bu, nw0, na0, nq0, nr0, nw1, na1, nq1, nr1, bs, bp, bh, bf, bl, bg] f f1) := by
  refine hp_start hl (own := RX4) (by decide) rfl (Nat.le_of_ble_eq_true rfl) ?_
  intro p e s m args below meth c B0 hr hnm hout hw hS ls hl9
  have hx := B0.1
  have hb := B0.2.1
  have hl9 : lv_has ls 5 [(0, .ref xo), (1, .int 0), (2, .int (nI j)), (3, .int xv)] := hl9
  obtain ⟨Q0, Q1, hq⟩ := id hC
  have h1 : f xo = some (.inr (4, [.ref ez, .ref eo, .ref bu])) := hq.1
  have h2 : f ez = some (.inr (1, [.ref nw0, .ref na0, .ref nq0, .ref nr0, .int (num S0.2.2.2.2.2.2.1), .int S0.1, .int S0.2.2.2.1, .int S0.2.2.1, .int S0.2.1, .int S0.2.2.2.2.1, .int S0.2.2.2.2.2.1])) := (hq.2.1).1
  have h3 : f eo = some (.inr (1, [.ref nw1, .ref na1, .ref nq1, .ref nr1, .int (num S1.2.2.2.2.2.2.1), .int S1.1, .int S1.2.2.2.1, .int S1.2.2.1, .int S1.2.1, .int S1.2.2.2.2.1, .int S1.2.2.2.2.2.1])) := (hq.2.2.1).1
  have ho := (show sO (nI j) from ⟨by rw [nI_toInt (by omega)]; omega, by rw [nI_toInt (by omega)]; omega⟩)
  refine lv_aload_n hx hb dX4_allow_0 rfl (lv_at hl9 0 rfl) ?_
  refine lv_iload_n hx hb dX4_allow_1 rfl (lv_at hl9 1 rfl) ?_
  refine hp_V (ci := 4) (As := [.int 0]) (rest := []) B0 hw hS (c_X4_endAt hl G f xo ez eo bu h1 0) mV_X4_endAt qM_X4_28 rfl h1 rfl rfl hl9.1 (Nat.le_of_ble_eq_true rfl) ⟨⟨Nat.le_of_ble_eq_true rfl, Nat.le_of_ble_eq_true rfl⟩, Nat.le_of_ble_eq_true rfl, Nat.le_of_ble_eq_true rfl⟩ dX4_allow_2 (fun E ce q9 f4 H locs hPX hw hS hce hcv hcl => ?_) (fun v f4 H locs hP hw hS => ?_)
  · obtain ⟨ef9, eE9, hE9⟩ := hPX
    rw [ef9] at hw
    exact absurd (Or.inl rfl) hE9
  · obtain ⟨ef9, hv9⟩ := hP
    rw [ef9] at hw
    rcases hv9 with ⟨k9, ev9⟩ | ⟨k9, ev9⟩
    rotate_left
    exact absurd k9 (by decide)
    subst ev9
    refine W.eq (g2 := F0 m 5 ls [.ref ez]) rfl ?_
    refine lv_astore (lv' := [(4, .ref ez), (0, .ref xo), (1, .int 0), (2, .int (nI j)), (3, .int xv)]) hx hb dX4_allow_5 hl9 (by decide) rfl (fun ls hl9 => ?_)
    refine lv_iload_n hx hb dX4_allow_7 rfl (lv_at hl9 3 rfl) ?_
    refine hp_S (As := [.int (nI j)]) (rest := []) B0 hw hS (c_X4_refuseNoOption hl G f (nI j)) mS_X4_refuseNoOption qM_X4_32 rfl rfl hl9.1 (Nat.le_of_ble_eq_true rfl) ⟨⟨Nat.le_of_ble_eq_true rfl, Nat.le_of_ble_eq_true rfl⟩, Nat.le_of_ble_eq_true rfl, Nat.le_of_ble_eq_true rfl⟩ dX4_allow_8 (fun E ce q9 f5 H locs hPX hw hS hce hcv hcl => ?_) (fun v f5 H locs hP hw hS => ?_)
    · obtain ⟨ef9, eE9, hE9⟩ := hPX
      rw [ef9] at hw
      exact absurd ho hE9
    · obtain ⟨ef9, ev9, ho9⟩ := hP
      rw [ef9] at hw
      subst ev9
      refine W.eq (g2 := F0 m 11 ls []) rfl ?_
      refine lv_iload_n hx hb dX4_allow_11 rfl (lv_at hl9 4 rfl) ?_
      refine lv_if_lt (tgt := 22) hx hb dX4_allow_12 (by decide) (fun c6 => ?_) (fun c6 => ?_)
      · exact hp_throw (cls := eA) (names := tNm) B0 hw hS hout tF_eA qC_X4_35 qN_java_lang_IllegalArgumentException sR_X4_46 tA_eA tB_eA tG_eA hl9.1 dX4_allow_22 dX4_allow_25 dX4_allow_26 dX4_allow_28 dX4_allow_31 ⟨⟨Nat.le_of_ble_eq_true rfl, Nat.le_of_ble_eq_true rfl⟩, Nat.le_of_ble_eq_true rfl, Nat.le_of_ble_eq_true rfl⟩ ⟨Nat.le_of_ble_eq_true rfl, Nat.le_of_ble_eq_true rfl⟩ (⟨rfl, ⟨_, _, hq⟩, hKn.rf⟩)
      · refine lv_iload_n hx hb dX4_allow_15 rfl (lv_at hl9 4 rfl) ?_
        refine lv_sipush (v := 1023) hx hb dX4_allow_16 (by decide) ?_
        refine lv_icmp_le (tgt := 32) hx hb dX4_allow_19 (by decide) (fun c9 => absurd c9 (fun h9 => hv (by have h1 := c6; have h2 := h9; simp only [jlt, jle, tq0, tq1, tq3, tq4, tq6, tq9, tq50, tq60, tq1023, tqm1] at h1 h2; exact ⟨by omega, by omega⟩))) (fun _ => ?_)
        exact hp_throw (cls := eA) (names := tNm) B0 hw hS hout tF_eA qC_X4_35 qN_java_lang_IllegalArgumentException sR_X4_46 tA_eA tB_eA tG_eA hl9.1 dX4_allow_22 dX4_allow_25 dX4_allow_26 dX4_allow_28 dX4_allow_31 ⟨⟨Nat.le_of_ble_eq_true rfl, Nat.le_of_ble_eq_true rfl⟩, Nat.le_of_ble_eq_true rfl, Nat.le_of_ble_eq_true rfl⟩ ⟨Nat.le_of_ble_eq_true rfl, Nat.le_of_ble_eq_true rfl⟩ (⟨rfl, ⟨_, _, hq⟩, hKn.rf⟩)

set_option maxHeartbeats 4000000 in
set_option maxRecDepth 100000 in
theorem c_P_allow_1 {l : Launch} (hl : l.stackTraces = false) (G : hG) (f : hM) (xo ez eo bu nw0 na0 nq0 nr0 nw1 na1 nq1 nr1 bs bp bh bf bl bg : Nat) (S0 : ES) (S1 : ES) (gw0 : Nat → Int32) (ga0 : Nat → Int32) (gw1 : Nat → Int32) (ga1 : Nat → Int32) (n : Nat) (a : Nat) (cg : Nat) (x : Nat) (sa : Nat → Nat) (pk : Nat → Nat) (fl : Nat → Nat) (gv : Nat → Nat) (gh : Nat → Int32) (gl : Nat → Int32) (hC : CXW G f xo ez eo bu nw0 na0 nq0 nr0 nw1 na1 nq1 nr1 bs bp bh bf bl bg S0 S1 gw0 ga0 gw1 ga1 n a cg x sa pk fl gv gh gl) (hL0 : S0.2.2.2.2.2.2.2.2.length < 3000) (hL1 : S1.2.2.2.2.2.2.2.2.length < 3000) (j : Nat) (hj : j < 6) (xv : Int32) (hv : 0 ≤ xv.toInt ∧ xv.toInt ≤ 1023) : CT l yX4_allow (.code yX4_allow cX4_allow 5 (some .int)) 7 103 2 12 G [.ref xo, .int 1, .int (nI j), .int xv] f (fun v f1 => v = some (.int (ga1 j)) ∧ CXW G f1 xo ez eo bu nw0 na0 nq0 nr0 nw1 na1 nq1 nr1 bs bp bh bf bl bg S0 S1 gw0 ga0 gw1 (upd ga1 j xv) n a cg x sa pk fl gv gh gl ∧ hKn [xo, ez, eo, bu, nw0, na0, nq0, nr0, nw1, na1, nq1, nr1, bs, bp, bh, bf, bl, bg] f f1) (fun E f1 => False) := by
  refine hp_start hl (own := RX4) (by decide) rfl (Nat.le_of_ble_eq_true rfl) ?_
  intro p e s m args below meth c B0 hr hnm hout hw hS ls hl9
  have hx := B0.1
  have hb := B0.2.1
  have hl9 : lv_has ls 5 [(0, .ref xo), (1, .int 1), (2, .int (nI j)), (3, .int xv)] := hl9
  obtain ⟨Q0, Q1, hq⟩ := id hC
  have h1 : f xo = some (.inr (4, [.ref ez, .ref eo, .ref bu])) := hq.1
  have h2 : f ez = some (.inr (1, [.ref nw0, .ref na0, .ref nq0, .ref nr0, .int (num S0.2.2.2.2.2.2.1), .int S0.1, .int S0.2.2.2.1, .int S0.2.2.1, .int S0.2.1, .int S0.2.2.2.2.1, .int S0.2.2.2.2.2.1])) := (hq.2.1).1
  have h3 : f eo = some (.inr (1, [.ref nw1, .ref na1, .ref nq1, .ref nr1, .int (num S1.2.2.2.2.2.2.1), .int S1.1, .int S1.2.2.2.1, .int S1.2.2.1, .int S1.2.1, .int S1.2.2.2.2.1, .int S1.2.2.2.2.2.1])) := (hq.2.2.1).1
  have ho := (show sO (nI j) from ⟨by rw [nI_toInt (by omega)]; omega, by rw [nI_toInt (by omega)]; omega⟩)
  refine lv_aload_n hx hb dX4_allow_0 rfl (lv_at hl9 0 rfl) ?_
  refine lv_iload_n hx hb dX4_allow_1 rfl (lv_at hl9 1 rfl) ?_
  refine hp_V (ci := 4) (As := [.int 1]) (rest := []) B0 hw hS (c_X4_endAt hl G f xo ez eo bu h1 1) mV_X4_endAt qM_X4_28 rfl h1 rfl rfl hl9.1 (Nat.le_of_ble_eq_true rfl) ⟨⟨Nat.le_of_ble_eq_true rfl, Nat.le_of_ble_eq_true rfl⟩, Nat.le_of_ble_eq_true rfl, Nat.le_of_ble_eq_true rfl⟩ dX4_allow_2 (fun E ce q9 f4 H locs hPX hw hS hce hcv hcl => ?_) (fun v f4 H locs hP hw hS => ?_)
  · obtain ⟨ef9, eE9, hE9⟩ := hPX
    rw [ef9] at hw
    exact absurd (Or.inr rfl) hE9
  · obtain ⟨ef9, hv9⟩ := hP
    rw [ef9] at hw
    rcases hv9 with ⟨k9, ev9⟩ | ⟨k9, ev9⟩
    exact absurd k9 (by decide)
    subst ev9
    refine W.eq (g2 := F0 m 5 ls [.ref eo]) rfl ?_
    refine lv_astore (lv' := [(4, .ref eo), (0, .ref xo), (1, .int 1), (2, .int (nI j)), (3, .int xv)]) hx hb dX4_allow_5 hl9 (by decide) rfl (fun ls hl9 => ?_)
    refine lv_iload_n hx hb dX4_allow_7 rfl (lv_at hl9 3 rfl) ?_
    refine hp_S (As := [.int (nI j)]) (rest := []) B0 hw hS (c_X4_refuseNoOption hl G f (nI j)) mS_X4_refuseNoOption qM_X4_32 rfl rfl hl9.1 (Nat.le_of_ble_eq_true rfl) ⟨⟨Nat.le_of_ble_eq_true rfl, Nat.le_of_ble_eq_true rfl⟩, Nat.le_of_ble_eq_true rfl, Nat.le_of_ble_eq_true rfl⟩ dX4_allow_8 (fun E ce q9 f5 H locs hPX hw hS hce hcv hcl => ?_) (fun v f5 H locs hP hw hS => ?_)
    · obtain ⟨ef9, eE9, hE9⟩ := hPX
      rw [ef9] at hw
      exact absurd ho hE9
    · obtain ⟨ef9, ev9, ho9⟩ := hP
      rw [ef9] at hw
      subst ev9
      refine W.eq (g2 := F0 m 11 ls []) rfl ?_
      refine lv_iload_n hx hb dX4_allow_11 rfl (lv_at hl9 4 rfl) ?_
      refine lv_if_lt (tgt := 22) hx hb dX4_allow_12 (by decide) (fun c9 => absurd c9 (by simp only [jlt, jle, tq0, tq1, tq3, tq4, tq6, tq9, tq50, tq60, tq1023, tqm1]; omega)) (fun _ => ?_)
      refine lv_iload_n hx hb dX4_allow_15 rfl (lv_at hl9 4 rfl) ?_
      refine lv_sipush (v := 1023) hx hb dX4_allow_16 (by decide) ?_
      refine lv_icmp_le (tgt := 32) hx hb dX4_allow_19 (by decide) (fun _ => ?_) (fun c9 => absurd (by simp only [jlt, jle, tq0, tq1, tq3, tq4, tq6, tq9, tq50, tq60, tq1023, tqm1]; omega) c9)
      refine lv_aload hx hb dX4_allow_32 (lv_at hl9 0 rfl) ?_
      refine lv_iload_n hx hb dX4_allow_34 rfl (lv_at hl9 3 rfl) ?_
      refine lv_iload_n hx hb dX4_allow_35 rfl (lv_at hl9 4 rfl) ?_
      have h6 : f na1 = some (.inl (cI G, 6, .inl ga1)) := hq.2.2.2.2.2.2.1
      refine hp_V (ci := 1) (As := [.int (nI j), .int xv]) (rest := []) B0 hw hS (c_X1_changeAllowed hl G f eo nw1 na1 nq1 nr1 (num S1.2.2.2.2.2.2.1) S1.1 S1.2.2.2.1 S1.2.2.1 S1.2.1 S1.2.2.2.2.1 S1.2.2.2.2.2.1 h3 ga1 h6 (nI j) xv (show sO (nI j) from ⟨by rw [nI_toInt (by omega)]; omega, by rw [nI_toInt (by omega)]; omega⟩)) mV_X1_changeAllowed qM_X4_48 rfl h3 rfl rfl hl9.1 (Nat.le_of_ble_eq_true rfl) ⟨⟨Nat.le_of_ble_eq_true rfl, Nat.le_of_ble_eq_true rfl⟩, Nat.le_of_ble_eq_true rfl, Nat.le_of_ble_eq_true rfl⟩ dX4_allow_36 (fun E ce q9 f7 H locs hPX hw hS hce hcv hcl => ?_) (fun v f7 H locs hP hw hS => ?_)
      · exact hPX.elim
      · obtain ⟨ho9, ev9, e8, -⟩ := hP
        rw [show (nI j).toNatClampNeg = j from nI_clamp (by omega)] at ev9 e8
        subst ev9
        have h12 : f7 na1 = some (.inl (cI G, 6, .inl (upd ga1 j xv))) := by rw [e8, va_up_self]
        have hq11 : CXQ G f7 xo ez eo bu nw0 na0 nq0 nr0 nw1 na1 nq1 nr1 bs bp bh bf bl bg Q0 Q1 S0 S1 gw0 ga0 gw1 (upd ga1 j xv) n a cg x sa pk fl gv gh gl := CXQ.a1 hq (show hK2 [na1] [] f f7 from (by rw [e8]; exact hK2.up List.mem_cons_self)) h12 (hq.2.2.2.2.2.2.2.2.2.2.2.2.2.2.1) (hq.2.2.2.2.2.2.2.2.2.2.2.2.2.2.2.1)
        have h13 : f7 xo = some (.inr (4, [.ref ez, .ref eo, .ref bu])) := hq11.1
        have h14 : f7 ez = some (.inr (1, [.ref nw0, .ref na0, .ref nq0, .ref nr0, .int (num S0.2.2.2.2.2.2.1), .int S0.1, .int S0.2.2.2.1, .int S0.2.2.1, .int S0.2.1, .int S0.2.2.2.2.1, .int S0.2.2.2.2.2.1])) := (hq11.2.1).1
        have h15 : f7 eo = some (.inr (1, [.ref nw1, .ref na1, .ref nq1, .ref nr1, .int (num S1.2.2.2.2.2.2.1), .int S1.1, .int S1.2.2.2.1, .int S1.2.2.1, .int S1.2.1, .int S1.2.2.2.2.1, .int S1.2.2.2.2.2.1])) := (hq11.2.2.1).1
        refine W.eq (g2 := F0 m 39 ls [.int (ga1 j)]) rfl ?_
        exact hp_iret (v := (ga1 j)) B0 hw hS hr ⟨Nat.le_of_ble_eq_true rfl, Nat.le_of_ble_eq_true rfl⟩ dX4_allow_39 (⟨rfl, ⟨_, _, hq11⟩, (show hKn [xo, ez, eo, bu, nw0, na0, nq0, nr0, nw1, na1, nq1, nr1, bs, bp, bh, bf, bl, bg] f f7 from (by rw [e8]; exact hKn.up (List.mem_cons_of_mem _ (List.mem_cons_of_mem _ (List.mem_cons_of_mem _ (List.mem_cons_of_mem _ (List.mem_cons_of_mem _ (List.mem_cons_of_mem _ (List.mem_cons_of_mem _ (List.mem_cons_of_mem _ (List.mem_cons_of_mem _ List.mem_cons_self)))))))))))⟩)

set_option maxHeartbeats 4000000 in
set_option maxRecDepth 100000 in
theorem c_P_allow_O1 {l : Launch} (hl : l.stackTraces = false) (G : hG) (f : hM) (xo ez eo bu nw0 na0 nq0 nr0 nw1 na1 nq1 nr1 bs bp bh bf bl bg : Nat) (S0 : ES) (S1 : ES) (gw0 : Nat → Int32) (ga0 : Nat → Int32) (gw1 : Nat → Int32) (ga1 : Nat → Int32) (n : Nat) (a : Nat) (cg : Nat) (x : Nat) (sa : Nat → Nat) (pk : Nat → Nat) (fl : Nat → Nat) (gv : Nat → Nat) (gh : Nat → Int32) (gl : Nat → Int32) (hC : CXW G f xo ez eo bu nw0 na0 nq0 nr0 nw1 na1 nq1 nr1 bs bp bh bf bl bg S0 S1 gw0 ga0 gw1 ga1 n a cg x sa pk fl gv gh gl) (hL0 : S0.2.2.2.2.2.2.2.2.length < 3000) (hL1 : S1.2.2.2.2.2.2.2.2.length < 3000) (o xv : Int32) (ho : ¬ sO o) : CT l yX4_allow (.code yX4_allow cX4_allow 5 (some .int)) 7 103 2 12 G [.ref xo, .int 1, .int o, .int xv] f (fun v f1 => False) (fun E f1 => E = eI ∧ CXW G f1 xo ez eo bu nw0 na0 nq0 nr0 nw1 na1 nq1 nr1 bs bp bh bf bl bg S0 S1 gw0 ga0 gw1 ga1 n a cg x sa pk fl gv gh gl ∧ hKn [xo, ez, eo, bu, nw0, na0, nq0, nr0, nw1, na1, nq1, nr1, bs, bp, bh, bf, bl, bg] f f1) := by
  refine hp_start hl (own := RX4) (by decide) rfl (Nat.le_of_ble_eq_true rfl) ?_
  intro p e s m args below meth c B0 hr hnm hout hw hS ls hl9
  have hx := B0.1
  have hb := B0.2.1
  have hl9 : lv_has ls 5 [(0, .ref xo), (1, .int 1), (2, .int o), (3, .int xv)] := hl9
  obtain ⟨Q0, Q1, hq⟩ := id hC
  have h1 : f xo = some (.inr (4, [.ref ez, .ref eo, .ref bu])) := hq.1
  have h2 : f ez = some (.inr (1, [.ref nw0, .ref na0, .ref nq0, .ref nr0, .int (num S0.2.2.2.2.2.2.1), .int S0.1, .int S0.2.2.2.1, .int S0.2.2.1, .int S0.2.1, .int S0.2.2.2.2.1, .int S0.2.2.2.2.2.1])) := (hq.2.1).1
  have h3 : f eo = some (.inr (1, [.ref nw1, .ref na1, .ref nq1, .ref nr1, .int (num S1.2.2.2.2.2.2.1), .int S1.1, .int S1.2.2.2.1, .int S1.2.2.1, .int S1.2.1, .int S1.2.2.2.2.1, .int S1.2.2.2.2.2.1])) := (hq.2.2.1).1
  refine lv_aload_n hx hb dX4_allow_0 rfl (lv_at hl9 0 rfl) ?_
  refine lv_iload_n hx hb dX4_allow_1 rfl (lv_at hl9 1 rfl) ?_
  refine hp_V (ci := 4) (As := [.int 1]) (rest := []) B0 hw hS (c_X4_endAt hl G f xo ez eo bu h1 1) mV_X4_endAt qM_X4_28 rfl h1 rfl rfl hl9.1 (Nat.le_of_ble_eq_true rfl) ⟨⟨Nat.le_of_ble_eq_true rfl, Nat.le_of_ble_eq_true rfl⟩, Nat.le_of_ble_eq_true rfl, Nat.le_of_ble_eq_true rfl⟩ dX4_allow_2 (fun E ce q9 f4 H locs hPX hw hS hce hcv hcl => ?_) (fun v f4 H locs hP hw hS => ?_)
  · obtain ⟨ef9, eE9, hE9⟩ := hPX
    rw [ef9] at hw
    exact absurd (Or.inr rfl) hE9
  · obtain ⟨ef9, hv9⟩ := hP
    rw [ef9] at hw
    rcases hv9 with ⟨k9, ev9⟩ | ⟨k9, ev9⟩
    exact absurd k9 (by decide)
    subst ev9
    refine W.eq (g2 := F0 m 5 ls [.ref eo]) rfl ?_
    refine lv_astore (lv' := [(4, .ref eo), (0, .ref xo), (1, .int 1), (2, .int o), (3, .int xv)]) hx hb dX4_allow_5 hl9 (by decide) rfl (fun ls hl9 => ?_)
    refine lv_iload_n hx hb dX4_allow_7 rfl (lv_at hl9 3 rfl) ?_
    refine hp_S (As := [.int o]) (rest := []) B0 hw hS (c_X4_refuseNoOption hl G f o) mS_X4_refuseNoOption qM_X4_32 rfl rfl hl9.1 (Nat.le_of_ble_eq_true rfl) ⟨⟨Nat.le_of_ble_eq_true rfl, Nat.le_of_ble_eq_true rfl⟩, Nat.le_of_ble_eq_true rfl, Nat.le_of_ble_eq_true rfl⟩ dX4_allow_8 (fun E ce q9 f5 H locs hPX hw hS hce hcv hcl => ?_) (fun v f5 H locs hP hw hS => ?_)
    · obtain ⟨ef9, eE9, hE9⟩ := hPX
      rw [ef9] at hw
      subst eE9
      exact hp_out B0 hw hS hout hce hcv hcl ⟨Nat.le_of_ble_eq_true rfl, Nat.le_of_ble_eq_true rfl⟩ (⟨rfl, ⟨_, _, hq⟩, hKn.rf⟩)
    · obtain ⟨ef9, ev9, ho9⟩ := hP
      rw [ef9] at hw
      exact absurd ho9 ho

set_option maxHeartbeats 4000000 in
set_option maxRecDepth 100000 in
theorem c_P_allow_V1 {l : Launch} (hl : l.stackTraces = false) (G : hG) (f : hM) (xo ez eo bu nw0 na0 nq0 nr0 nw1 na1 nq1 nr1 bs bp bh bf bl bg : Nat) (S0 : ES) (S1 : ES) (gw0 : Nat → Int32) (ga0 : Nat → Int32) (gw1 : Nat → Int32) (ga1 : Nat → Int32) (n : Nat) (a : Nat) (cg : Nat) (x : Nat) (sa : Nat → Nat) (pk : Nat → Nat) (fl : Nat → Nat) (gv : Nat → Nat) (gh : Nat → Int32) (gl : Nat → Int32) (hC : CXW G f xo ez eo bu nw0 na0 nq0 nr0 nw1 na1 nq1 nr1 bs bp bh bf bl bg S0 S1 gw0 ga0 gw1 ga1 n a cg x sa pk fl gv gh gl) (hL0 : S0.2.2.2.2.2.2.2.2.length < 3000) (hL1 : S1.2.2.2.2.2.2.2.2.length < 3000) (j : Nat) (hj : j < 6) (xv : Int32) (hv : ¬ (0 ≤ xv.toInt ∧ xv.toInt ≤ 1023)) : CT l yX4_allow (.code yX4_allow cX4_allow 5 (some .int)) 7 103 3 18 G [.ref xo, .int 1, .int (nI j), .int xv] f (fun v f1 => False) (fun E f1 => E = eA ∧ CXW G f1 xo ez eo bu nw0 na0 nq0 nr0 nw1 na1 nq1 nr1 bs bp bh bf bl bg S0 S1 gw0 ga0 gw1 ga1 n a cg x sa pk fl gv gh gl ∧ hKn [xo, ez, eo, bu, nw0, na0, nq0, nr0, nw1, na1, nq1, nr1, bs, bp, bh, bf, bl, bg] f f1) := by
  refine hp_start hl (own := RX4) (by decide) rfl (Nat.le_of_ble_eq_true rfl) ?_
  intro p e s m args below meth c B0 hr hnm hout hw hS ls hl9
  have hx := B0.1
  have hb := B0.2.1
  have hl9 : lv_has ls 5 [(0, .ref xo), (1, .int 1), (2, .int (nI j)), (3, .int xv)] := hl9
  obtain ⟨Q0, Q1, hq⟩ := id hC
  have h1 : f xo = some (.inr (4, [.ref ez, .ref eo, .ref bu])) := hq.1
  have h2 : f ez = some (.inr (1, [.ref nw0, .ref na0, .ref nq0, .ref nr0, .int (num S0.2.2.2.2.2.2.1), .int S0.1, .int S0.2.2.2.1, .int S0.2.2.1, .int S0.2.1, .int S0.2.2.2.2.1, .int S0.2.2.2.2.2.1])) := (hq.2.1).1
  have h3 : f eo = some (.inr (1, [.ref nw1, .ref na1, .ref nq1, .ref nr1, .int (num S1.2.2.2.2.2.2.1), .int S1.1, .int S1.2.2.2.1, .int S1.2.2.1, .int S1.2.1, .int S1.2.2.2.2.1, .int S1.2.2.2.2.2.1])) := (hq.2.2.1).1
  have ho := (show sO (nI j) from ⟨by rw [nI_toInt (by omega)]; omega, by rw [nI_toInt (by omega)]; omega⟩)
  refine lv_aload_n hx hb dX4_allow_0 rfl (lv_at hl9 0 rfl) ?_
  refine lv_iload_n hx hb dX4_allow_1 rfl (lv_at hl9 1 rfl) ?_
  refine hp_V (ci := 4) (As := [.int 1]) (rest := []) B0 hw hS (c_X4_endAt hl G f xo ez eo bu h1 1) mV_X4_endAt qM_X4_28 rfl h1 rfl rfl hl9.1 (Nat.le_of_ble_eq_true rfl) ⟨⟨Nat.le_of_ble_eq_true rfl, Nat.le_of_ble_eq_true rfl⟩, Nat.le_of_ble_eq_true rfl, Nat.le_of_ble_eq_true rfl⟩ dX4_allow_2 (fun E ce q9 f4 H locs hPX hw hS hce hcv hcl => ?_) (fun v f4 H locs hP hw hS => ?_)
  · obtain ⟨ef9, eE9, hE9⟩ := hPX
    rw [ef9] at hw
    exact absurd (Or.inr rfl) hE9
  · obtain ⟨ef9, hv9⟩ := hP
    rw [ef9] at hw
    rcases hv9 with ⟨k9, ev9⟩ | ⟨k9, ev9⟩
    exact absurd k9 (by decide)
    subst ev9
    refine W.eq (g2 := F0 m 5 ls [.ref eo]) rfl ?_
    refine lv_astore (lv' := [(4, .ref eo), (0, .ref xo), (1, .int 1), (2, .int (nI j)), (3, .int xv)]) hx hb dX4_allow_5 hl9 (by decide) rfl (fun ls hl9 => ?_)
    refine lv_iload_n hx hb dX4_allow_7 rfl (lv_at hl9 3 rfl) ?_
    refine hp_S (As := [.int (nI j)]) (rest := []) B0 hw hS (c_X4_refuseNoOption hl G f (nI j)) mS_X4_refuseNoOption qM_X4_32 rfl rfl hl9.1 (Nat.le_of_ble_eq_true rfl) ⟨⟨Nat.le_of_ble_eq_true rfl, Nat.le_of_ble_eq_true rfl⟩, Nat.le_of_ble_eq_true rfl, Nat.le_of_ble_eq_true rfl⟩ dX4_allow_8 (fun E ce q9 f5 H locs hPX hw hS hce hcv hcl => ?_) (fun v f5 H locs hP hw hS => ?_)
    · obtain ⟨ef9, eE9, hE9⟩ := hPX
      rw [ef9] at hw
      exact absurd ho hE9
    · obtain ⟨ef9, ev9, ho9⟩ := hP
      rw [ef9] at hw
      subst ev9
      refine W.eq (g2 := F0 m 11 ls []) rfl ?_
      refine lv_iload_n hx hb dX4_allow_11 rfl (lv_at hl9 4 rfl) ?_
      refine lv_if_lt (tgt := 22) hx hb dX4_allow_12 (by decide) (fun c6 => ?_) (fun c6 => ?_)
      · exact hp_throw (cls := eA) (names := tNm) B0 hw hS hout tF_eA qC_X4_35 qN_java_lang_IllegalArgumentException sR_X4_46 tA_eA tB_eA tG_eA hl9.1 dX4_allow_22 dX4_allow_25 dX4_allow_26 dX4_allow_28 dX4_allow_31 ⟨⟨Nat.le_of_ble_eq_true rfl, Nat.le_of_ble_eq_true rfl⟩, Nat.le_of_ble_eq_true rfl, Nat.le_of_ble_eq_true rfl⟩ ⟨Nat.le_of_ble_eq_true rfl, Nat.le_of_ble_eq_true rfl⟩ (⟨rfl, ⟨_, _, hq⟩, hKn.rf⟩)
      · refine lv_iload_n hx hb dX4_allow_15 rfl (lv_at hl9 4 rfl) ?_
        refine lv_sipush (v := 1023) hx hb dX4_allow_16 (by decide) ?_
        refine lv_icmp_le (tgt := 32) hx hb dX4_allow_19 (by decide) (fun c9 => absurd c9 (fun h9 => hv (by have h1 := c6; have h2 := h9; simp only [jlt, jle, tq0, tq1, tq3, tq4, tq6, tq9, tq50, tq60, tq1023, tqm1] at h1 h2; exact ⟨by omega, by omega⟩))) (fun _ => ?_)
        exact hp_throw (cls := eA) (names := tNm) B0 hw hS hout tF_eA qC_X4_35 qN_java_lang_IllegalArgumentException sR_X4_46 tA_eA tB_eA tG_eA hl9.1 dX4_allow_22 dX4_allow_25 dX4_allow_26 dX4_allow_28 dX4_allow_31 ⟨⟨Nat.le_of_ble_eq_true rfl, Nat.le_of_ble_eq_true rfl⟩, Nat.le_of_ble_eq_true rfl, Nat.le_of_ble_eq_true rfl⟩ ⟨Nat.le_of_ble_eq_true rfl, Nat.le_of_ble_eq_true rfl⟩ (⟨rfl, ⟨_, _, hq⟩, hKn.rf⟩)

set_option maxHeartbeats 4000000 in
set_option maxRecDepth 100000 in
theorem c_P_allow_E {l : Launch} (hl : l.stackTraces = false) (G : hG) (f : hM) (xo ez eo bu nw0 na0 nq0 nr0 nw1 na1 nq1 nr1 bs bp bh bf bl bg : Nat) (S0 : ES) (S1 : ES) (gw0 : Nat → Int32) (ga0 : Nat → Int32) (gw1 : Nat → Int32) (ga1 : Nat → Int32) (n : Nat) (a : Nat) (cg : Nat) (x : Nat) (sa : Nat → Nat) (pk : Nat → Nat) (fl : Nat → Nat) (gv : Nat → Nat) (gh : Nat → Int32) (gl : Nat → Int32) (hC : CXW G f xo ez eo bu nw0 na0 nq0 nr0 nw1 na1 nq1 nr1 bs bp bh bf bl bg S0 S1 gw0 ga0 gw1 ga1 n a cg x sa pk fl gv gh gl) (hL0 : S0.2.2.2.2.2.2.2.2.length < 3000) (hL1 : S1.2.2.2.2.2.2.2.2.length < 3000) (i o xv : Int32) (hi : ¬ sE i) : CT l yX4_allow (.code yX4_allow cX4_allow 5 (some .int)) 7 103 1 6 G [.ref xo, .int i, .int o, .int xv] f (fun v f1 => False) (fun E f1 => E = eI ∧ CXW G f1 xo ez eo bu nw0 na0 nq0 nr0 nw1 na1 nq1 nr1 bs bp bh bf bl bg S0 S1 gw0 ga0 gw1 ga1 n a cg x sa pk fl gv gh gl ∧ hKn [xo, ez, eo, bu, nw0, na0, nq0, nr0, nw1, na1, nq1, nr1, bs, bp, bh, bf, bl, bg] f f1) := by
  refine hp_start hl (own := RX4) (by decide) rfl (Nat.le_of_ble_eq_true rfl) ?_
  intro p e s m args below meth c B0 hr hnm hout hw hS ls hl9
  have hx := B0.1
  have hb := B0.2.1
  have hl9 : lv_has ls 5 [(0, .ref xo), (1, .int i), (2, .int o), (3, .int xv)] := hl9
  obtain ⟨Q0, Q1, hq⟩ := id hC
  have h1 : f xo = some (.inr (4, [.ref ez, .ref eo, .ref bu])) := hq.1
  have h2 : f ez = some (.inr (1, [.ref nw0, .ref na0, .ref nq0, .ref nr0, .int (num S0.2.2.2.2.2.2.1), .int S0.1, .int S0.2.2.2.1, .int S0.2.2.1, .int S0.2.1, .int S0.2.2.2.2.1, .int S0.2.2.2.2.2.1])) := (hq.2.1).1
  have h3 : f eo = some (.inr (1, [.ref nw1, .ref na1, .ref nq1, .ref nr1, .int (num S1.2.2.2.2.2.2.1), .int S1.1, .int S1.2.2.2.1, .int S1.2.2.1, .int S1.2.1, .int S1.2.2.2.2.1, .int S1.2.2.2.2.2.1])) := (hq.2.2.1).1
  refine lv_aload_n hx hb dX4_allow_0 rfl (lv_at hl9 0 rfl) ?_
  refine lv_iload_n hx hb dX4_allow_1 rfl (lv_at hl9 1 rfl) ?_
  refine hp_V (ci := 4) (As := [.int i]) (rest := []) B0 hw hS (c_X4_endAt hl G f xo ez eo bu h1 i) mV_X4_endAt qM_X4_28 rfl h1 rfl rfl hl9.1 (Nat.le_of_ble_eq_true rfl) ⟨⟨Nat.le_of_ble_eq_true rfl, Nat.le_of_ble_eq_true rfl⟩, Nat.le_of_ble_eq_true rfl, Nat.le_of_ble_eq_true rfl⟩ dX4_allow_2 (fun E ce q9 f4 H locs hPX hw hS hce hcv hcl => ?_) (fun v f4 H locs hP hw hS => ?_)
  · obtain ⟨ef9, eE9, hE9⟩ := hPX
    rw [ef9] at hw
    subst eE9
    exact hp_out B0 hw hS hout hce hcv hcl ⟨Nat.le_of_ble_eq_true rfl, Nat.le_of_ble_eq_true rfl⟩ (⟨rfl, ⟨_, _, hq⟩, hKn.rf⟩)
  · obtain ⟨ef9, hv9⟩ := hP
    rw [ef9] at hw
    exact absurd (hv9.imp And.left And.left) hi

def ixS (S : ES) (ix : Int32) : ES := (S.1, S.2.1, S.2.2.1, S.2.2.2.1, S.2.2.2.2.1, S.2.2.2.2.2.1, ix, S.2.2.2.2.2.2.2)
set_option maxHeartbeats 4000000 in
set_option maxRecDepth 100000 in
theorem c_P_setMagic_0 {l : Launch} (hl : l.stackTraces = false) (G : hG) (f : hM) (xo ez eo bu nw0 na0 nq0 nr0 nw1 na1 nq1 nr1 bs bp bh bf bl bg : Nat) (S0 : ES) (S1 : ES) (gw0 : Nat → Int32) (ga0 : Nat → Int32) (gw1 : Nat → Int32) (ga1 : Nat → Int32) (n : Nat) (a : Nat) (cg : Nat) (x : Nat) (sa : Nat → Nat) (pk : Nat → Nat) (fl : Nat → Nat) (gv : Nat → Nat) (gh : Nat → Int32) (gl : Nat → Int32) (hC : CXW G f xo ez eo bu nw0 na0 nq0 nr0 nw1 na1 nq1 nr1 bs bp bh bf bl bg S0 S1 gw0 ga0 gw1 ga1 n a cg x sa pk fl gv gh gl) (hL0 : S0.2.2.2.2.2.2.2.2.length < 3000) (hL1 : S1.2.2.2.2.2.2.2.2.length < 3000) (ix : Int32) : CT l yX4_setMagic (.code yX4_setMagic cX4_setMagic 3 (some .int)) 7 103 1 6 G [.ref xo, .int 0, .int (num ix)] f (fun v f1 => v = some (.int (num S0.2.2.2.2.2.2.1)) ∧ CXW G f1 xo ez eo bu nw0 na0 nq0 nr0 nw1 na1 nq1 nr1 bs bp bh bf bl bg (ixS S0 ix) S1 gw0 ga0 gw1 ga1 n a cg x sa pk fl gv gh gl ∧ hKn [xo, ez, eo, bu, nw0, na0, nq0, nr0, nw1, na1, nq1, nr1, bs, bp, bh, bf, bl, bg] f f1) (fun E f1 => False) := by
  refine hp_start hl (own := RX4) (by decide) rfl (Nat.le_of_ble_eq_true rfl) ?_
  intro p e s m args below meth c B0 hr hnm hout hw hS ls hl9
  have hx := B0.1
  have hb := B0.2.1
  have hl9 : lv_has ls 3 [(0, .ref xo), (1, .int 0), (2, .int (num ix))] := hl9
  obtain ⟨Q0, Q1, hq⟩ := id hC
  have h1 : f xo = some (.inr (4, [.ref ez, .ref eo, .ref bu])) := hq.1
  have h2 : f ez = some (.inr (1, [.ref nw0, .ref na0, .ref nq0, .ref nr0, .int (num S0.2.2.2.2.2.2.1), .int S0.1, .int S0.2.2.2.1, .int S0.2.2.1, .int S0.2.1, .int S0.2.2.2.2.1, .int S0.2.2.2.2.2.1])) := (hq.2.1).1
  have h3 : f eo = some (.inr (1, [.ref nw1, .ref na1, .ref nq1, .ref nr1, .int (num S1.2.2.2.2.2.2.1), .int S1.1, .int S1.2.2.2.1, .int S1.2.2.1, .int S1.2.1, .int S1.2.2.2.2.1, .int S1.2.2.2.2.2.1])) := (hq.2.2.1).1
  refine lv_aload_n hx hb dX4_setMagic_0 rfl (lv_at hl9 0 rfl) ?_
  refine lv_iload_n hx hb dX4_setMagic_1 rfl (lv_at hl9 1 rfl) ?_
  refine hp_V (ci := 4) (As := [.int 0]) (rest := []) B0 hw hS (c_X4_endAt hl G f xo ez eo bu h1 0) mV_X4_endAt qM_X4_28 rfl h1 rfl rfl hl9.1 (Nat.le_of_ble_eq_true rfl) ⟨⟨Nat.le_of_ble_eq_true rfl, Nat.le_of_ble_eq_true rfl⟩, Nat.le_of_ble_eq_true rfl, Nat.le_of_ble_eq_true rfl⟩ dX4_setMagic_2 (fun E ce q9 f4 H locs hPX hw hS hce hcv hcl => ?_) (fun v f4 H locs hP hw hS => ?_)
  · obtain ⟨ef9, eE9, hE9⟩ := hPX
    rw [ef9] at hw
    exact absurd (Or.inl rfl) hE9
  · obtain ⟨ef9, hv9⟩ := hP
    rw [ef9] at hw
    rcases hv9 with ⟨k9, ev9⟩ | ⟨k9, ev9⟩
    rotate_left
    exact absurd k9 (by decide)
    subst ev9
    refine W.eq (g2 := F0 m 5 ls [.ref ez]) rfl ?_
    refine lv_iload_n hx hb dX4_setMagic_5 rfl (lv_at hl9 2 rfl) ?_
    refine hp_V (ci := 1) (As := [.int (num ix)]) (rest := []) B0 hw hS (c_X1_changeMagic hl G f ez nw0 na0 nq0 nr0 (num S0.2.2.2.2.2.2.1) S0.1 S0.2.2.2.1 S0.2.2.1 S0.2.1 S0.2.2.2.2.1 S0.2.2.2.2.2.1 h2 (num ix)) mV_X1_changeMagic qM_X4_51 rfl h2 rfl rfl hl9.1 (Nat.le_of_ble_eq_true rfl) ⟨⟨Nat.le_of_ble_eq_true rfl, Nat.le_of_ble_eq_true rfl⟩, Nat.le_of_ble_eq_true rfl, Nat.le_of_ble_eq_true rfl⟩ dX4_setMagic_6 (fun E ce q9 f5 H locs hPX hw hS hce hcv hcl => ?_) (fun v f5 H locs hP hw hS => ?_)
    · exact hPX.elim
    · obtain ⟨ev9, e6, -⟩ := hP
      subst ev9
      have h7 : f5 ez = some (.inr (1, [.ref nw0, .ref na0, .ref nq0, .ref nr0, .int (num ix), .int S0.1, .int S0.2.2.2.1, .int S0.2.2.1, .int S0.2.1, .int S0.2.2.2.2.1, .int S0.2.2.2.2.2.1])) := by rw [e6, va_up_self]
      have hE8 : EX G f5 ez nw0 na0 nq0 nr0 (ixS S0 ix) Q0 := ⟨h7, (show hK2 [ez] [] f f5 from (by rw [e6]; exact hK2.up List.mem_cons_self)).2 _ _ (hq.2.1).2.1 (ninc (hne (hq.2.1).2.1 (hq.2.1).1 (Nat.ne_of_beq_eq_false rfl)) nin0) (fun t9 => absurd t9 (Nat.ne_of_beq_eq_false rfl)), ⟨(hq.2.1).2.2.1.choose, (show hK2 [ez] [] f f5 from (by rw [e6]; exact hK2.up List.mem_cons_self)).2 _ _ (hq.2.1).2.2.1.choose_spec.1 (ninc (hne (hq.2.1).2.2.1.choose_spec.1 (hq.2.1).1 (Nat.ne_of_beq_eq_false rfl)) nin0) (fun t9 => absurd t9 (Nat.ne_of_beq_eq_false rfl)), CH.kp (show hK2 [ez, nq0, nr0] [] f f5 from (by rw [e6]; exact hK2.up List.mem_cons_self)) (hq.2.1).2.2.1.choose_spec.2 (EX.cu (hq.2.1)) (EX.sf (hq.2.1))⟩, (hq.2.1).2.2.2⟩
      have hq10 : CXQ G f5 xo ez eo bu nw0 na0 nq0 nr0 nw1 na1 nq1 nr1 bs bp bh bf bl bg Q0 Q1 (ixS S0 ix) S1 gw0 ga0 gw1 ga1 n a cg x sa pk fl gv gh gl := CXQ.u0 hq hE8 (hK2.q0 (show hK2 [ez, nq0, nr0] [] f f5 from (by rw [e6]; exact hK2.up List.mem_cons_self))) (fun c9 h9 => Or.inl h9)
      have h11 : f5 xo = some (.inr (4, [.ref ez, .ref eo, .ref bu])) := hq10.1
      have h12 : f5 ez = some (.inr (1, [.ref nw0, .ref na0, .ref nq0, .ref nr0, .int (num ((ixS S0 ix).2.2.2.2.2.2.1)), .int ((ixS S0 ix).1), .int ((ixS S0 ix).2.2.2.1), .int ((ixS S0 ix).2.2.1), .int ((ixS S0 ix).2.1), .int ((ixS S0 ix).2.2.2.2.1), .int ((ixS S0 ix).2.2.2.2.2.1)])) := (hq10.2.1).1
      have h13 : f5 eo = some (.inr (1, [.ref nw1, .ref na1, .ref nq1, .ref nr1, .int (num S1.2.2.2.2.2.2.1), .int S1.1, .int S1.2.2.2.1, .int S1.2.2.1, .int S1.2.1, .int S1.2.2.2.2.1, .int S1.2.2.2.2.2.1])) := (hq10.2.2.1).1
      refine W.eq (g2 := F0 m 9 ls [.int (num S0.2.2.2.2.2.2.1)]) rfl ?_
      exact hp_iret (v := (num S0.2.2.2.2.2.2.1)) B0 hw hS hr ⟨Nat.le_of_ble_eq_true rfl, Nat.le_of_ble_eq_true rfl⟩ dX4_setMagic_9 (⟨rfl, ⟨_, _, hq10⟩, (show hKn [xo, ez, eo, bu, nw0, na0, nq0, nr0, nw1, na1, nq1, nr1, bs, bp, bh, bf, bl, bg] f f5 from (by rw [e6]; exact hKn.up (List.mem_cons_of_mem _ List.mem_cons_self)))⟩)

set_option maxHeartbeats 4000000 in
set_option maxRecDepth 100000 in
theorem c_P_setMagic_1 {l : Launch} (hl : l.stackTraces = false) (G : hG) (f : hM) (xo ez eo bu nw0 na0 nq0 nr0 nw1 na1 nq1 nr1 bs bp bh bf bl bg : Nat) (S0 : ES) (S1 : ES) (gw0 : Nat → Int32) (ga0 : Nat → Int32) (gw1 : Nat → Int32) (ga1 : Nat → Int32) (n : Nat) (a : Nat) (cg : Nat) (x : Nat) (sa : Nat → Nat) (pk : Nat → Nat) (fl : Nat → Nat) (gv : Nat → Nat) (gh : Nat → Int32) (gl : Nat → Int32) (hC : CXW G f xo ez eo bu nw0 na0 nq0 nr0 nw1 na1 nq1 nr1 bs bp bh bf bl bg S0 S1 gw0 ga0 gw1 ga1 n a cg x sa pk fl gv gh gl) (hL0 : S0.2.2.2.2.2.2.2.2.length < 3000) (hL1 : S1.2.2.2.2.2.2.2.2.length < 3000) (ix : Int32) : CT l yX4_setMagic (.code yX4_setMagic cX4_setMagic 3 (some .int)) 7 103 1 6 G [.ref xo, .int 1, .int (num ix)] f (fun v f1 => v = some (.int (num S1.2.2.2.2.2.2.1)) ∧ CXW G f1 xo ez eo bu nw0 na0 nq0 nr0 nw1 na1 nq1 nr1 bs bp bh bf bl bg S0 (ixS S1 ix) gw0 ga0 gw1 ga1 n a cg x sa pk fl gv gh gl ∧ hKn [xo, ez, eo, bu, nw0, na0, nq0, nr0, nw1, na1, nq1, nr1, bs, bp, bh, bf, bl, bg] f f1) (fun E f1 => False) := by
  refine hp_start hl (own := RX4) (by decide) rfl (Nat.le_of_ble_eq_true rfl) ?_
  intro p e s m args below meth c B0 hr hnm hout hw hS ls hl9
  have hx := B0.1
  have hb := B0.2.1
  have hl9 : lv_has ls 3 [(0, .ref xo), (1, .int 1), (2, .int (num ix))] := hl9
  obtain ⟨Q0, Q1, hq⟩ := id hC
  have h1 : f xo = some (.inr (4, [.ref ez, .ref eo, .ref bu])) := hq.1
  have h2 : f ez = some (.inr (1, [.ref nw0, .ref na0, .ref nq0, .ref nr0, .int (num S0.2.2.2.2.2.2.1), .int S0.1, .int S0.2.2.2.1, .int S0.2.2.1, .int S0.2.1, .int S0.2.2.2.2.1, .int S0.2.2.2.2.2.1])) := (hq.2.1).1
  have h3 : f eo = some (.inr (1, [.ref nw1, .ref na1, .ref nq1, .ref nr1, .int (num S1.2.2.2.2.2.2.1), .int S1.1, .int S1.2.2.2.1, .int S1.2.2.1, .int S1.2.1, .int S1.2.2.2.2.1, .int S1.2.2.2.2.2.1])) := (hq.2.2.1).1
  refine lv_aload_n hx hb dX4_setMagic_0 rfl (lv_at hl9 0 rfl) ?_
  refine lv_iload_n hx hb dX4_setMagic_1 rfl (lv_at hl9 1 rfl) ?_
  refine hp_V (ci := 4) (As := [.int 1]) (rest := []) B0 hw hS (c_X4_endAt hl G f xo ez eo bu h1 1) mV_X4_endAt qM_X4_28 rfl h1 rfl rfl hl9.1 (Nat.le_of_ble_eq_true rfl) ⟨⟨Nat.le_of_ble_eq_true rfl, Nat.le_of_ble_eq_true rfl⟩, Nat.le_of_ble_eq_true rfl, Nat.le_of_ble_eq_true rfl⟩ dX4_setMagic_2 (fun E ce q9 f4 H locs hPX hw hS hce hcv hcl => ?_) (fun v f4 H locs hP hw hS => ?_)
  · obtain ⟨ef9, eE9, hE9⟩ := hPX
    rw [ef9] at hw
    exact absurd (Or.inr rfl) hE9
  · obtain ⟨ef9, hv9⟩ := hP
    rw [ef9] at hw
    rcases hv9 with ⟨k9, ev9⟩ | ⟨k9, ev9⟩
    exact absurd k9 (by decide)
    subst ev9
    refine W.eq (g2 := F0 m 5 ls [.ref eo]) rfl ?_
    refine lv_iload_n hx hb dX4_setMagic_5 rfl (lv_at hl9 2 rfl) ?_
    refine hp_V (ci := 1) (As := [.int (num ix)]) (rest := []) B0 hw hS (c_X1_changeMagic hl G f eo nw1 na1 nq1 nr1 (num S1.2.2.2.2.2.2.1) S1.1 S1.2.2.2.1 S1.2.2.1 S1.2.1 S1.2.2.2.2.1 S1.2.2.2.2.2.1 h3 (num ix)) mV_X1_changeMagic qM_X4_51 rfl h3 rfl rfl hl9.1 (Nat.le_of_ble_eq_true rfl) ⟨⟨Nat.le_of_ble_eq_true rfl, Nat.le_of_ble_eq_true rfl⟩, Nat.le_of_ble_eq_true rfl, Nat.le_of_ble_eq_true rfl⟩ dX4_setMagic_6 (fun E ce q9 f5 H locs hPX hw hS hce hcv hcl => ?_) (fun v f5 H locs hP hw hS => ?_)
    · exact hPX.elim
    · obtain ⟨ev9, e6, -⟩ := hP
      subst ev9
      have h7 : f5 eo = some (.inr (1, [.ref nw1, .ref na1, .ref nq1, .ref nr1, .int (num ix), .int S1.1, .int S1.2.2.2.1, .int S1.2.2.1, .int S1.2.1, .int S1.2.2.2.2.1, .int S1.2.2.2.2.2.1])) := by rw [e6, va_up_self]
      have hE8 : EX G f5 eo nw1 na1 nq1 nr1 (ixS S1 ix) Q1 := ⟨h7, (show hK2 [eo] [] f f5 from (by rw [e6]; exact hK2.up List.mem_cons_self)).2 _ _ (hq.2.2.1).2.1 (ninc (hne (hq.2.2.1).2.1 (hq.2.2.1).1 (Nat.ne_of_beq_eq_false rfl)) nin0) (fun t9 => absurd t9 (Nat.ne_of_beq_eq_false rfl)), ⟨(hq.2.2.1).2.2.1.choose, (show hK2 [eo] [] f f5 from (by rw [e6]; exact hK2.up List.mem_cons_self)).2 _ _ (hq.2.2.1).2.2.1.choose_spec.1 (ninc (hne (hq.2.2.1).2.2.1.choose_spec.1 (hq.2.2.1).1 (Nat.ne_of_beq_eq_false rfl)) nin0) (fun t9 => absurd t9 (Nat.ne_of_beq_eq_false rfl)), CH.kp (show hK2 [eo, nq1, nr1] [] f f5 from (by rw [e6]; exact hK2.up List.mem_cons_self)) (hq.2.2.1).2.2.1.choose_spec.2 (EX.cu (hq.2.2.1)) (EX.sf (hq.2.2.1))⟩, (hq.2.2.1).2.2.2⟩
      have hq10 : CXQ G f5 xo ez eo bu nw0 na0 nq0 nr0 nw1 na1 nq1 nr1 bs bp bh bf bl bg Q0 Q1 S0 (ixS S1 ix) gw0 ga0 gw1 ga1 n a cg x sa pk fl gv gh gl := CXQ.u1 hq hE8 (hK2.q0 (show hK2 [eo, nq1, nr1] [] f f5 from (by rw [e6]; exact hK2.up List.mem_cons_self))) (fun c9 h9 => Or.inl h9)
      have h11 : f5 xo = some (.inr (4, [.ref ez, .ref eo, .ref bu])) := hq10.1
      have h12 : f5 ez = some (.inr (1, [.ref nw0, .ref na0, .ref nq0, .ref nr0, .int (num S0.2.2.2.2.2.2.1), .int S0.1, .int S0.2.2.2.1, .int S0.2.2.1, .int S0.2.1, .int S0.2.2.2.2.1, .int S0.2.2.2.2.2.1])) := (hq10.2.1).1
      have h13 : f5 eo = some (.inr (1, [.ref nw1, .ref na1, .ref nq1, .ref nr1, .int (num ((ixS S1 ix).2.2.2.2.2.2.1)), .int ((ixS S1 ix).1), .int ((ixS S1 ix).2.2.2.1), .int ((ixS S1 ix).2.2.1), .int ((ixS S1 ix).2.1), .int ((ixS S1 ix).2.2.2.2.1), .int ((ixS S1 ix).2.2.2.2.2.1)])) := (hq10.2.2.1).1
      refine W.eq (g2 := F0 m 9 ls [.int (num S1.2.2.2.2.2.2.1)]) rfl ?_
      exact hp_iret (v := (num S1.2.2.2.2.2.2.1)) B0 hw hS hr ⟨Nat.le_of_ble_eq_true rfl, Nat.le_of_ble_eq_true rfl⟩ dX4_setMagic_9 (⟨rfl, ⟨_, _, hq10⟩, (show hKn [xo, ez, eo, bu, nw0, na0, nq0, nr0, nw1, na1, nq1, nr1, bs, bp, bh, bf, bl, bg] f f5 from (by rw [e6]; exact hKn.up (List.mem_cons_of_mem _ (List.mem_cons_of_mem _ List.mem_cons_self))))⟩)

set_option maxHeartbeats 4000000 in
set_option maxRecDepth 100000 in
theorem c_P_setMagic_E {l : Launch} (hl : l.stackTraces = false) (G : hG) (f : hM) (xo ez eo bu nw0 na0 nq0 nr0 nw1 na1 nq1 nr1 bs bp bh bf bl bg : Nat) (S0 : ES) (S1 : ES) (gw0 : Nat → Int32) (ga0 : Nat → Int32) (gw1 : Nat → Int32) (ga1 : Nat → Int32) (n : Nat) (a : Nat) (cg : Nat) (x : Nat) (sa : Nat → Nat) (pk : Nat → Nat) (fl : Nat → Nat) (gv : Nat → Nat) (gh : Nat → Int32) (gl : Nat → Int32) (hC : CXW G f xo ez eo bu nw0 na0 nq0 nr0 nw1 na1 nq1 nr1 bs bp bh bf bl bg S0 S1 gw0 ga0 gw1 ga1 n a cg x sa pk fl gv gh gl) (hL0 : S0.2.2.2.2.2.2.2.2.length < 3000) (hL1 : S1.2.2.2.2.2.2.2.2.length < 3000) (i xv : Int32) (hi : ¬ sE i) : CT l yX4_setMagic (.code yX4_setMagic cX4_setMagic 3 (some .int)) 7 103 1 6 G [.ref xo, .int i, .int xv] f (fun v f1 => False) (fun E f1 => E = eI ∧ CXW G f1 xo ez eo bu nw0 na0 nq0 nr0 nw1 na1 nq1 nr1 bs bp bh bf bl bg S0 S1 gw0 ga0 gw1 ga1 n a cg x sa pk fl gv gh gl ∧ hKn [xo, ez, eo, bu, nw0, na0, nq0, nr0, nw1, na1, nq1, nr1, bs, bp, bh, bf, bl, bg] f f1) := by
  refine hp_start hl (own := RX4) (by decide) rfl (Nat.le_of_ble_eq_true rfl) ?_
  intro p e s m args below meth c B0 hr hnm hout hw hS ls hl9
  have hx := B0.1
  have hb := B0.2.1
  have hl9 : lv_has ls 3 [(0, .ref xo), (1, .int i), (2, .int xv)] := hl9
  obtain ⟨Q0, Q1, hq⟩ := id hC
  have h1 : f xo = some (.inr (4, [.ref ez, .ref eo, .ref bu])) := hq.1
  have h2 : f ez = some (.inr (1, [.ref nw0, .ref na0, .ref nq0, .ref nr0, .int (num S0.2.2.2.2.2.2.1), .int S0.1, .int S0.2.2.2.1, .int S0.2.2.1, .int S0.2.1, .int S0.2.2.2.2.1, .int S0.2.2.2.2.2.1])) := (hq.2.1).1
  have h3 : f eo = some (.inr (1, [.ref nw1, .ref na1, .ref nq1, .ref nr1, .int (num S1.2.2.2.2.2.2.1), .int S1.1, .int S1.2.2.2.1, .int S1.2.2.1, .int S1.2.1, .int S1.2.2.2.2.1, .int S1.2.2.2.2.2.1])) := (hq.2.2.1).1
  refine lv_aload_n hx hb dX4_setMagic_0 rfl (lv_at hl9 0 rfl) ?_
  refine lv_iload_n hx hb dX4_setMagic_1 rfl (lv_at hl9 1 rfl) ?_
  refine hp_V (ci := 4) (As := [.int i]) (rest := []) B0 hw hS (c_X4_endAt hl G f xo ez eo bu h1 i) mV_X4_endAt qM_X4_28 rfl h1 rfl rfl hl9.1 (Nat.le_of_ble_eq_true rfl) ⟨⟨Nat.le_of_ble_eq_true rfl, Nat.le_of_ble_eq_true rfl⟩, Nat.le_of_ble_eq_true rfl, Nat.le_of_ble_eq_true rfl⟩ dX4_setMagic_2 (fun E ce q9 f4 H locs hPX hw hS hce hcv hcl => ?_) (fun v f4 H locs hP hw hS => ?_)
  · obtain ⟨ef9, eE9, hE9⟩ := hPX
    rw [ef9] at hw
    subst eE9
    exact hp_out B0 hw hS hout hce hcv hcl ⟨Nat.le_of_ble_eq_true rfl, Nat.le_of_ble_eq_true rfl⟩ (⟨rfl, ⟨_, _, hq⟩, hKn.rf⟩)
  · obtain ⟨ef9, hv9⟩ := hP
    rw [ef9] at hw
    exact absurd (hv9.imp And.left And.left) hi

set_option maxHeartbeats 4000000 in
set_option maxRecDepth 100000 in
theorem c_P_open_0 {l : Launch} (hl : l.stackTraces = false) (G : hG) (f : hM) (xo ez eo bu nw0 na0 nq0 nr0 nw1 na1 nq1 nr1 bs bp bh bf bl bg : Nat) (S0 : ES) (S1 : ES) (gw0 : Nat → Int32) (ga0 : Nat → Int32) (gw1 : Nat → Int32) (ga1 : Nat → Int32) (n : Nat) (a : Nat) (cg : Nat) (x : Nat) (sa : Nat → Nat) (pk : Nat → Nat) (fl : Nat → Nat) (gv : Nat → Nat) (gh : Nat → Int32) (gl : Nat → Int32) (hC : CXW G f xo ez eo bu nw0 na0 nq0 nr0 nw1 na1 nq1 nr1 bs bp bh bf bl bg S0 S1 gw0 ga0 gw1 ga1 n a cg x sa pk fl gv gh gl) (hL0 : S0.2.2.2.2.2.2.2.2.length < 3000) (hL1 : S1.2.2.2.2.2.2.2.2.length < 3000) (hst : S0.1 = 0) : CT l yX4_open (.code yX4_open cX4_open 3 (some .int)) 7 103 3 17 G [.ref xo, .int 0] f (fun v f1 => v = some (.int (S0.2.1 + 1)) ∧ CXW G f1 xo ez eo bu nw0 na0 nq0 nr0 nw1 na1 nq1 nr1 bs bp bh bf bl bg (openS gw0 S0) S1 gw0 ga0 gw1 ga1 n a cg x sa pk fl gv gh gl ∧ hKn [xo, ez, eo, bu, nw0, na0, nq0, nr0, nw1, na1, nq1, nr1, bs, bp, bh, bf, bl, bg] f f1) (fun E f1 => False) := by
  refine hp_start hl (own := RX4) (by decide) rfl (Nat.le_of_ble_eq_true rfl) ?_
  intro p e s m args below meth c B0 hr hnm hout hw hS ls hl9
  have hx := B0.1
  have hb := B0.2.1
  have hl9 : lv_has ls 3 [(0, .ref xo), (1, .int 0)] := hl9
  obtain ⟨Q0, Q1, hq⟩ := id hC
  have h1 : f xo = some (.inr (4, [.ref ez, .ref eo, .ref bu])) := hq.1
  have h2 : f ez = some (.inr (1, [.ref nw0, .ref na0, .ref nq0, .ref nr0, .int (num S0.2.2.2.2.2.2.1), .int S0.1, .int S0.2.2.2.1, .int S0.2.2.1, .int S0.2.1, .int S0.2.2.2.2.1, .int S0.2.2.2.2.2.1])) := (hq.2.1).1
  have h3 : f eo = some (.inr (1, [.ref nw1, .ref na1, .ref nq1, .ref nr1, .int (num S1.2.2.2.2.2.2.1), .int S1.1, .int S1.2.2.2.1, .int S1.2.2.1, .int S1.2.1, .int S1.2.2.2.2.1, .int S1.2.2.2.2.2.1])) := (hq.2.2.1).1
  refine lv_aload_n hx hb dX4_open_0 rfl (lv_at hl9 0 rfl) ?_
  refine lv_iload_n hx hb dX4_open_1 rfl (lv_at hl9 1 rfl) ?_
  refine hp_V (ci := 4) (As := [.int 0]) (rest := []) B0 hw hS (c_X4_endAt hl G f xo ez eo bu h1 0) mV_X4_endAt qM_X4_28 rfl h1 rfl rfl hl9.1 (Nat.le_of_ble_eq_true rfl) ⟨⟨Nat.le_of_ble_eq_true rfl, Nat.le_of_ble_eq_true rfl⟩, Nat.le_of_ble_eq_true rfl, Nat.le_of_ble_eq_true rfl⟩ dX4_open_2 (fun E ce q9 f4 H locs hPX hw hS hce hcv hcl => ?_) (fun v f4 H locs hP hw hS => ?_)
  · obtain ⟨ef9, eE9, hE9⟩ := hPX
    rw [ef9] at hw
    exact absurd (Or.inl rfl) hE9
  · obtain ⟨ef9, hv9⟩ := hP
    rw [ef9] at hw
    rcases hv9 with ⟨k9, ev9⟩ | ⟨k9, ev9⟩
    rotate_left
    exact absurd k9 (by decide)
    subst ev9
    refine W.eq (g2 := F0 m 5 ls [.ref ez]) rfl ?_
    refine lv_astore_n (lv' := [(2, .ref ez), (0, .ref xo), (1, .int 0)]) hx hb dX4_open_5 rfl hl9 (by decide) rfl (fun ls hl9 => ?_)
    refine lv_aload_n hx hb dX4_open_6 rfl (lv_at hl9 0 rfl) ?_
    refine hp_getN B0 hw 1 rfl in_X1 h2 5 (by decide) oF_X4_55 rfl dX4_open_7 ?_
    refine lv_if_eq (tgt := 23) hx hb dX4_open_10 (by decide) (fun _ => ?_) (fun c9 => absurd hst c9)
    refine lv_aload_n hx hb dX4_open_23 rfl (lv_at hl9 0 rfl) ?_
    have h5 : f nw0 = some (.inl (cI G, 6, .inl gw0)) := hq.2.2.2.1
    refine hp_V (ci := 1) (As := []) (rest := []) B0 hw hS (c_X1_beginX hl G f ez nw0 na0 nq0 nr0 S0.1 S0.2.1 S0.2.2.1 S0.2.2.2.1 S0.2.2.2.2.1 S0.2.2.2.2.2.1 S0.2.2.2.2.2.2.1 S0.2.2.2.2.2.2.2.1 S0.2.2.2.2.2.2.2.2 Q0 (hq.2.1) (len3 (EX.len (hq.2.1)) hL0) gw0 h5 (hq.2.2.2.2.2.2.2.2.2.2.2.2.2.2.2.2.2.2.2.1)) mV_X1_begin qM_X4_64 rfl h2 rfl rfl hl9.1 (Nat.le_of_ble_eq_true rfl) ⟨⟨Nat.le_of_ble_eq_true rfl, Nat.le_of_ble_eq_true rfl⟩, Nat.le_of_ble_eq_true rfl, Nat.le_of_ble_eq_true rfl⟩ dX4_open_24 (fun E ce q9 f6 H locs hPX hw hS hce hcv hcl => ?_) (fun v f6 H locs hP hw hS => ?_)
    · exact hPX.elim
    · obtain ⟨ev9, N7, hN8, hE10, hk11⟩ := hP
      have hq12 : CXQ G f6 xo ez eo bu nw0 na0 nq0 nr0 nw1 na1 nq1 nr1 bs bp bh bf bl bg (Q0 ++ N7) Q1 (openS gw0 S0) S1 gw0 ga0 gw1 ga1 n a cg x sa pk fl gv gh gl := CXQ.u0 hq hE10 hk11 (fun c9 h9 => (List.mem_append.mp h9).imp id (hN8 c9))
      have h13 : f6 xo = some (.inr (4, [.ref ez, .ref eo, .ref bu])) := hq12.1
      have h14 : f6 ez = some (.inr (1, [.ref nw0, .ref na0, .ref nq0, .ref nr0, .int (num ((openS gw0 S0).2.2.2.2.2.2.1)), .int ((openS gw0 S0).1), .int ((openS gw0 S0).2.2.2.1), .int ((openS gw0 S0).2.2.1), .int ((openS gw0 S0).2.1), .int ((openS gw0 S0).2.2.2.2.1), .int ((openS gw0 S0).2.2.2.2.2.1)])) := (hq12.2.1).1
      have h15 : f6 eo = some (.inr (1, [.ref nw1, .ref na1, .ref nq1, .ref nr1, .int (num S1.2.2.2.2.2.2.1), .int S1.1, .int S1.2.2.2.1, .int S1.2.2.1, .int S1.2.1, .int S1.2.2.2.2.1, .int S1.2.2.2.2.2.1])) := (hq12.2.2.1).1
      subst ev9
      refine W.eq (g2 := F0 m 27 ls [.int (S0.2.1 + 1)]) rfl ?_
      exact hp_iret (v := (S0.2.1 + 1)) B0 hw hS hr ⟨Nat.le_of_ble_eq_true rfl, Nat.le_of_ble_eq_true rfl⟩ dX4_open_27 (⟨rfl, ⟨_, _, hq12⟩, (show hKn [xo, ez, eo, bu, nw0, na0, nq0, nr0, nw1, na1, nq1, nr1, bs, bp, bh, bf, bl, bg] f f6 from (hKn.mono (hK2.n hk11) (sub_cons (List.mem_cons_of_mem _ List.mem_cons_self) (sub_cons (List.mem_cons_of_mem _ (List.mem_cons_of_mem _ (List.mem_cons_of_mem _ (List.mem_cons_of_mem _ (List.mem_cons_of_mem _ (List.mem_cons_of_mem _ List.mem_cons_self)))))) (sub_cons (List.mem_cons_of_mem _ (List.mem_cons_of_mem _ (List.mem_cons_of_mem _ (List.mem_cons_of_mem _ (List.mem_cons_of_mem _ (List.mem_cons_of_mem _ (List.mem_cons_of_mem _ List.mem_cons_self))))))) sub_nil)))))⟩)

set_option maxHeartbeats 4000000 in
set_option maxRecDepth 100000 in
theorem c_P_open_S0 {l : Launch} (hl : l.stackTraces = false) (G : hG) (f : hM) (xo ez eo bu nw0 na0 nq0 nr0 nw1 na1 nq1 nr1 bs bp bh bf bl bg : Nat) (S0 : ES) (S1 : ES) (gw0 : Nat → Int32) (ga0 : Nat → Int32) (gw1 : Nat → Int32) (ga1 : Nat → Int32) (n : Nat) (a : Nat) (cg : Nat) (x : Nat) (sa : Nat → Nat) (pk : Nat → Nat) (fl : Nat → Nat) (gv : Nat → Nat) (gh : Nat → Int32) (gl : Nat → Int32) (hC : CXW G f xo ez eo bu nw0 na0 nq0 nr0 nw1 na1 nq1 nr1 bs bp bh bf bl bg S0 S1 gw0 ga0 gw1 ga1 n a cg x sa pk fl gv gh gl) (hL0 : S0.2.2.2.2.2.2.2.2.length < 3000) (hL1 : S1.2.2.2.2.2.2.2.2.length < 3000) (hst : ¬ S0.1 = 0) : CT l yX4_open (.code yX4_open cX4_open 3 (some .int)) 7 103 2 12 G [.ref xo, .int 0] f (fun v f1 => False) (fun E f1 => E = eS ∧ CXW G f1 xo ez eo bu nw0 na0 nq0 nr0 nw1 na1 nq1 nr1 bs bp bh bf bl bg S0 S1 gw0 ga0 gw1 ga1 n a cg x sa pk fl gv gh gl ∧ hKn [xo, ez, eo, bu, nw0, na0, nq0, nr0, nw1, na1, nq1, nr1, bs, bp, bh, bf, bl, bg] f f1) := by
  refine hp_start hl (own := RX4) (by decide) rfl (Nat.le_of_ble_eq_true rfl) ?_
  intro p e s m args below meth c B0 hr hnm hout hw hS ls hl9
  have hx := B0.1
  have hb := B0.2.1
  have hl9 : lv_has ls 3 [(0, .ref xo), (1, .int 0)] := hl9
  obtain ⟨Q0, Q1, hq⟩ := id hC
  have h1 : f xo = some (.inr (4, [.ref ez, .ref eo, .ref bu])) := hq.1
  have h2 : f ez = some (.inr (1, [.ref nw0, .ref na0, .ref nq0, .ref nr0, .int (num S0.2.2.2.2.2.2.1), .int S0.1, .int S0.2.2.2.1, .int S0.2.2.1, .int S0.2.1, .int S0.2.2.2.2.1, .int S0.2.2.2.2.2.1])) := (hq.2.1).1
  have h3 : f eo = some (.inr (1, [.ref nw1, .ref na1, .ref nq1, .ref nr1, .int (num S1.2.2.2.2.2.2.1), .int S1.1, .int S1.2.2.2.1, .int S1.2.2.1, .int S1.2.1, .int S1.2.2.2.2.1, .int S1.2.2.2.2.2.1])) := (hq.2.2.1).1
  refine lv_aload_n hx hb dX4_open_0 rfl (lv_at hl9 0 rfl) ?_
  refine lv_iload_n hx hb dX4_open_1 rfl (lv_at hl9 1 rfl) ?_
  refine hp_V (ci := 4) (As := [.int 0]) (rest := []) B0 hw hS (c_X4_endAt hl G f xo ez eo bu h1 0) mV_X4_endAt qM_X4_28 rfl h1 rfl rfl hl9.1 (Nat.le_of_ble_eq_true rfl) ⟨⟨Nat.le_of_ble_eq_true rfl, Nat.le_of_ble_eq_true rfl⟩, Nat.le_of_ble_eq_true rfl, Nat.le_of_ble_eq_true rfl⟩ dX4_open_2 (fun E ce q9 f4 H locs hPX hw hS hce hcv hcl => ?_) (fun v f4 H locs hP hw hS => ?_)
  · obtain ⟨ef9, eE9, hE9⟩ := hPX
    rw [ef9] at hw
    exact absurd (Or.inl rfl) hE9
  · obtain ⟨ef9, hv9⟩ := hP
    rw [ef9] at hw
    rcases hv9 with ⟨k9, ev9⟩ | ⟨k9, ev9⟩
    rotate_left
    exact absurd k9 (by decide)
    subst ev9
    refine W.eq (g2 := F0 m 5 ls [.ref ez]) rfl ?_
    refine lv_astore_n (lv' := [(2, .ref ez), (0, .ref xo), (1, .int 0)]) hx hb dX4_open_5 rfl hl9 (by decide) rfl (fun ls hl9 => ?_)
    refine lv_aload_n hx hb dX4_open_6 rfl (lv_at hl9 0 rfl) ?_
    refine hp_getN B0 hw 1 rfl in_X1 h2 5 (by decide) oF_X4_55 rfl dX4_open_7 ?_
    refine lv_if_eq (tgt := 23) hx hb dX4_open_10 (by decide) (fun c9 => absurd c9 hst) (fun _ => ?_)
    exact hp_throw (cls := eS) (names := tNm) B0 hw hS hout tF_eS qC_X4_59 qN_java_lang_IllegalStateException sR_X4_61 tA_eS tB_eS tG_eS hl9.1 dX4_open_13 dX4_open_16 dX4_open_17 dX4_open_19 dX4_open_22 ⟨⟨Nat.le_of_ble_eq_true rfl, Nat.le_of_ble_eq_true rfl⟩, Nat.le_of_ble_eq_true rfl, Nat.le_of_ble_eq_true rfl⟩ ⟨Nat.le_of_ble_eq_true rfl, Nat.le_of_ble_eq_true rfl⟩ (⟨rfl, ⟨_, _, hq⟩, hKn.rf⟩)

set_option maxHeartbeats 4000000 in
set_option maxRecDepth 100000 in
theorem c_P_close_0 {l : Launch} (hl : l.stackTraces = false) (G : hG) (f : hM) (xo ez eo bu nw0 na0 nq0 nr0 nw1 na1 nq1 nr1 bs bp bh bf bl bg : Nat) (S0 : ES) (S1 : ES) (gw0 : Nat → Int32) (ga0 : Nat → Int32) (gw1 : Nat → Int32) (ga1 : Nat → Int32) (n : Nat) (a : Nat) (cg : Nat) (x : Nat) (sa : Nat → Nat) (pk : Nat → Nat) (fl : Nat → Nat) (gv : Nat → Nat) (gh : Nat → Int32) (gl : Nat → Int32) (hC : CXW G f xo ez eo bu nw0 na0 nq0 nr0 nw1 na1 nq1 nr1 bs bp bh bf bl bg S0 S1 gw0 ga0 gw1 ga1 n a cg x sa pk fl gv gh gl) (hL0 : S0.2.2.2.2.2.2.2.2.length < 3000) (hL1 : S1.2.2.2.2.2.2.2.2.length < 3000) (hst : ¬ S0.1 = 0) : CT l yX4_close (.code yX4_close cX4_close 3 (some .int)) 7 103 3 17 G [.ref xo, .int 0] f (fun v f1 => v = some (.int S0.1) ∧ CXW G f1 xo ez eo bu nw0 na0 nq0 nr0 nw1 na1 nq1 nr1 bs bp bh bf bl bg (closeS S0) S1 gw0 ga0 gw1 ga1 n a cg x sa pk fl gv gh gl ∧ hKn [xo, ez, eo, bu, nw0, na0, nq0, nr0, nw1, na1, nq1, nr1, bs, bp, bh, bf, bl, bg] f f1) (fun E f1 => False) := by
  refine hp_start hl (own := RX4) (by decide) rfl (Nat.le_of_ble_eq_true rfl) ?_
  intro p e s m args below meth c B0 hr hnm hout hw hS ls hl9
  have hx := B0.1
  have hb := B0.2.1
  have hl9 : lv_has ls 3 [(0, .ref xo), (1, .int 0)] := hl9
  obtain ⟨Q0, Q1, hq⟩ := id hC
  have h1 : f xo = some (.inr (4, [.ref ez, .ref eo, .ref bu])) := hq.1
  have h2 : f ez = some (.inr (1, [.ref nw0, .ref na0, .ref nq0, .ref nr0, .int (num S0.2.2.2.2.2.2.1), .int S0.1, .int S0.2.2.2.1, .int S0.2.2.1, .int S0.2.1, .int S0.2.2.2.2.1, .int S0.2.2.2.2.2.1])) := (hq.2.1).1
  have h3 : f eo = some (.inr (1, [.ref nw1, .ref na1, .ref nq1, .ref nr1, .int (num S1.2.2.2.2.2.2.1), .int S1.1, .int S1.2.2.2.1, .int S1.2.2.1, .int S1.2.1, .int S1.2.2.2.2.1, .int S1.2.2.2.2.2.1])) := (hq.2.2.1).1
  refine lv_aload_n hx hb dX4_close_0 rfl (lv_at hl9 0 rfl) ?_
  refine lv_iload_n hx hb dX4_close_1 rfl (lv_at hl9 1 rfl) ?_
  refine hp_V (ci := 4) (As := [.int 0]) (rest := []) B0 hw hS (c_X4_endAt hl G f xo ez eo bu h1 0) mV_X4_endAt qM_X4_28 rfl h1 rfl rfl hl9.1 (Nat.le_of_ble_eq_true rfl) ⟨⟨Nat.le_of_ble_eq_true rfl, Nat.le_of_ble_eq_true rfl⟩, Nat.le_of_ble_eq_true rfl, Nat.le_of_ble_eq_true rfl⟩ dX4_close_2 (fun E ce q9 f4 H locs hPX hw hS hce hcv hcl => ?_) (fun v f4 H locs hP hw hS => ?_)
  · obtain ⟨ef9, eE9, hE9⟩ := hPX
    rw [ef9] at hw
    exact absurd (Or.inl rfl) hE9
  · obtain ⟨ef9, hv9⟩ := hP
    rw [ef9] at hw
    rcases hv9 with ⟨k9, ev9⟩ | ⟨k9, ev9⟩
    rotate_left
    exact absurd k9 (by decide)
    subst ev9
    refine W.eq (g2 := F0 m 5 ls [.ref ez]) rfl ?_
    refine lv_astore_n (lv' := [(2, .ref ez), (0, .ref xo), (1, .int 0)]) hx hb dX4_close_5 rfl hl9 (by decide) rfl (fun ls hl9 => ?_)
    refine lv_aload_n hx hb dX4_close_6 rfl (lv_at hl9 0 rfl) ?_
    refine hp_getN B0 hw 1 rfl in_X1 h2 5 (by decide) oF_X4_55 rfl dX4_close_7 ?_
    refine lv_if_ne (tgt := 23) hx hb dX4_close_10 (by decide) (fun _ => ?_) (fun c9 => absurd c9 hst)
    refine lv_aload_n hx hb dX4_close_23 rfl (lv_at hl9 0 rfl) ?_
    refine hp_V (ci := 1) (As := []) (rest := []) B0 hw hS (c_X1_finishX hl G f ez nw0 na0 nq0 nr0 S0.1 S0.2.1 S0.2.2.1 S0.2.2.2.1 S0.2.2.2.2.1 S0.2.2.2.2.2.1 S0.2.2.2.2.2.2.1 S0.2.2.2.2.2.2.2.1 S0.2.2.2.2.2.2.2.2 Q0 (hq.2.1) (len3 (EX.len (hq.2.1)) hL0)) mV_X1_finish qM_X4_70 rfl h2 rfl rfl hl9.1 (Nat.le_of_ble_eq_true rfl) ⟨⟨Nat.le_of_ble_eq_true rfl, Nat.le_of_ble_eq_true rfl⟩, Nat.le_of_ble_eq_true rfl, Nat.le_of_ble_eq_true rfl⟩ dX4_close_24 (fun E ce q9 f5 H locs hPX hw hS hce hcv hcl => ?_) (fun v f5 H locs hP hw hS => ?_)
    · exact hPX.elim
    · obtain ⟨ev9, N6, hN7, hE8, hk10⟩ := hP
      have hq11 : CXQ G f5 xo ez eo bu nw0 na0 nq0 nr0 nw1 na1 nq1 nr1 bs bp bh bf bl bg (Q0 ++ N6) Q1 (closeS S0) S1 gw0 ga0 gw1 ga1 n a cg x sa pk fl gv gh gl := CXQ.u0 hq hE8 hk10 (fun c9 h9 => (List.mem_append.mp h9).imp id (hN7 c9))
      have h12 : f5 xo = some (.inr (4, [.ref ez, .ref eo, .ref bu])) := hq11.1
      have h13 : f5 ez = some (.inr (1, [.ref nw0, .ref na0, .ref nq0, .ref nr0, .int (num ((closeS S0).2.2.2.2.2.2.1)), .int ((closeS S0).1), .int ((closeS S0).2.2.2.1), .int ((closeS S0).2.2.1), .int ((closeS S0).2.1), .int ((closeS S0).2.2.2.2.1), .int ((closeS S0).2.2.2.2.2.1)])) := (hq11.2.1).1
      have h14 : f5 eo = some (.inr (1, [.ref nw1, .ref na1, .ref nq1, .ref nr1, .int (num S1.2.2.2.2.2.2.1), .int S1.1, .int S1.2.2.2.1, .int S1.2.2.1, .int S1.2.1, .int S1.2.2.2.2.1, .int S1.2.2.2.2.2.1])) := (hq11.2.2.1).1
      subst ev9
      refine W.eq (g2 := F0 m 27 ls [.int (S0.1)]) rfl ?_
      exact hp_iret (v := (S0.1)) B0 hw hS hr ⟨Nat.le_of_ble_eq_true rfl, Nat.le_of_ble_eq_true rfl⟩ dX4_close_27 (⟨rfl, ⟨_, _, hq11⟩, (show hKn [xo, ez, eo, bu, nw0, na0, nq0, nr0, nw1, na1, nq1, nr1, bs, bp, bh, bf, bl, bg] f f5 from (hKn.mono (hK2.n hk10) (sub_cons (List.mem_cons_of_mem _ List.mem_cons_self) (sub_cons (List.mem_cons_of_mem _ (List.mem_cons_of_mem _ (List.mem_cons_of_mem _ (List.mem_cons_of_mem _ (List.mem_cons_of_mem _ (List.mem_cons_of_mem _ List.mem_cons_self)))))) (sub_cons (List.mem_cons_of_mem _ (List.mem_cons_of_mem _ (List.mem_cons_of_mem _ (List.mem_cons_of_mem _ (List.mem_cons_of_mem _ (List.mem_cons_of_mem _ (List.mem_cons_of_mem _ List.mem_cons_self))))))) sub_nil)))))⟩)

set_option maxHeartbeats 4000000 in
set_option maxRecDepth 100000 in
theorem c_P_close_S0 {l : Launch} (hl : l.stackTraces = false) (G : hG) (f : hM) (xo ez eo bu nw0 na0 nq0 nr0 nw1 na1 nq1 nr1 bs bp bh bf bl bg : Nat) (S0 : ES) (S1 : ES) (gw0 : Nat → Int32) (ga0 : Nat → Int32) (gw1 : Nat → Int32) (ga1 : Nat → Int32) (n : Nat) (a : Nat) (cg : Nat) (x : Nat) (sa : Nat → Nat) (pk : Nat → Nat) (fl : Nat → Nat) (gv : Nat → Nat) (gh : Nat → Int32) (gl : Nat → Int32) (hC : CXW G f xo ez eo bu nw0 na0 nq0 nr0 nw1 na1 nq1 nr1 bs bp bh bf bl bg S0 S1 gw0 ga0 gw1 ga1 n a cg x sa pk fl gv gh gl) (hL0 : S0.2.2.2.2.2.2.2.2.length < 3000) (hL1 : S1.2.2.2.2.2.2.2.2.length < 3000) (hst : S0.1 = 0) : CT l yX4_close (.code yX4_close cX4_close 3 (some .int)) 7 103 2 12 G [.ref xo, .int 0] f (fun v f1 => False) (fun E f1 => E = eS ∧ CXW G f1 xo ez eo bu nw0 na0 nq0 nr0 nw1 na1 nq1 nr1 bs bp bh bf bl bg S0 S1 gw0 ga0 gw1 ga1 n a cg x sa pk fl gv gh gl ∧ hKn [xo, ez, eo, bu, nw0, na0, nq0, nr0, nw1, na1, nq1, nr1, bs, bp, bh, bf, bl, bg] f f1) := by
  refine hp_start hl (own := RX4) (by decide) rfl (Nat.le_of_ble_eq_true rfl) ?_
  intro p e s m args below meth c B0 hr hnm hout hw hS ls hl9
  have hx := B0.1
  have hb := B0.2.1
  have hl9 : lv_has ls 3 [(0, .ref xo), (1, .int 0)] := hl9
  obtain ⟨Q0, Q1, hq⟩ := id hC
  have h1 : f xo = some (.inr (4, [.ref ez, .ref eo, .ref bu])) := hq.1
  have h2 : f ez = some (.inr (1, [.ref nw0, .ref na0, .ref nq0, .ref nr0, .int (num S0.2.2.2.2.2.2.1), .int S0.1, .int S0.2.2.2.1, .int S0.2.2.1, .int S0.2.1, .int S0.2.2.2.2.1, .int S0.2.2.2.2.2.1])) := (hq.2.1).1
  have h3 : f eo = some (.inr (1, [.ref nw1, .ref na1, .ref nq1, .ref nr1, .int (num S1.2.2.2.2.2.2.1), .int S1.1, .int S1.2.2.2.1, .int S1.2.2.1, .int S1.2.1, .int S1.2.2.2.2.1, .int S1.2.2.2.2.2.1])) := (hq.2.2.1).1
  refine lv_aload_n hx hb dX4_close_0 rfl (lv_at hl9 0 rfl) ?_
  refine lv_iload_n hx hb dX4_close_1 rfl (lv_at hl9 1 rfl) ?_
  refine hp_V (ci := 4) (As := [.int 0]) (rest := []) B0 hw hS (c_X4_endAt hl G f xo ez eo bu h1 0) mV_X4_endAt qM_X4_28 rfl h1 rfl rfl hl9.1 (Nat.le_of_ble_eq_true rfl) ⟨⟨Nat.le_of_ble_eq_true rfl, Nat.le_of_ble_eq_true rfl⟩, Nat.le_of_ble_eq_true rfl, Nat.le_of_ble_eq_true rfl⟩ dX4_close_2 (fun E ce q9 f4 H locs hPX hw hS hce hcv hcl => ?_) (fun v f4 H locs hP hw hS => ?_)
  · obtain ⟨ef9, eE9, hE9⟩ := hPX
    rw [ef9] at hw
    exact absurd (Or.inl rfl) hE9
  · obtain ⟨ef9, hv9⟩ := hP
    rw [ef9] at hw
    rcases hv9 with ⟨k9, ev9⟩ | ⟨k9, ev9⟩
    rotate_left
    exact absurd k9 (by decide)
    subst ev9
    refine W.eq (g2 := F0 m 5 ls [.ref ez]) rfl ?_
    refine lv_astore_n (lv' := [(2, .ref ez), (0, .ref xo), (1, .int 0)]) hx hb dX4_close_5 rfl hl9 (by decide) rfl (fun ls hl9 => ?_)
    refine lv_aload_n hx hb dX4_close_6 rfl (lv_at hl9 0 rfl) ?_
    refine hp_getN B0 hw 1 rfl in_X1 h2 5 (by decide) oF_X4_55 rfl dX4_close_7 ?_
    refine lv_if_ne (tgt := 23) hx hb dX4_close_10 (by decide) (fun c9 => absurd hst c9) (fun _ => ?_)
    exact hp_throw (cls := eS) (names := tNm) B0 hw hS hout tF_eS qC_X4_59 qN_java_lang_IllegalStateException sR_X4_68 tA_eS tB_eS tG_eS hl9.1 dX4_close_13 dX4_close_16 dX4_close_17 dX4_close_19 dX4_close_22 ⟨⟨Nat.le_of_ble_eq_true rfl, Nat.le_of_ble_eq_true rfl⟩, Nat.le_of_ble_eq_true rfl, Nat.le_of_ble_eq_true rfl⟩ ⟨Nat.le_of_ble_eq_true rfl, Nat.le_of_ble_eq_true rfl⟩ (⟨rfl, ⟨_, _, hq⟩, hKn.rf⟩)

set_option maxHeartbeats 4000000 in
set_option maxRecDepth 100000 in
theorem c_P_open_1 {l : Launch} (hl : l.stackTraces = false) (G : hG) (f : hM) (xo ez eo bu nw0 na0 nq0 nr0 nw1 na1 nq1 nr1 bs bp bh bf bl bg : Nat) (S0 : ES) (S1 : ES) (gw0 : Nat → Int32) (ga0 : Nat → Int32) (gw1 : Nat → Int32) (ga1 : Nat → Int32) (n : Nat) (a : Nat) (cg : Nat) (x : Nat) (sa : Nat → Nat) (pk : Nat → Nat) (fl : Nat → Nat) (gv : Nat → Nat) (gh : Nat → Int32) (gl : Nat → Int32) (hC : CXW G f xo ez eo bu nw0 na0 nq0 nr0 nw1 na1 nq1 nr1 bs bp bh bf bl bg S0 S1 gw0 ga0 gw1 ga1 n a cg x sa pk fl gv gh gl) (hL0 : S0.2.2.2.2.2.2.2.2.length < 3000) (hL1 : S1.2.2.2.2.2.2.2.2.length < 3000) (hst : S1.1 = 0) : CT l yX4_open (.code yX4_open cX4_open 3 (some .int)) 7 103 3 17 G [.ref xo, .int 1] f (fun v f1 => v = some (.int (S1.2.1 + 1)) ∧ CXW G f1 xo ez eo bu nw0 na0 nq0 nr0 nw1 na1 nq1 nr1 bs bp bh bf bl bg S0 (openS gw1 S1) gw0 ga0 gw1 ga1 n a cg x sa pk fl gv gh gl ∧ hKn [xo, ez, eo, bu, nw0, na0, nq0, nr0, nw1, na1, nq1, nr1, bs, bp, bh, bf, bl, bg] f f1) (fun E f1 => False) := by
  refine hp_start hl (own := RX4) (by decide) rfl (Nat.le_of_ble_eq_true rfl) ?_
  intro p e s m args below meth c B0 hr hnm hout hw hS ls hl9
  have hx := B0.1
  have hb := B0.2.1
  have hl9 : lv_has ls 3 [(0, .ref xo), (1, .int 1)] := hl9
  obtain ⟨Q0, Q1, hq⟩ := id hC
  have h1 : f xo = some (.inr (4, [.ref ez, .ref eo, .ref bu])) := hq.1
  have h2 : f ez = some (.inr (1, [.ref nw0, .ref na0, .ref nq0, .ref nr0, .int (num S0.2.2.2.2.2.2.1), .int S0.1, .int S0.2.2.2.1, .int S0.2.2.1, .int S0.2.1, .int S0.2.2.2.2.1, .int S0.2.2.2.2.2.1])) := (hq.2.1).1
  have h3 : f eo = some (.inr (1, [.ref nw1, .ref na1, .ref nq1, .ref nr1, .int (num S1.2.2.2.2.2.2.1), .int S1.1, .int S1.2.2.2.1, .int S1.2.2.1, .int S1.2.1, .int S1.2.2.2.2.1, .int S1.2.2.2.2.2.1])) := (hq.2.2.1).1
  refine lv_aload_n hx hb dX4_open_0 rfl (lv_at hl9 0 rfl) ?_
  refine lv_iload_n hx hb dX4_open_1 rfl (lv_at hl9 1 rfl) ?_
  refine hp_V (ci := 4) (As := [.int 1]) (rest := []) B0 hw hS (c_X4_endAt hl G f xo ez eo bu h1 1) mV_X4_endAt qM_X4_28 rfl h1 rfl rfl hl9.1 (Nat.le_of_ble_eq_true rfl) ⟨⟨Nat.le_of_ble_eq_true rfl, Nat.le_of_ble_eq_true rfl⟩, Nat.le_of_ble_eq_true rfl, Nat.le_of_ble_eq_true rfl⟩ dX4_open_2 (fun E ce q9 f4 H locs hPX hw hS hce hcv hcl => ?_) (fun v f4 H locs hP hw hS => ?_)
  · obtain ⟨ef9, eE9, hE9⟩ := hPX
    rw [ef9] at hw
    exact absurd (Or.inr rfl) hE9
  · obtain ⟨ef9, hv9⟩ := hP
    rw [ef9] at hw
    rcases hv9 with ⟨k9, ev9⟩ | ⟨k9, ev9⟩
    exact absurd k9 (by decide)
    subst ev9
    refine W.eq (g2 := F0 m 5 ls [.ref eo]) rfl ?_
    refine lv_astore_n (lv' := [(2, .ref eo), (0, .ref xo), (1, .int 1)]) hx hb dX4_open_5 rfl hl9 (by decide) rfl (fun ls hl9 => ?_)
    refine lv_aload_n hx hb dX4_open_6 rfl (lv_at hl9 0 rfl) ?_
    refine hp_getN B0 hw 1 rfl in_X1 h3 5 (by decide) oF_X4_55 rfl dX4_open_7 ?_
    refine lv_if_eq (tgt := 23) hx hb dX4_open_10 (by decide) (fun _ => ?_) (fun c9 => absurd hst c9)
    refine lv_aload_n hx hb dX4_open_23 rfl (lv_at hl9 0 rfl) ?_
    have h5 : f nw1 = some (.inl (cI G, 6, .inl gw1)) := hq.2.2.2.2.2.1
    refine hp_V (ci := 1) (As := []) (rest := []) B0 hw hS (c_X1_beginX hl G f eo nw1 na1 nq1 nr1 S1.1 S1.2.1 S1.2.2.1 S1.2.2.2.1 S1.2.2.2.2.1 S1.2.2.2.2.2.1 S1.2.2.2.2.2.2.1 S1.2.2.2.2.2.2.2.1 S1.2.2.2.2.2.2.2.2 Q1 (hq.2.2.1) (len3 (EX.len (hq.2.2.1)) hL1) gw1 h5 (hq.2.2.2.2.2.2.2.2.2.2.2.2.2.2.2.2.2.2.2.2.2.2.2.2.2.2.2.2.2.2.2.1)) mV_X1_begin qM_X4_64 rfl h3 rfl rfl hl9.1 (Nat.le_of_ble_eq_true rfl) ⟨⟨Nat.le_of_ble_eq_true rfl, Nat.le_of_ble_eq_true rfl⟩, Nat.le_of_ble_eq_true rfl, Nat.le_of_ble_eq_true rfl⟩ dX4_open_24 (fun E ce q9 f6 H locs hPX hw hS hce hcv hcl => ?_) (fun v f6 H locs hP hw hS => ?_)
    · exact hPX.elim
    · obtain ⟨ev9, N7, hN8, hE10, hk11⟩ := hP
      have hq12 : CXQ G f6 xo ez eo bu nw0 na0 nq0 nr0 nw1 na1 nq1 nr1 bs bp bh bf bl bg Q0 (Q1 ++ N7) S0 (openS gw1 S1) gw0 ga0 gw1 ga1 n a cg x sa pk fl gv gh gl := CXQ.u1 hq hE10 hk11 (fun c9 h9 => (List.mem_append.mp h9).imp id (hN8 c9))
      have h13 : f6 xo = some (.inr (4, [.ref ez, .ref eo, .ref bu])) := hq12.1
      have h14 : f6 ez = some (.inr (1, [.ref nw0, .ref na0, .ref nq0, .ref nr0, .int (num S0.2.2.2.2.2.2.1), .int S0.1, .int S0.2.2.2.1, .int S0.2.2.1, .int S0.2.1, .int S0.2.2.2.2.1, .int S0.2.2.2.2.2.1])) := (hq12.2.1).1
      have h15 : f6 eo = some (.inr (1, [.ref nw1, .ref na1, .ref nq1, .ref nr1, .int (num ((openS gw1 S1).2.2.2.2.2.2.1)), .int ((openS gw1 S1).1), .int ((openS gw1 S1).2.2.2.1), .int ((openS gw1 S1).2.2.1), .int ((openS gw1 S1).2.1), .int ((openS gw1 S1).2.2.2.2.1), .int ((openS gw1 S1).2.2.2.2.2.1)])) := (hq12.2.2.1).1
      subst ev9
      refine W.eq (g2 := F0 m 27 ls [.int (S1.2.1 + 1)]) rfl ?_
      exact hp_iret (v := (S1.2.1 + 1)) B0 hw hS hr ⟨Nat.le_of_ble_eq_true rfl, Nat.le_of_ble_eq_true rfl⟩ dX4_open_27 (⟨rfl, ⟨_, _, hq12⟩, (show hKn [xo, ez, eo, bu, nw0, na0, nq0, nr0, nw1, na1, nq1, nr1, bs, bp, bh, bf, bl, bg] f f6 from (hKn.mono (hK2.n hk11) (sub_cons (List.mem_cons_of_mem _ (List.mem_cons_of_mem _ List.mem_cons_self)) (sub_cons (List.mem_cons_of_mem _ (List.mem_cons_of_mem _ (List.mem_cons_of_mem _ (List.mem_cons_of_mem _ (List.mem_cons_of_mem _ (List.mem_cons_of_mem _ (List.mem_cons_of_mem _ (List.mem_cons_of_mem _ (List.mem_cons_of_mem _ (List.mem_cons_of_mem _ List.mem_cons_self)))))))))) (sub_cons (List.mem_cons_of_mem _ (List.mem_cons_of_mem _ (List.mem_cons_of_mem _ (List.mem_cons_of_mem _ (List.mem_cons_of_mem _ (List.mem_cons_of_mem _ (List.mem_cons_of_mem _ (List.mem_cons_of_mem _ (List.mem_cons_of_mem _ (List.mem_cons_of_mem _ (List.mem_cons_of_mem _ List.mem_cons_self))))))))))) sub_nil)))))⟩)

set_option maxHeartbeats 4000000 in
set_option maxRecDepth 100000 in
theorem c_P_open_S1 {l : Launch} (hl : l.stackTraces = false) (G : hG) (f : hM) (xo ez eo bu nw0 na0 nq0 nr0 nw1 na1 nq1 nr1 bs bp bh bf bl bg : Nat) (S0 : ES) (S1 : ES) (gw0 : Nat → Int32) (ga0 : Nat → Int32) (gw1 : Nat → Int32) (ga1 : Nat → Int32) (n : Nat) (a : Nat) (cg : Nat) (x : Nat) (sa : Nat → Nat) (pk : Nat → Nat) (fl : Nat → Nat) (gv : Nat → Nat) (gh : Nat → Int32) (gl : Nat → Int32) (hC : CXW G f xo ez eo bu nw0 na0 nq0 nr0 nw1 na1 nq1 nr1 bs bp bh bf bl bg S0 S1 gw0 ga0 gw1 ga1 n a cg x sa pk fl gv gh gl) (hL0 : S0.2.2.2.2.2.2.2.2.length < 3000) (hL1 : S1.2.2.2.2.2.2.2.2.length < 3000) (hst : ¬ S1.1 = 0) : CT l yX4_open (.code yX4_open cX4_open 3 (some .int)) 7 103 2 12 G [.ref xo, .int 1] f (fun v f1 => False) (fun E f1 => E = eS ∧ CXW G f1 xo ez eo bu nw0 na0 nq0 nr0 nw1 na1 nq1 nr1 bs bp bh bf bl bg S0 S1 gw0 ga0 gw1 ga1 n a cg x sa pk fl gv gh gl ∧ hKn [xo, ez, eo, bu, nw0, na0, nq0, nr0, nw1, na1, nq1, nr1, bs, bp, bh, bf, bl, bg] f f1) := by
  refine hp_start hl (own := RX4) (by decide) rfl (Nat.le_of_ble_eq_true rfl) ?_
  intro p e s m args below meth c B0 hr hnm hout hw hS ls hl9
  have hx := B0.1
  have hb := B0.2.1
  have hl9 : lv_has ls 3 [(0, .ref xo), (1, .int 1)] := hl9
  obtain ⟨Q0, Q1, hq⟩ := id hC
  have h1 : f xo = some (.inr (4, [.ref ez, .ref eo, .ref bu])) := hq.1
  have h2 : f ez = some (.inr (1, [.ref nw0, .ref na0, .ref nq0, .ref nr0, .int (num S0.2.2.2.2.2.2.1), .int S0.1, .int S0.2.2.2.1, .int S0.2.2.1, .int S0.2.1, .int S0.2.2.2.2.1, .int S0.2.2.2.2.2.1])) := (hq.2.1).1
  have h3 : f eo = some (.inr (1, [.ref nw1, .ref na1, .ref nq1, .ref nr1, .int (num S1.2.2.2.2.2.2.1), .int S1.1, .int S1.2.2.2.1, .int S1.2.2.1, .int S1.2.1, .int S1.2.2.2.2.1, .int S1.2.2.2.2.2.1])) := (hq.2.2.1).1
  refine lv_aload_n hx hb dX4_open_0 rfl (lv_at hl9 0 rfl) ?_
  refine lv_iload_n hx hb dX4_open_1 rfl (lv_at hl9 1 rfl) ?_
  refine hp_V (ci := 4) (As := [.int 1]) (rest := []) B0 hw hS (c_X4_endAt hl G f xo ez eo bu h1 1) mV_X4_endAt qM_X4_28 rfl h1 rfl rfl hl9.1 (Nat.le_of_ble_eq_true rfl) ⟨⟨Nat.le_of_ble_eq_true rfl, Nat.le_of_ble_eq_true rfl⟩, Nat.le_of_ble_eq_true rfl, Nat.le_of_ble_eq_true rfl⟩ dX4_open_2 (fun E ce q9 f4 H locs hPX hw hS hce hcv hcl => ?_) (fun v f4 H locs hP hw hS => ?_)
  · obtain ⟨ef9, eE9, hE9⟩ := hPX
    rw [ef9] at hw
    exact absurd (Or.inr rfl) hE9
  · obtain ⟨ef9, hv9⟩ := hP
    rw [ef9] at hw
    rcases hv9 with ⟨k9, ev9⟩ | ⟨k9, ev9⟩
    exact absurd k9 (by decide)
    subst ev9
    refine W.eq (g2 := F0 m 5 ls [.ref eo]) rfl ?_
    refine lv_astore_n (lv' := [(2, .ref eo), (0, .ref xo), (1, .int 1)]) hx hb dX4_open_5 rfl hl9 (by decide) rfl (fun ls hl9 => ?_)
    refine lv_aload_n hx hb dX4_open_6 rfl (lv_at hl9 0 rfl) ?_
    refine hp_getN B0 hw 1 rfl in_X1 h3 5 (by decide) oF_X4_55 rfl dX4_open_7 ?_
    refine lv_if_eq (tgt := 23) hx hb dX4_open_10 (by decide) (fun c9 => absurd c9 hst) (fun _ => ?_)
    exact hp_throw (cls := eS) (names := tNm) B0 hw hS hout tF_eS qC_X4_59 qN_java_lang_IllegalStateException sR_X4_61 tA_eS tB_eS tG_eS hl9.1 dX4_open_13 dX4_open_16 dX4_open_17 dX4_open_19 dX4_open_22 ⟨⟨Nat.le_of_ble_eq_true rfl, Nat.le_of_ble_eq_true rfl⟩, Nat.le_of_ble_eq_true rfl, Nat.le_of_ble_eq_true rfl⟩ ⟨Nat.le_of_ble_eq_true rfl, Nat.le_of_ble_eq_true rfl⟩ (⟨rfl, ⟨_, _, hq⟩, hKn.rf⟩)

set_option maxHeartbeats 4000000 in
set_option maxRecDepth 100000 in
theorem c_P_close_1 {l : Launch} (hl : l.stackTraces = false) (G : hG) (f : hM) (xo ez eo bu nw0 na0 nq0 nr0 nw1 na1 nq1 nr1 bs bp bh bf bl bg : Nat) (S0 : ES) (S1 : ES) (gw0 : Nat → Int32) (ga0 : Nat → Int32) (gw1 : Nat → Int32) (ga1 : Nat → Int32) (n : Nat) (a : Nat) (cg : Nat) (x : Nat) (sa : Nat → Nat) (pk : Nat → Nat) (fl : Nat → Nat) (gv : Nat → Nat) (gh : Nat → Int32) (gl : Nat → Int32) (hC : CXW G f xo ez eo bu nw0 na0 nq0 nr0 nw1 na1 nq1 nr1 bs bp bh bf bl bg S0 S1 gw0 ga0 gw1 ga1 n a cg x sa pk fl gv gh gl) (hL0 : S0.2.2.2.2.2.2.2.2.length < 3000) (hL1 : S1.2.2.2.2.2.2.2.2.length < 3000) (hst : ¬ S1.1 = 0) : CT l yX4_close (.code yX4_close cX4_close 3 (some .int)) 7 103 3 17 G [.ref xo, .int 1] f (fun v f1 => v = some (.int S1.1) ∧ CXW G f1 xo ez eo bu nw0 na0 nq0 nr0 nw1 na1 nq1 nr1 bs bp bh bf bl bg S0 (closeS S1) gw0 ga0 gw1 ga1 n a cg x sa pk fl gv gh gl ∧ hKn [xo, ez, eo, bu, nw0, na0, nq0, nr0, nw1, na1, nq1, nr1, bs, bp, bh, bf, bl, bg] f f1) (fun E f1 => False) := by
  refine hp_start hl (own := RX4) (by decide) rfl (Nat.le_of_ble_eq_true rfl) ?_
  intro p e s m args below meth c B0 hr hnm hout hw hS ls hl9
  have hx := B0.1
  have hb := B0.2.1
  have hl9 : lv_has ls 3 [(0, .ref xo), (1, .int 1)] := hl9
  obtain ⟨Q0, Q1, hq⟩ := id hC
  have h1 : f xo = some (.inr (4, [.ref ez, .ref eo, .ref bu])) := hq.1
  have h2 : f ez = some (.inr (1, [.ref nw0, .ref na0, .ref nq0, .ref nr0, .int (num S0.2.2.2.2.2.2.1), .int S0.1, .int S0.2.2.2.1, .int S0.2.2.1, .int S0.2.1, .int S0.2.2.2.2.1, .int S0.2.2.2.2.2.1])) := (hq.2.1).1
  have h3 : f eo = some (.inr (1, [.ref nw1, .ref na1, .ref nq1, .ref nr1, .int (num S1.2.2.2.2.2.2.1), .int S1.1, .int S1.2.2.2.1, .int S1.2.2.1, .int S1.2.1, .int S1.2.2.2.2.1, .int S1.2.2.2.2.2.1])) := (hq.2.2.1).1
  refine lv_aload_n hx hb dX4_close_0 rfl (lv_at hl9 0 rfl) ?_
  refine lv_iload_n hx hb dX4_close_1 rfl (lv_at hl9 1 rfl) ?_
  refine hp_V (ci := 4) (As := [.int 1]) (rest := []) B0 hw hS (c_X4_endAt hl G f xo ez eo bu h1 1) mV_X4_endAt qM_X4_28 rfl h1 rfl rfl hl9.1 (Nat.le_of_ble_eq_true rfl) ⟨⟨Nat.le_of_ble_eq_true rfl, Nat.le_of_ble_eq_true rfl⟩, Nat.le_of_ble_eq_true rfl, Nat.le_of_ble_eq_true rfl⟩ dX4_close_2 (fun E ce q9 f4 H locs hPX hw hS hce hcv hcl => ?_) (fun v f4 H locs hP hw hS => ?_)
  · obtain ⟨ef9, eE9, hE9⟩ := hPX
    rw [ef9] at hw
    exact absurd (Or.inr rfl) hE9
  · obtain ⟨ef9, hv9⟩ := hP
    rw [ef9] at hw
    rcases hv9 with ⟨k9, ev9⟩ | ⟨k9, ev9⟩
    exact absurd k9 (by decide)
    subst ev9
    refine W.eq (g2 := F0 m 5 ls [.ref eo]) rfl ?_
    refine lv_astore_n (lv' := [(2, .ref eo), (0, .ref xo), (1, .int 1)]) hx hb dX4_close_5 rfl hl9 (by decide) rfl (fun ls hl9 => ?_)
    refine lv_aload_n hx hb dX4_close_6 rfl (lv_at hl9 0 rfl) ?_
    refine hp_getN B0 hw 1 rfl in_X1 h3 5 (by decide) oF_X4_55 rfl dX4_close_7 ?_
    refine lv_if_ne (tgt := 23) hx hb dX4_close_10 (by decide) (fun _ => ?_) (fun c9 => absurd c9 hst)
    refine lv_aload_n hx hb dX4_close_23 rfl (lv_at hl9 0 rfl) ?_
    refine hp_V (ci := 1) (As := []) (rest := []) B0 hw hS (c_X1_finishX hl G f eo nw1 na1 nq1 nr1 S1.1 S1.2.1 S1.2.2.1 S1.2.2.2.1 S1.2.2.2.2.1 S1.2.2.2.2.2.1 S1.2.2.2.2.2.2.1 S1.2.2.2.2.2.2.2.1 S1.2.2.2.2.2.2.2.2 Q1 (hq.2.2.1) (len3 (EX.len (hq.2.2.1)) hL1)) mV_X1_finish qM_X4_70 rfl h3 rfl rfl hl9.1 (Nat.le_of_ble_eq_true rfl) ⟨⟨Nat.le_of_ble_eq_true rfl, Nat.le_of_ble_eq_true rfl⟩, Nat.le_of_ble_eq_true rfl, Nat.le_of_ble_eq_true rfl⟩ dX4_close_24 (fun E ce q9 f5 H locs hPX hw hS hce hcv hcl => ?_) (fun v f5 H locs hP hw hS => ?_)
    · exact hPX.elim
    · obtain ⟨ev9, N6, hN7, hE8, hk10⟩ := hP
      have hq11 : CXQ G f5 xo ez eo bu nw0 na0 nq0 nr0 nw1 na1 nq1 nr1 bs bp bh bf bl bg Q0 (Q1 ++ N6) S0 (closeS S1) gw0 ga0 gw1 ga1 n a cg x sa pk fl gv gh gl := CXQ.u1 hq hE8 hk10 (fun c9 h9 => (List.mem_append.mp h9).imp id (hN7 c9))
      have h12 : f5 xo = some (.inr (4, [.ref ez, .ref eo, .ref bu])) := hq11.1
      have h13 : f5 ez = some (.inr (1, [.ref nw0, .ref na0, .ref nq0, .ref nr0, .int (num S0.2.2.2.2.2.2.1), .int S0.1, .int S0.2.2.2.1, .int S0.2.2.1, .int S0.2.1, .int S0.2.2.2.2.1, .int S0.2.2.2.2.2.1])) := (hq11.2.1).1
      have h14 : f5 eo = some (.inr (1, [.ref nw1, .ref na1, .ref nq1, .ref nr1, .int (num ((closeS S1).2.2.2.2.2.2.1)), .int ((closeS S1).1), .int ((closeS S1).2.2.2.1), .int ((closeS S1).2.2.1), .int ((closeS S1).2.1), .int ((closeS S1).2.2.2.2.1), .int ((closeS S1).2.2.2.2.2.1)])) := (hq11.2.2.1).1
      subst ev9
      refine W.eq (g2 := F0 m 27 ls [.int (S1.1)]) rfl ?_
      exact hp_iret (v := (S1.1)) B0 hw hS hr ⟨Nat.le_of_ble_eq_true rfl, Nat.le_of_ble_eq_true rfl⟩ dX4_close_27 (⟨rfl, ⟨_, _, hq11⟩, (show hKn [xo, ez, eo, bu, nw0, na0, nq0, nr0, nw1, na1, nq1, nr1, bs, bp, bh, bf, bl, bg] f f5 from (hKn.mono (hK2.n hk10) (sub_cons (List.mem_cons_of_mem _ (List.mem_cons_of_mem _ List.mem_cons_self)) (sub_cons (List.mem_cons_of_mem _ (List.mem_cons_of_mem _ (List.mem_cons_of_mem _ (List.mem_cons_of_mem _ (List.mem_cons_of_mem _ (List.mem_cons_of_mem _ (List.mem_cons_of_mem _ (List.mem_cons_of_mem _ (List.mem_cons_of_mem _ (List.mem_cons_of_mem _ List.mem_cons_self)))))))))) (sub_cons (List.mem_cons_of_mem _ (List.mem_cons_of_mem _ (List.mem_cons_of_mem _ (List.mem_cons_of_mem _ (List.mem_cons_of_mem _ (List.mem_cons_of_mem _ (List.mem_cons_of_mem _ (List.mem_cons_of_mem _ (List.mem_cons_of_mem _ (List.mem_cons_of_mem _ (List.mem_cons_of_mem _ List.mem_cons_self))))))))))) sub_nil)))))⟩)

set_option maxHeartbeats 4000000 in
set_option maxRecDepth 100000 in
theorem c_P_close_S1 {l : Launch} (hl : l.stackTraces = false) (G : hG) (f : hM) (xo ez eo bu nw0 na0 nq0 nr0 nw1 na1 nq1 nr1 bs bp bh bf bl bg : Nat) (S0 : ES) (S1 : ES) (gw0 : Nat → Int32) (ga0 : Nat → Int32) (gw1 : Nat → Int32) (ga1 : Nat → Int32) (n : Nat) (a : Nat) (cg : Nat) (x : Nat) (sa : Nat → Nat) (pk : Nat → Nat) (fl : Nat → Nat) (gv : Nat → Nat) (gh : Nat → Int32) (gl : Nat → Int32) (hC : CXW G f xo ez eo bu nw0 na0 nq0 nr0 nw1 na1 nq1 nr1 bs bp bh bf bl bg S0 S1 gw0 ga0 gw1 ga1 n a cg x sa pk fl gv gh gl) (hL0 : S0.2.2.2.2.2.2.2.2.length < 3000) (hL1 : S1.2.2.2.2.2.2.2.2.length < 3000) (hst : S1.1 = 0) : CT l yX4_close (.code yX4_close cX4_close 3 (some .int)) 7 103 2 12 G [.ref xo, .int 1] f (fun v f1 => False) (fun E f1 => E = eS ∧ CXW G f1 xo ez eo bu nw0 na0 nq0 nr0 nw1 na1 nq1 nr1 bs bp bh bf bl bg S0 S1 gw0 ga0 gw1 ga1 n a cg x sa pk fl gv gh gl ∧ hKn [xo, ez, eo, bu, nw0, na0, nq0, nr0, nw1, na1, nq1, nr1, bs, bp, bh, bf, bl, bg] f f1) := by
  refine hp_start hl (own := RX4) (by decide) rfl (Nat.le_of_ble_eq_true rfl) ?_
  intro p e s m args below meth c B0 hr hnm hout hw hS ls hl9
  have hx := B0.1
  have hb := B0.2.1
  have hl9 : lv_has ls 3 [(0, .ref xo), (1, .int 1)] := hl9
  obtain ⟨Q0, Q1, hq⟩ := id hC
  have h1 : f xo = some (.inr (4, [.ref ez, .ref eo, .ref bu])) := hq.1
  have h2 : f ez = some (.inr (1, [.ref nw0, .ref na0, .ref nq0, .ref nr0, .int (num S0.2.2.2.2.2.2.1), .int S0.1, .int S0.2.2.2.1, .int S0.2.2.1, .int S0.2.1, .int S0.2.2.2.2.1, .int S0.2.2.2.2.2.1])) := (hq.2.1).1
  have h3 : f eo = some (.inr (1, [.ref nw1, .ref na1, .ref nq1, .ref nr1, .int (num S1.2.2.2.2.2.2.1), .int S1.1, .int S1.2.2.2.1, .int S1.2.2.1, .int S1.2.1, .int S1.2.2.2.2.1, .int S1.2.2.2.2.2.1])) := (hq.2.2.1).1
  refine lv_aload_n hx hb dX4_close_0 rfl (lv_at hl9 0 rfl) ?_
  refine lv_iload_n hx hb dX4_close_1 rfl (lv_at hl9 1 rfl) ?_
  refine hp_V (ci := 4) (As := [.int 1]) (rest := []) B0 hw hS (c_X4_endAt hl G f xo ez eo bu h1 1) mV_X4_endAt qM_X4_28 rfl h1 rfl rfl hl9.1 (Nat.le_of_ble_eq_true rfl) ⟨⟨Nat.le_of_ble_eq_true rfl, Nat.le_of_ble_eq_true rfl⟩, Nat.le_of_ble_eq_true rfl, Nat.le_of_ble_eq_true rfl⟩ dX4_close_2 (fun E ce q9 f4 H locs hPX hw hS hce hcv hcl => ?_) (fun v f4 H locs hP hw hS => ?_)
  · obtain ⟨ef9, eE9, hE9⟩ := hPX
    rw [ef9] at hw
    exact absurd (Or.inr rfl) hE9
  · obtain ⟨ef9, hv9⟩ := hP
    rw [ef9] at hw
    rcases hv9 with ⟨k9, ev9⟩ | ⟨k9, ev9⟩
    exact absurd k9 (by decide)
    subst ev9
    refine W.eq (g2 := F0 m 5 ls [.ref eo]) rfl ?_
    refine lv_astore_n (lv' := [(2, .ref eo), (0, .ref xo), (1, .int 1)]) hx hb dX4_close_5 rfl hl9 (by decide) rfl (fun ls hl9 => ?_)
    refine lv_aload_n hx hb dX4_close_6 rfl (lv_at hl9 0 rfl) ?_
    refine hp_getN B0 hw 1 rfl in_X1 h3 5 (by decide) oF_X4_55 rfl dX4_close_7 ?_
    refine lv_if_ne (tgt := 23) hx hb dX4_close_10 (by decide) (fun c9 => absurd hst c9) (fun _ => ?_)
    exact hp_throw (cls := eS) (names := tNm) B0 hw hS hout tF_eS qC_X4_59 qN_java_lang_IllegalStateException sR_X4_68 tA_eS tB_eS tG_eS hl9.1 dX4_close_13 dX4_close_16 dX4_close_17 dX4_close_19 dX4_close_22 ⟨⟨Nat.le_of_ble_eq_true rfl, Nat.le_of_ble_eq_true rfl⟩, Nat.le_of_ble_eq_true rfl, Nat.le_of_ble_eq_true rfl⟩ ⟨Nat.le_of_ble_eq_true rfl, Nat.le_of_ble_eq_true rfl⟩ (⟨rfl, ⟨_, _, hq⟩, hKn.rf⟩)

set_option maxHeartbeats 4000000 in
set_option maxRecDepth 100000 in
theorem c_P_open_E {l : Launch} (hl : l.stackTraces = false) (G : hG) (f : hM) (xo ez eo bu nw0 na0 nq0 nr0 nw1 na1 nq1 nr1 bs bp bh bf bl bg : Nat) (S0 : ES) (S1 : ES) (gw0 : Nat → Int32) (ga0 : Nat → Int32) (gw1 : Nat → Int32) (ga1 : Nat → Int32) (n : Nat) (a : Nat) (cg : Nat) (x : Nat) (sa : Nat → Nat) (pk : Nat → Nat) (fl : Nat → Nat) (gv : Nat → Nat) (gh : Nat → Int32) (gl : Nat → Int32) (hC : CXW G f xo ez eo bu nw0 na0 nq0 nr0 nw1 na1 nq1 nr1 bs bp bh bf bl bg S0 S1 gw0 ga0 gw1 ga1 n a cg x sa pk fl gv gh gl) (hL0 : S0.2.2.2.2.2.2.2.2.length < 3000) (hL1 : S1.2.2.2.2.2.2.2.2.length < 3000) (i : Int32) (hi : ¬ sE i) : CT l yX4_open (.code yX4_open cX4_open 3 (some .int)) 7 103 1 6 G [.ref xo, .int i] f (fun v f1 => False) (fun E f1 => E = eI ∧ CXW G f1 xo ez eo bu nw0 na0 nq0 nr0 nw1 na1 nq1 nr1 bs bp bh bf bl bg S0 S1 gw0 ga0 gw1 ga1 n a cg x sa pk fl gv gh gl ∧ hKn [xo, ez, eo, bu, nw0, na0, nq0, nr0, nw1, na1, nq1, nr1, bs, bp, bh, bf, bl, bg] f f1) := by
  refine hp_start hl (own := RX4) (by decide) rfl (Nat.le_of_ble_eq_true rfl) ?_
  intro p e s m args below meth c B0 hr hnm hout hw hS ls hl9
  have hx := B0.1
  have hb := B0.2.1
  have hl9 : lv_has ls 3 [(0, .ref xo), (1, .int i)] := hl9
  obtain ⟨Q0, Q1, hq⟩ := id hC
  have h1 : f xo = some (.inr (4, [.ref ez, .ref eo, .ref bu])) := hq.1
  have h2 : f ez = some (.inr (1, [.ref nw0, .ref na0, .ref nq0, .ref nr0, .int (num S0.2.2.2.2.2.2.1), .int S0.1, .int S0.2.2.2.1, .int S0.2.2.1, .int S0.2.1, .int S0.2.2.2.2.1, .int S0.2.2.2.2.2.1])) := (hq.2.1).1
  have h3 : f eo = some (.inr (1, [.ref nw1, .ref na1, .ref nq1, .ref nr1, .int (num S1.2.2.2.2.2.2.1), .int S1.1, .int S1.2.2.2.1, .int S1.2.2.1, .int S1.2.1, .int S1.2.2.2.2.1, .int S1.2.2.2.2.2.1])) := (hq.2.2.1).1
  refine lv_aload_n hx hb dX4_open_0 rfl (lv_at hl9 0 rfl) ?_
  refine lv_iload_n hx hb dX4_open_1 rfl (lv_at hl9 1 rfl) ?_
  refine hp_V (ci := 4) (As := [.int i]) (rest := []) B0 hw hS (c_X4_endAt hl G f xo ez eo bu h1 i) mV_X4_endAt qM_X4_28 rfl h1 rfl rfl hl9.1 (Nat.le_of_ble_eq_true rfl) ⟨⟨Nat.le_of_ble_eq_true rfl, Nat.le_of_ble_eq_true rfl⟩, Nat.le_of_ble_eq_true rfl, Nat.le_of_ble_eq_true rfl⟩ dX4_open_2 (fun E ce q9 f4 H locs hPX hw hS hce hcv hcl => ?_) (fun v f4 H locs hP hw hS => ?_)
  · obtain ⟨ef9, eE9, hE9⟩ := hPX
    rw [ef9] at hw
    subst eE9
    exact hp_out B0 hw hS hout hce hcv hcl ⟨Nat.le_of_ble_eq_true rfl, Nat.le_of_ble_eq_true rfl⟩ (⟨rfl, ⟨_, _, hq⟩, hKn.rf⟩)
  · obtain ⟨ef9, hv9⟩ := hP
    rw [ef9] at hw
    exact absurd (hv9.imp And.left And.left) hi

set_option maxHeartbeats 4000000 in
set_option maxRecDepth 100000 in
theorem c_P_close_E {l : Launch} (hl : l.stackTraces = false) (G : hG) (f : hM) (xo ez eo bu nw0 na0 nq0 nr0 nw1 na1 nq1 nr1 bs bp bh bf bl bg : Nat) (S0 : ES) (S1 : ES) (gw0 : Nat → Int32) (ga0 : Nat → Int32) (gw1 : Nat → Int32) (ga1 : Nat → Int32) (n : Nat) (a : Nat) (cg : Nat) (x : Nat) (sa : Nat → Nat) (pk : Nat → Nat) (fl : Nat → Nat) (gv : Nat → Nat) (gh : Nat → Int32) (gl : Nat → Int32) (hC : CXW G f xo ez eo bu nw0 na0 nq0 nr0 nw1 na1 nq1 nr1 bs bp bh bf bl bg S0 S1 gw0 ga0 gw1 ga1 n a cg x sa pk fl gv gh gl) (hL0 : S0.2.2.2.2.2.2.2.2.length < 3000) (hL1 : S1.2.2.2.2.2.2.2.2.length < 3000) (i : Int32) (hi : ¬ sE i) : CT l yX4_close (.code yX4_close cX4_close 3 (some .int)) 7 103 1 6 G [.ref xo, .int i] f (fun v f1 => False) (fun E f1 => E = eI ∧ CXW G f1 xo ez eo bu nw0 na0 nq0 nr0 nw1 na1 nq1 nr1 bs bp bh bf bl bg S0 S1 gw0 ga0 gw1 ga1 n a cg x sa pk fl gv gh gl ∧ hKn [xo, ez, eo, bu, nw0, na0, nq0, nr0, nw1, na1, nq1, nr1, bs, bp, bh, bf, bl, bg] f f1) := by
  refine hp_start hl (own := RX4) (by decide) rfl (Nat.le_of_ble_eq_true rfl) ?_
  intro p e s m args below meth c B0 hr hnm hout hw hS ls hl9
  have hx := B0.1
  have hb := B0.2.1
  have hl9 : lv_has ls 3 [(0, .ref xo), (1, .int i)] := hl9
  obtain ⟨Q0, Q1, hq⟩ := id hC
  have h1 : f xo = some (.inr (4, [.ref ez, .ref eo, .ref bu])) := hq.1
  have h2 : f ez = some (.inr (1, [.ref nw0, .ref na0, .ref nq0, .ref nr0, .int (num S0.2.2.2.2.2.2.1), .int S0.1, .int S0.2.2.2.1, .int S0.2.2.1, .int S0.2.1, .int S0.2.2.2.2.1, .int S0.2.2.2.2.2.1])) := (hq.2.1).1
  have h3 : f eo = some (.inr (1, [.ref nw1, .ref na1, .ref nq1, .ref nr1, .int (num S1.2.2.2.2.2.2.1), .int S1.1, .int S1.2.2.2.1, .int S1.2.2.1, .int S1.2.1, .int S1.2.2.2.2.1, .int S1.2.2.2.2.2.1])) := (hq.2.2.1).1
  refine lv_aload_n hx hb dX4_close_0 rfl (lv_at hl9 0 rfl) ?_
  refine lv_iload_n hx hb dX4_close_1 rfl (lv_at hl9 1 rfl) ?_
  refine hp_V (ci := 4) (As := [.int i]) (rest := []) B0 hw hS (c_X4_endAt hl G f xo ez eo bu h1 i) mV_X4_endAt qM_X4_28 rfl h1 rfl rfl hl9.1 (Nat.le_of_ble_eq_true rfl) ⟨⟨Nat.le_of_ble_eq_true rfl, Nat.le_of_ble_eq_true rfl⟩, Nat.le_of_ble_eq_true rfl, Nat.le_of_ble_eq_true rfl⟩ dX4_close_2 (fun E ce q9 f4 H locs hPX hw hS hce hcv hcl => ?_) (fun v f4 H locs hP hw hS => ?_)
  · obtain ⟨ef9, eE9, hE9⟩ := hPX
    rw [ef9] at hw
    subst eE9
    exact hp_out B0 hw hS hout hce hcv hcl ⟨Nat.le_of_ble_eq_true rfl, Nat.le_of_ble_eq_true rfl⟩ (⟨rfl, ⟨_, _, hq⟩, hKn.rf⟩)
  · obtain ⟨ef9, hv9⟩ := hP
    rw [ef9] at hw
    exact absurd (hv9.imp And.left And.left) hi

theorem missS_eq (S : ES) : missS S = (S.1, S.2.1, S.2.2.1, S.2.2.2.1, S.2.2.2.2.1, S.2.2.2.2.2.1 + 1, S.2.2.2.2.2.2) := rfl
set_option maxHeartbeats 4000000 in
set_option maxRecDepth 100000 in
theorem c_P_deliver_0 {l : Launch} (hl : l.stackTraces = false) (G : hG) (f : hM) (xo ez eo bu nw0 na0 nq0 nr0 nw1 na1 nq1 nr1 bs bp bh bf bl bg : Nat) (S0 : ES) (S1 : ES) (gw0 : Nat → Int32) (ga0 : Nat → Int32) (gw1 : Nat → Int32) (ga1 : Nat → Int32) (n : Nat) (a : Nat) (cg : Nat) (x : Nat) (sa : Nat → Nat) (pk : Nat → Nat) (fl : Nat → Nat) (gv : Nat → Nat) (gh : Nat → Int32) (gl : Nat → Int32) (hC : CXW G f xo ez eo bu nw0 na0 nq0 nr0 nw1 na1 nq1 nr1 bs bp bh bf bl bg S0 S1 gw0 ga0 gw1 ga1 n a cg x sa pk fl gv gh gl) (hL0 : S0.2.2.2.2.2.2.2.2.length < 3000) (hL1 : S1.2.2.2.2.2.2.2.2.length < 3000) (hL : ¬ S0.2.2.2.2.2.2.2.2 = []) : CT l yX4_deliver (.code yX4_deliver cX4_deliver 3 (some .int)) 7 132 7 40 G [.ref xo, .int 0] f (fun v f1 => ∃ (r : Fr) (L9 : List Fr), S0.2.2.2.2.2.2.2.2 = r :: L9 ∧ v = some (.int r.1) ∧ CXW G f1 xo ez eo bu nw0 na0 nq0 nr0 nw1 na1 nq1 nr1 bs bp bh bf bl bg (takeS S0) (hearF ga1 r S1) gw0 ga0 gw1 ga1 n a cg x sa pk fl gv gh gl ∧ hKn [xo, ez, eo, bu, nw0, na0, nq0, nr0, nw1, na1, nq1, nr1, bs, bp, bh, bf, bl, bg] f f1) (fun E f1 => False) := by
  refine hp_start hl (own := RX4) (by decide) rfl (Nat.le_of_ble_eq_true rfl) ?_
  intro p e s m args below meth c B0 hr hnm hout hw hS ls hl9
  have hx := B0.1
  have hb := B0.2.1
  have hl9 : lv_has ls 3 [(0, .ref xo), (1, .int 0)] := hl9
  obtain ⟨Q0, Q1, hq⟩ := id hC
  have h1 : f xo = some (.inr (4, [.ref ez, .ref eo, .ref bu])) := hq.1
  have h2 : f ez = some (.inr (1, [.ref nw0, .ref na0, .ref nq0, .ref nr0, .int (num S0.2.2.2.2.2.2.1), .int S0.1, .int S0.2.2.2.1, .int S0.2.2.1, .int S0.2.1, .int S0.2.2.2.2.1, .int S0.2.2.2.2.2.1])) := (hq.2.1).1
  have h3 : f eo = some (.inr (1, [.ref nw1, .ref na1, .ref nq1, .ref nr1, .int (num S1.2.2.2.2.2.2.1), .int S1.1, .int S1.2.2.2.1, .int S1.2.2.1, .int S1.2.1, .int S1.2.2.2.2.1, .int S1.2.2.2.2.2.1])) := (hq.2.2.1).1
  refine lv_aload_n hx hb dX4_deliver_0 rfl (lv_at hl9 0 rfl) ?_
  refine lv_iload_n hx hb dX4_deliver_1 rfl (lv_at hl9 1 rfl) ?_
  refine hp_V (ci := 4) (As := [.int 0]) (rest := []) B0 hw hS (c_X4_endAt hl G f xo ez eo bu h1 0) mV_X4_endAt qM_X4_28 rfl h1 rfl rfl hl9.1 (Nat.le_of_ble_eq_true rfl) ⟨⟨Nat.le_of_ble_eq_true rfl, Nat.le_of_ble_eq_true rfl⟩, Nat.le_of_ble_eq_true rfl, Nat.le_of_ble_eq_true rfl⟩ dX4_deliver_2 (fun E ce q9 f4 H locs hPX hw hS hce hcv hcl => ?_) (fun v f4 H locs hP hw hS => ?_)
  · obtain ⟨ef9, eE9, hE9⟩ := hPX
    rw [ef9] at hw
    exact absurd (Or.inl rfl) hE9
  · obtain ⟨ef9, hv9⟩ := hP
    rw [ef9] at hw
    rcases hv9 with ⟨k9, ev9⟩ | ⟨k9, ev9⟩
    rotate_left
    exact absurd k9 (by decide)
    subst ev9
    refine W.eq (g2 := F0 m 5 ls [.ref ez]) rfl ?_
    refine hp_S (As := [.ref ez]) (rest := []) B0 hw hS (c_X4_takeFrameX hl G f ez nw0 na0 nq0 nr0 S0.1 S0.2.1 S0.2.2.1 S0.2.2.2.1 S0.2.2.2.2.1 S0.2.2.2.2.2.1 S0.2.2.2.2.2.2.1 S0.2.2.2.2.2.2.2.1 S0.2.2.2.2.2.2.2.2 Q0 (hq.2.1)) mS_X4_takeFrame qM_X4_73 rfl rfl hl9.1 (Nat.le_of_ble_eq_true rfl) ⟨⟨Nat.le_of_ble_eq_true rfl, Nat.le_of_ble_eq_true rfl⟩, Nat.le_of_ble_eq_true rfl, Nat.le_of_ble_eq_true rfl⟩ dX4_deliver_5 (fun E ce q9 f5 H locs hPX hw hS hce hcv hcl => ?_) (fun v f5 H locs hP hw hS => ?_)
    · obtain ⟨eE9, ef9, eL9⟩ := hPX
      rw [ef9] at hw
      exact absurd eL9 hL
    · obtain ⟨⟨w9, u9⟩, Q9, r9, L9, eQ9, eL9, ev9, hE9, ⟨nx9, hf9⟩, hu9, hk9⟩ := hP
      subst ev9
      subst eQ9
      have hE9 : EX G f5 ez nw0 na0 nq0 nr0 (takeS S0) Q9 := by rw [show takeS S0 = _ from congrArg (fun z9 => (S0.1, S0.2.1, S0.2.2.1, S0.2.2.2.1, S0.2.2.2.2.1, S0.2.2.2.2.2.1, S0.2.2.2.2.2.2.1, S0.2.2.2.2.2.2.2.1, z9)) (congrArg List.tail eL9)]; exact hE9
      have hq6 : CXQ G f5 xo ez eo bu nw0 na0 nq0 nr0 nw1 na1 nq1 nr1 bs bp bh bf bl bg Q9 Q1 (takeS S0) S1 gw0 ga0 gw1 ga1 n a cg x sa pk fl gv gh gl := CXQ.u0 hq hE9 (hK2.q0 (hK2.mono hk9 (sub_cons (List.mem_cons_of_mem _ (List.mem_cons_of_mem _ List.mem_cons_self)) sub_nil))) (fun c9 h9 => Or.inl (List.mem_cons_of_mem _ h9))
      have h7 : f5 xo = some (.inr (4, [.ref ez, .ref eo, .ref bu])) := hq6.1
      have h8 : f5 ez = some (.inr (1, [.ref nw0, .ref na0, .ref nq0, .ref nr0, .int (num ((takeS S0).2.2.2.2.2.2.1)), .int ((takeS S0).1), .int ((takeS S0).2.2.2.1), .int ((takeS S0).2.2.1), .int ((takeS S0).2.1), .int ((takeS S0).2.2.2.2.1), .int ((takeS S0).2.2.2.2.2.1)])) := (hq6.2.1).1
      have h10 : f5 eo = some (.inr (1, [.ref nw1, .ref na1, .ref nq1, .ref nr1, .int (num S1.2.2.2.2.2.2.1), .int S1.1, .int S1.2.2.2.1, .int S1.2.2.1, .int S1.2.1, .int S1.2.2.2.2.1, .int S1.2.2.2.2.2.1])) := (hq6.2.2.1).1
      have hf9 : f5 w9 = some (.inr (2, [.int r9.1, .int r9.2.1, .int (mgF r9), .ref u9, nx9])) := hf9
      have hu9 : f5 u9 = some (.inl (cI G, 6, .inl r9.2.2.2)) := hu9
      refine W.eq (g2 := F0 m 8 ls [.ref w9]) rfl ?_
      refine lv_astore_n (lv' := [(2, .ref w9), (0, .ref xo), (1, .int 0)]) hx hb dX4_deliver_8 rfl hl9 (by decide) rfl (fun ls hl9 => ?_)
      refine lv_aload_n hx hb dX4_deliver_9 rfl (lv_at hl9 1 rfl) ?_
      refine lv_iconst (v := 1) hx hb dX4_deliver_10 (by decide) ?_
      refine lv_iload_n hx hb dX4_deliver_11 rfl (lv_at hl9 2 rfl) ?_
      refine lv_isub hx hb dX4_deliver_12 ?_
      refine hp_c (v := 1) (by decide) ?_
      refine hp_V (ci := 4) (As := [.int 1]) (rest := []) B0 hw hS (c_X4_endAt hl G f5 xo ez eo bu h7 1) mV_X4_endAt qM_X4_28 rfl h7 rfl rfl hl9.1 (Nat.le_of_ble_eq_true rfl) ⟨⟨Nat.le_of_ble_eq_true rfl, Nat.le_of_ble_eq_true rfl⟩, Nat.le_of_ble_eq_true rfl, Nat.le_of_ble_eq_true rfl⟩ dX4_deliver_13 (fun E ce q9 f11 H locs hPX hw hS hce hcv hcl => ?_) (fun v f11 H locs hP hw hS => ?_)
      · obtain ⟨ef9, eE9, hE9⟩ := hPX
        rw [ef9] at hw
        exact absurd (Or.inr rfl) hE9
      · obtain ⟨ef9, hv9⟩ := hP
        rw [ef9] at hw
        rcases hv9 with ⟨k9, ev9⟩ | ⟨k9, ev9⟩
        exact absurd k9 (by decide)
        subst ev9
        refine W.eq (g2 := F0 m 16 ls [.ref eo]) rfl ?_
        refine lv_aload_n hx hb dX4_deliver_16 rfl (lv_at hl9 0 rfl) ?_
        have h12 : f5 na1 = some (.inl (cI G, 6, .inl ga1)) := hq6.2.2.2.2.2.2.1
        have h13 : f5 nq1 = some (.inl (cI G, 6, .inl S1.2.2.2.2.2.2.2.1)) := (hq6.2.2.1).2.1
        obtain ⟨y14, y15, h16⟩ := EX.cn (hq6.2.2.1)
        refine hp_V (ci := 1) (As := [.ref w9]) (rest := []) B0 hw hS (c_X1_hearX hl G f5 eo nw1 na1 nq1 nr1 S1.1 S1.2.1 S1.2.2.1 S1.2.2.2.1 S1.2.2.2.2.1 S1.2.2.2.2.2.1 S1.2.2.2.2.2.2.1 S1.2.2.2.2.2.2.2.1 S1.2.2.2.2.2.2.2.2 Q1 (hq6.2.2.1) (len3 (EX.len (hq6.2.2.1)) hL1) ga1 h12 (hq6.2.2.2.2.2.2.2.2.2.2.2.2.2.2.2.2.2.2.2.2.2.2.2.2.2.2.2.2.2.2.2.2.1) w9 u9 r9.1 r9.2.1 r9.2.2.1 r9.2.2.2 nx9 hf9 hu9 ((hq.2.2.2.2.2.2.2.2.2.2.2.2.2.2.2.2.2.2.2.2.2.2.2.2.2.2.2.2.2.2.2.2.2.2.2.1) (w9, u9) List.mem_cons_self) (fun z9 => (hq.2.2.2.2.2.2.2.2.2.2.2.2.2.2.2.2.2.2.2.2.2.2.2.2.2.2.2.2.2.2.2.2.2.2.2.2) (w9, u9) (List.mem_append_left _ List.mem_cons_self) (by rw [z9]; simp))) mV_X1_hear qM_X4_77 rfl h10 rfl rfl hl9.1 (Nat.le_of_ble_eq_true rfl) ⟨⟨Nat.le_of_ble_eq_true rfl, Nat.le_of_ble_eq_true rfl⟩, Nat.le_of_ble_eq_true rfl, Nat.le_of_ble_eq_true rfl⟩ dX4_deliver_17 (fun E ce q9 f17 H locs hPX hw hS hce hcv hcl => ?_) (fun v f17 H locs hP hw hS => ?_)
        · exact hPX.elim
        · obtain ⟨ev9, N18, hN19, hE20, hk21⟩ := hP
          have hq22 : CXQ G f17 xo ez eo bu nw0 na0 nq0 nr0 nw1 na1 nq1 nr1 bs bp bh bf bl bg Q9 (Q1 ++ N18) (takeS S0) (hearF ga1 r9 S1) gw0 ga0 gw1 ga1 n a cg x sa pk fl gv gh gl := CXQ.u1 hq6 hE20 hk21 (fun c9 h9 => (List.mem_append.mp h9).imp id (hN19 c9))
          have h23 : f17 xo = some (.inr (4, [.ref ez, .ref eo, .ref bu])) := hq22.1
          have h24 : f17 ez = some (.inr (1, [.ref nw0, .ref na0, .ref nq0, .ref nr0, .int (num ((takeS S0).2.2.2.2.2.2.1)), .int ((takeS S0).1), .int ((takeS S0).2.2.2.1), .int ((takeS S0).2.2.1), .int ((takeS S0).2.1), .int ((takeS S0).2.2.2.2.1), .int ((takeS S0).2.2.2.2.2.1)])) := (hq22.2.1).1
          have h25 : f17 eo = some (.inr (1, [.ref nw1, .ref na1, .ref nq1, .ref nr1, .int (num ((hearF ga1 r9 S1).2.2.2.2.2.2.1)), .int ((hearF ga1 r9 S1).1), .int ((hearF ga1 r9 S1).2.2.2.1), .int ((hearF ga1 r9 S1).2.2.1), .int ((hearF ga1 r9 S1).2.1), .int ((hearF ga1 r9 S1).2.2.2.2.1), .int ((hearF ga1 r9 S1).2.2.2.2.2.1)])) := (hq22.2.2.1).1
          subst ev9
          refine W.eq (g2 := F0 m 20 ls []) rfl ?_
          refine lv_aload_n hx hb dX4_deliver_20 rfl (lv_at hl9 0 rfl) ?_
          have n26 : w9 ≠ nr1 := hne hf9 h16 (Nat.ne_of_beq_eq_false rfl)
          have n27 : w9 ≠ nq1 := hne hf9 h13 (Nat.ne_of_beq_eq_false rfl)
          have n28 : w9 ≠ eo := hne hf9 h10 (Nat.ne_of_beq_eq_false rfl)
          have h29 : f17 w9 = some (.inr (2, [.int r9.1, .int r9.2.1, .int (mgF r9), .ref u9, nx9])) := hk21.2 _ _ hf9 (ninc n28 (ninc n27 (ninc n26 nin0))) (fun _ => ((hq.2.2.2.2.2.2.2.2.2.2.2.2.2.2.2.2.2.2.2.2.2.2.2.2.2.2.2.2.2.2.2.2.2.2.2.1) (w9, u9) List.mem_cons_self))
          refine hp_get B0 hw 2 rfl in_X2 h29 0 (by decide) qF_X4_81 rfl dX4_deliver_21 ?_
          exact hp_iret (v := r9.1) B0 hw hS hr ⟨Nat.le_of_ble_eq_true rfl, Nat.le_of_ble_eq_true rfl⟩ dX4_deliver_24 (⟨r9, L9, eL9, rfl, ⟨_, _, hq22⟩, ((show hKn [xo, ez, eo, bu, nw0, na0, nq0, nr0, nw1, na1, nq1, nr1, bs, bp, bh, bf, bl, bg] f f5 from (hKn.mono (hK2.n hk9) (sub_cons (List.mem_cons_of_mem _ (List.mem_cons_of_mem _ (List.mem_cons_of_mem _ (List.mem_cons_of_mem _ (List.mem_cons_of_mem _ (List.mem_cons_of_mem _ (List.mem_cons_of_mem _ List.mem_cons_self))))))) sub_nil))).tr (show hKn [xo, ez, eo, bu, nw0, na0, nq0, nr0, nw1, na1, nq1, nr1, bs, bp, bh, bf, bl, bg] f5 f17 from (hKn.mono (hK2.n hk21) (sub_cons (List.mem_cons_of_mem _ (List.mem_cons_of_mem _ List.mem_cons_self)) (sub_cons (List.mem_cons_of_mem _ (List.mem_cons_of_mem _ (List.mem_cons_of_mem _ (List.mem_cons_of_mem _ (List.mem_cons_of_mem _ (List.mem_cons_of_mem _ (List.mem_cons_of_mem _ (List.mem_cons_of_mem _ (List.mem_cons_of_mem _ (List.mem_cons_of_mem _ List.mem_cons_self)))))))))) (sub_cons (List.mem_cons_of_mem _ (List.mem_cons_of_mem _ (List.mem_cons_of_mem _ (List.mem_cons_of_mem _ (List.mem_cons_of_mem _ (List.mem_cons_of_mem _ (List.mem_cons_of_mem _ (List.mem_cons_of_mem _ (List.mem_cons_of_mem _ (List.mem_cons_of_mem _ (List.mem_cons_of_mem _ List.mem_cons_self))))))))))) sub_nil))))))⟩)

set_option maxHeartbeats 4000000 in
set_option maxRecDepth 100000 in
theorem c_P_lose_0 {l : Launch} (hl : l.stackTraces = false) (G : hG) (f : hM) (xo ez eo bu nw0 na0 nq0 nr0 nw1 na1 nq1 nr1 bs bp bh bf bl bg : Nat) (S0 : ES) (S1 : ES) (gw0 : Nat → Int32) (ga0 : Nat → Int32) (gw1 : Nat → Int32) (ga1 : Nat → Int32) (n : Nat) (a : Nat) (cg : Nat) (x : Nat) (sa : Nat → Nat) (pk : Nat → Nat) (fl : Nat → Nat) (gv : Nat → Nat) (gh : Nat → Int32) (gl : Nat → Int32) (hC : CXW G f xo ez eo bu nw0 na0 nq0 nr0 nw1 na1 nq1 nr1 bs bp bh bf bl bg S0 S1 gw0 ga0 gw1 ga1 n a cg x sa pk fl gv gh gl) (hL0 : S0.2.2.2.2.2.2.2.2.length < 3000) (hL1 : S1.2.2.2.2.2.2.2.2.length < 3000) (hL : ¬ S0.2.2.2.2.2.2.2.2 = []) : CT l yX4_lose (.code yX4_lose cX4_lose 4 (some .int)) 7 103 2 12 G [.ref xo, .int 0] f (fun v f1 => ∃ (r : Fr) (L9 : List Fr), S0.2.2.2.2.2.2.2.2 = r :: L9 ∧ v = some (.int r.1) ∧ CXW G f1 xo ez eo bu nw0 na0 nq0 nr0 nw1 na1 nq1 nr1 bs bp bh bf bl bg (missS (takeS S0)) S1 gw0 ga0 gw1 ga1 n a cg x sa pk fl gv gh gl ∧ hKn [xo, ez, eo, bu, nw0, na0, nq0, nr0, nw1, na1, nq1, nr1, bs, bp, bh, bf, bl, bg] f f1) (fun E f1 => False) := by
  refine hp_start hl (own := RX4) (by decide) rfl (Nat.le_of_ble_eq_true rfl) ?_
  intro p e s m args below meth c B0 hr hnm hout hw hS ls hl9
  have hx := B0.1
  have hb := B0.2.1
  have hl9 : lv_has ls 4 [(0, .ref xo), (1, .int 0)] := hl9
  obtain ⟨Q0, Q1, hq⟩ := id hC
  have h1 : f xo = some (.inr (4, [.ref ez, .ref eo, .ref bu])) := hq.1
  have h2 : f ez = some (.inr (1, [.ref nw0, .ref na0, .ref nq0, .ref nr0, .int (num S0.2.2.2.2.2.2.1), .int S0.1, .int S0.2.2.2.1, .int S0.2.2.1, .int S0.2.1, .int S0.2.2.2.2.1, .int S0.2.2.2.2.2.1])) := (hq.2.1).1
  have h3 : f eo = some (.inr (1, [.ref nw1, .ref na1, .ref nq1, .ref nr1, .int (num S1.2.2.2.2.2.2.1), .int S1.1, .int S1.2.2.2.1, .int S1.2.2.1, .int S1.2.1, .int S1.2.2.2.2.1, .int S1.2.2.2.2.2.1])) := (hq.2.2.1).1
  refine lv_aload_n hx hb dX4_lose_0 rfl (lv_at hl9 0 rfl) ?_
  refine lv_iload_n hx hb dX4_lose_1 rfl (lv_at hl9 1 rfl) ?_
  refine hp_V (ci := 4) (As := [.int 0]) (rest := []) B0 hw hS (c_X4_endAt hl G f xo ez eo bu h1 0) mV_X4_endAt qM_X4_28 rfl h1 rfl rfl hl9.1 (Nat.le_of_ble_eq_true rfl) ⟨⟨Nat.le_of_ble_eq_true rfl, Nat.le_of_ble_eq_true rfl⟩, Nat.le_of_ble_eq_true rfl, Nat.le_of_ble_eq_true rfl⟩ dX4_lose_2 (fun E ce q9 f4 H locs hPX hw hS hce hcv hcl => ?_) (fun v f4 H locs hP hw hS => ?_)
  · obtain ⟨ef9, eE9, hE9⟩ := hPX
    rw [ef9] at hw
    exact absurd (Or.inl rfl) hE9
  · obtain ⟨ef9, hv9⟩ := hP
    rw [ef9] at hw
    rcases hv9 with ⟨k9, ev9⟩ | ⟨k9, ev9⟩
    rotate_left
    exact absurd k9 (by decide)
    subst ev9
    refine W.eq (g2 := F0 m 5 ls [.ref ez]) rfl ?_
    refine lv_astore_n (lv' := [(2, .ref ez), (0, .ref xo), (1, .int 0)]) hx hb dX4_lose_5 rfl hl9 (by decide) rfl (fun ls hl9 => ?_)
    refine lv_aload_n hx hb dX4_lose_6 rfl (lv_at hl9 0 rfl) ?_
    refine hp_S (As := [.ref ez]) (rest := []) B0 hw hS (c_X4_takeFrameX hl G f ez nw0 na0 nq0 nr0 S0.1 S0.2.1 S0.2.2.1 S0.2.2.2.1 S0.2.2.2.2.1 S0.2.2.2.2.2.1 S0.2.2.2.2.2.2.1 S0.2.2.2.2.2.2.2.1 S0.2.2.2.2.2.2.2.2 Q0 (hq.2.1)) mS_X4_takeFrame qM_X4_73 rfl rfl hl9.1 (Nat.le_of_ble_eq_true rfl) ⟨⟨Nat.le_of_ble_eq_true rfl, Nat.le_of_ble_eq_true rfl⟩, Nat.le_of_ble_eq_true rfl, Nat.le_of_ble_eq_true rfl⟩ dX4_lose_7 (fun E ce q9 f5 H locs hPX hw hS hce hcv hcl => ?_) (fun v f5 H locs hP hw hS => ?_)
    · obtain ⟨eE9, ef9, eL9⟩ := hPX
      rw [ef9] at hw
      exact absurd eL9 hL
    · obtain ⟨⟨w9, u9⟩, Q9, r9, L9, eQ9, eL9, ev9, hE9, ⟨nx9, hf9⟩, hu9, hk9⟩ := hP
      subst ev9
      subst eQ9
      have hE9 : EX G f5 ez nw0 na0 nq0 nr0 (takeS S0) Q9 := by rw [show takeS S0 = _ from congrArg (fun z9 => (S0.1, S0.2.1, S0.2.2.1, S0.2.2.2.1, S0.2.2.2.2.1, S0.2.2.2.2.2.1, S0.2.2.2.2.2.2.1, S0.2.2.2.2.2.2.2.1, z9)) (congrArg List.tail eL9)]; exact hE9
      have hq6 : CXQ G f5 xo ez eo bu nw0 na0 nq0 nr0 nw1 na1 nq1 nr1 bs bp bh bf bl bg Q9 Q1 (takeS S0) S1 gw0 ga0 gw1 ga1 n a cg x sa pk fl gv gh gl := CXQ.u0 hq hE9 (hK2.q0 (hK2.mono hk9 (sub_cons (List.mem_cons_of_mem _ (List.mem_cons_of_mem _ List.mem_cons_self)) sub_nil))) (fun c9 h9 => Or.inl (List.mem_cons_of_mem _ h9))
      have h7 : f5 xo = some (.inr (4, [.ref ez, .ref eo, .ref bu])) := hq6.1
      have h8 : f5 ez = some (.inr (1, [.ref nw0, .ref na0, .ref nq0, .ref nr0, .int (num ((takeS S0).2.2.2.2.2.2.1)), .int ((takeS S0).1), .int ((takeS S0).2.2.2.1), .int ((takeS S0).2.2.1), .int ((takeS S0).2.1), .int ((takeS S0).2.2.2.2.1), .int ((takeS S0).2.2.2.2.2.1)])) := (hq6.2.1).1
      have h10 : f5 eo = some (.inr (1, [.ref nw1, .ref na1, .ref nq1, .ref nr1, .int (num S1.2.2.2.2.2.2.1), .int S1.1, .int S1.2.2.2.1, .int S1.2.2.1, .int S1.2.1, .int S1.2.2.2.2.1, .int S1.2.2.2.2.2.1])) := (hq6.2.2.1).1
      have hf9 : f5 w9 = some (.inr (2, [.int r9.1, .int r9.2.1, .int (mgF r9), .ref u9, nx9])) := hf9
      have hu9 : f5 u9 = some (.inl (cI G, 6, .inl r9.2.2.2)) := hu9
      refine W.eq (g2 := F0 m 10 ls [.ref w9]) rfl ?_
      refine lv_astore_n (lv' := [(3, .ref w9), (2, .ref ez), (0, .ref xo), (1, .int 0)]) hx hb dX4_lose_10 rfl hl9 (by decide) rfl (fun ls hl9 => ?_)
      refine lv_aload_n hx hb dX4_lose_11 rfl (lv_at hl9 1 rfl) ?_
      refine lv_dup hx hb dX4_lose_12 rfl ?_
      refine hp_getN B0 hw 1 rfl in_X1 h8 10 (by decide) oF_X4_86 rfl dX4_lose_13 ?_
      refine lv_iconst (v := 1) hx hb dX4_lose_16 (by decide) ?_
      refine lv_iadd hx hb dX4_lose_17 ?_
      refine hp_putN (fs1 := [.ref nw0, .ref na0, .ref nq0, .ref nr0, .int (num ((takeS S0).2.2.2.2.2.2.1)), .int ((takeS S0).1), .int ((takeS S0).2.2.2.1), .int ((takeS S0).2.2.1), .int ((takeS S0).2.1), .int ((takeS S0).2.2.2.2.1), .int (((takeS S0).2.2.2.2.2.1) + 1)]) (ty := .int) B0 hw hS 1 rfl in_X1 tyX1 tyX1_ok nmX1 h8 10 (by decide) oF_X4_86 rfl (by decide +kernel) rfl rfl (Nat.le_of_ble_eq_true rfl) rfl dX4_lose_18 (fun H locs f11 ef11 hw hS => ?_)
      have h12 : f11 ez = some (.inr (1, [.ref nw0, .ref na0, .ref nq0, .ref nr0, .int (num ((takeS S0).2.2.2.2.2.2.1)), .int ((takeS S0).1), .int ((takeS S0).2.2.2.1), .int ((takeS S0).2.2.1), .int ((takeS S0).2.1), .int ((takeS S0).2.2.2.2.1), .int (((takeS S0).2.2.2.2.2.1) + 1)])) := by rw [ef11, va_up_self]
      have hE13 : EX G f11 ez nw0 na0 nq0 nr0 (missS (takeS S0)) Q9 := ⟨h12, (show hK2 [ez] [] f5 f11 from (by rw [ef11]; exact hK2.up List.mem_cons_self)).2 _ _ (hq6.2.1).2.1 (ninc (hne (hq6.2.1).2.1 (hq6.2.1).1 (Nat.ne_of_beq_eq_false rfl)) nin0) (fun t9 => absurd t9 (Nat.ne_of_beq_eq_false rfl)), ⟨(hq6.2.1).2.2.1.choose, (show hK2 [ez] [] f5 f11 from (by rw [ef11]; exact hK2.up List.mem_cons_self)).2 _ _ (hq6.2.1).2.2.1.choose_spec.1 (ninc (hne (hq6.2.1).2.2.1.choose_spec.1 (hq6.2.1).1 (Nat.ne_of_beq_eq_false rfl)) nin0) (fun t9 => absurd t9 (Nat.ne_of_beq_eq_false rfl)), CH.kp (show hK2 [ez, nq0, nr0] [] f5 f11 from (by rw [ef11]; exact hK2.up List.mem_cons_self)) (hq6.2.1).2.2.1.choose_spec.2 (EX.cu (hq6.2.1)) (EX.sf (hq6.2.1))⟩, (hq6.2.1).2.2.2⟩
      have hq14 : CXQ G f11 xo ez eo bu nw0 na0 nq0 nr0 nw1 na1 nq1 nr1 bs bp bh bf bl bg Q9 Q1 (missS (takeS S0)) S1 gw0 ga0 gw1 ga1 n a cg x sa pk fl gv gh gl := CXQ.u0 hq6 hE13 (hK2.q0 (show hK2 [ez, nq0, nr0] [] f5 f11 from (by rw [ef11]; exact hK2.up List.mem_cons_self))) (fun c9 h9 => Or.inl h9)
      have h15 : f11 xo = some (.inr (4, [.ref ez, .ref eo, .ref bu])) := hq14.1
      have h16 : f11 ez = some (.inr (1, [.ref nw0, .ref na0, .ref nq0, .ref nr0, .int (num ((missS (takeS S0)).2.2.2.2.2.2.1)), .int ((missS (takeS S0)).1), .int ((missS (takeS S0)).2.2.2.1), .int ((missS (takeS S0)).2.2.1), .int ((missS (takeS S0)).2.1), .int ((missS (takeS S0)).2.2.2.2.1), .int ((missS (takeS S0)).2.2.2.2.2.1)])) := (hq14.2.1).1
      have h17 : f11 eo = some (.inr (1, [.ref nw1, .ref na1, .ref nq1, .ref nr1, .int (num S1.2.2.2.2.2.2.1), .int S1.1, .int S1.2.2.2.1, .int S1.2.2.1, .int S1.2.1, .int S1.2.2.2.2.1, .int S1.2.2.2.2.2.1])) := (hq14.2.2.1).1
      refine lv_aload_n hx hb dX4_lose_21 rfl (lv_at hl9 0 rfl) ?_
      have n19 : w9 ≠ ez := hne hf9 h8 (Nat.ne_of_beq_eq_false rfl)
      have h18 : f11 w9 = some (.inr (2, [.int r9.1, .int r9.2.1, .int (mgF r9), .ref u9, nx9])) := by rw [ef11, va_up_ne _ _ n19]; exact hf9
      refine hp_get B0 hw 2 rfl in_X2 h18 0 (by decide) qF_X4_81 rfl dX4_lose_22 ?_
      exact hp_iret (v := r9.1) B0 hw hS hr ⟨Nat.le_of_ble_eq_true rfl, Nat.le_of_ble_eq_true rfl⟩ dX4_lose_25 (⟨r9, L9, eL9, rfl, ⟨_, _, hq14⟩, ((show hKn [xo, ez, eo, bu, nw0, na0, nq0, nr0, nw1, na1, nq1, nr1, bs, bp, bh, bf, bl, bg] f f5 from (hKn.mono (hK2.n hk9) (sub_cons (List.mem_cons_of_mem _ (List.mem_cons_of_mem _ (List.mem_cons_of_mem _ (List.mem_cons_of_mem _ (List.mem_cons_of_mem _ (List.mem_cons_of_mem _ (List.mem_cons_of_mem _ List.mem_cons_self))))))) sub_nil))).tr (show hKn [xo, ez, eo, bu, nw0, na0, nq0, nr0, nw1, na1, nq1, nr1, bs, bp, bh, bf, bl, bg] f5 f11 from (by rw [ef11]; exact hKn.up (List.mem_cons_of_mem _ List.mem_cons_self))))⟩)

set_option maxHeartbeats 4000000 in
set_option maxRecDepth 100000 in
theorem c_P_loop_0 {l : Launch} (hl : l.stackTraces = false) (G : hG) (f : hM) (xo ez eo bu nw0 na0 nq0 nr0 nw1 na1 nq1 nr1 bs bp bh bf bl bg : Nat) (S0 : ES) (S1 : ES) (gw0 : Nat → Int32) (ga0 : Nat → Int32) (gw1 : Nat → Int32) (ga1 : Nat → Int32) (n : Nat) (a : Nat) (cg : Nat) (x : Nat) (sa : Nat → Nat) (pk : Nat → Nat) (fl : Nat → Nat) (gv : Nat → Nat) (gh : Nat → Int32) (gl : Nat → Int32) (hC : CXW G f xo ez eo bu nw0 na0 nq0 nr0 nw1 na1 nq1 nr1 bs bp bh bf bl bg S0 S1 gw0 ga0 gw1 ga1 n a cg x sa pk fl gv gh gl) (hL0 : S0.2.2.2.2.2.2.2.2.length < 3000) (hL1 : S1.2.2.2.2.2.2.2.2.length < 3000) (hL : ¬ S0.2.2.2.2.2.2.2.2 = []) : CT l yX4_loop (.code yX4_loop cX4_loop 4 (some .int)) 7 132 6 34 G [.ref xo, .int 0] f (fun v f1 => ∃ (r : Fr) (L9 : List Fr), S0.2.2.2.2.2.2.2.2 = r :: L9 ∧ v = some (.int r.1) ∧ CXW G f1 xo ez eo bu nw0 na0 nq0 nr0 nw1 na1 nq1 nr1 bs bp bh bf bl bg (hearF ga0 r (missS (takeS S0))) S1 gw0 ga0 gw1 ga1 n a cg x sa pk fl gv gh gl ∧ hKn [xo, ez, eo, bu, nw0, na0, nq0, nr0, nw1, na1, nq1, nr1, bs, bp, bh, bf, bl, bg] f f1) (fun E f1 => False) := by
  refine hp_start hl (own := RX4) (by decide) rfl (Nat.le_of_ble_eq_true rfl) ?_
  intro p e s m args below meth c B0 hr hnm hout hw hS ls hl9
  have hx := B0.1
  have hb := B0.2.1
  have hl9 : lv_has ls 4 [(0, .ref xo), (1, .int 0)] := hl9
  obtain ⟨Q0, Q1, hq⟩ := id hC
  have h1 : f xo = some (.inr (4, [.ref ez, .ref eo, .ref bu])) := hq.1
  have h2 : f ez = some (.inr (1, [.ref nw0, .ref na0, .ref nq0, .ref nr0, .int (num S0.2.2.2.2.2.2.1), .int S0.1, .int S0.2.2.2.1, .int S0.2.2.1, .int S0.2.1, .int S0.2.2.2.2.1, .int S0.2.2.2.2.2.1])) := (hq.2.1).1
  have h3 : f eo = some (.inr (1, [.ref nw1, .ref na1, .ref nq1, .ref nr1, .int (num S1.2.2.2.2.2.2.1), .int S1.1, .int S1.2.2.2.1, .int S1.2.2.1, .int S1.2.1, .int S1.2.2.2.2.1, .int S1.2.2.2.2.2.1])) := (hq.2.2.1).1
  refine lv_aload_n hx hb dX4_loop_0 rfl (lv_at hl9 0 rfl) ?_
  refine lv_iload_n hx hb dX4_loop_1 rfl (lv_at hl9 1 rfl) ?_
  refine hp_V (ci := 4) (As := [.int 0]) (rest := []) B0 hw hS (c_X4_endAt hl G f xo ez eo bu h1 0) mV_X4_endAt qM_X4_28 rfl h1 rfl rfl hl9.1 (Nat.le_of_ble_eq_true rfl) ⟨⟨Nat.le_of_ble_eq_true rfl, Nat.le_of_ble_eq_true rfl⟩, Nat.le_of_ble_eq_true rfl, Nat.le_of_ble_eq_true rfl⟩ dX4_loop_2 (fun E ce q9 f4 H locs hPX hw hS hce hcv hcl => ?_) (fun v f4 H locs hP hw hS => ?_)
  · obtain ⟨ef9, eE9, hE9⟩ := hPX
    rw [ef9] at hw
    exact absurd (Or.inl rfl) hE9
  · obtain ⟨ef9, hv9⟩ := hP
    rw [ef9] at hw
    rcases hv9 with ⟨k9, ev9⟩ | ⟨k9, ev9⟩
    rotate_left
    exact absurd k9 (by decide)
    subst ev9
    refine W.eq (g2 := F0 m 5 ls [.ref ez]) rfl ?_
    refine lv_astore_n (lv' := [(2, .ref ez), (0, .ref xo), (1, .int 0)]) hx hb dX4_loop_5 rfl hl9 (by decide) rfl (fun ls hl9 => ?_)
    refine lv_aload_n hx hb dX4_loop_6 rfl (lv_at hl9 0 rfl) ?_
    refine hp_S (As := [.ref ez]) (rest := []) B0 hw hS (c_X4_takeFrameX hl G f ez nw0 na0 nq0 nr0 S0.1 S0.2.1 S0.2.2.1 S0.2.2.2.1 S0.2.2.2.2.1 S0.2.2.2.2.2.1 S0.2.2.2.2.2.2.1 S0.2.2.2.2.2.2.2.1 S0.2.2.2.2.2.2.2.2 Q0 (hq.2.1)) mS_X4_takeFrame qM_X4_73 rfl rfl hl9.1 (Nat.le_of_ble_eq_true rfl) ⟨⟨Nat.le_of_ble_eq_true rfl, Nat.le_of_ble_eq_true rfl⟩, Nat.le_of_ble_eq_true rfl, Nat.le_of_ble_eq_true rfl⟩ dX4_loop_7 (fun E ce q9 f5 H locs hPX hw hS hce hcv hcl => ?_) (fun v f5 H locs hP hw hS => ?_)
    · obtain ⟨eE9, ef9, eL9⟩ := hPX
      rw [ef9] at hw
      exact absurd eL9 hL
    · obtain ⟨⟨w9, u9⟩, Q9, r9, L9, eQ9, eL9, ev9, hE9, ⟨nx9, hf9⟩, hu9, hk9⟩ := hP
      subst ev9
      subst eQ9
      have hE9 : EX G f5 ez nw0 na0 nq0 nr0 (takeS S0) Q9 := by rw [show takeS S0 = _ from congrArg (fun z9 => (S0.1, S0.2.1, S0.2.2.1, S0.2.2.2.1, S0.2.2.2.2.1, S0.2.2.2.2.2.1, S0.2.2.2.2.2.2.1, S0.2.2.2.2.2.2.2.1, z9)) (congrArg List.tail eL9)]; exact hE9
      have hq6 : CXQ G f5 xo ez eo bu nw0 na0 nq0 nr0 nw1 na1 nq1 nr1 bs bp bh bf bl bg Q9 Q1 (takeS S0) S1 gw0 ga0 gw1 ga1 n a cg x sa pk fl gv gh gl := CXQ.u0 hq hE9 (hK2.q0 (hK2.mono hk9 (sub_cons (List.mem_cons_of_mem _ (List.mem_cons_of_mem _ List.mem_cons_self)) sub_nil))) (fun c9 h9 => Or.inl (List.mem_cons_of_mem _ h9))
      have h7 : f5 xo = some (.inr (4, [.ref ez, .ref eo, .ref bu])) := hq6.1
      have h8 : f5 ez = some (.inr (1, [.ref nw0, .ref na0, .ref nq0, .ref nr0, .int (num ((takeS S0).2.2.2.2.2.2.1)), .int ((takeS S0).1), .int ((takeS S0).2.2.2.1), .int ((takeS S0).2.2.1), .int ((takeS S0).2.1), .int ((takeS S0).2.2.2.2.1), .int ((takeS S0).2.2.2.2.2.1)])) := (hq6.2.1).1
      have h10 : f5 eo = some (.inr (1, [.ref nw1, .ref na1, .ref nq1, .ref nr1, .int (num S1.2.2.2.2.2.2.1), .int S1.1, .int S1.2.2.2.1, .int S1.2.2.1, .int S1.2.1, .int S1.2.2.2.2.1, .int S1.2.2.2.2.2.1])) := (hq6.2.2.1).1
      have hf9 : f5 w9 = some (.inr (2, [.int r9.1, .int r9.2.1, .int (mgF r9), .ref u9, nx9])) := hf9
      have hu9 : f5 u9 = some (.inl (cI G, 6, .inl r9.2.2.2)) := hu9
      refine W.eq (g2 := F0 m 10 ls [.ref w9]) rfl ?_
      refine lv_astore_n (lv' := [(3, .ref w9), (2, .ref ez), (0, .ref xo), (1, .int 0)]) hx hb dX4_loop_10 rfl hl9 (by decide) rfl (fun ls hl9 => ?_)
      refine lv_aload_n hx hb dX4_loop_11 rfl (lv_at hl9 1 rfl) ?_
      refine lv_dup hx hb dX4_loop_12 rfl ?_
      refine hp_getN B0 hw 1 rfl in_X1 h8 10 (by decide) oF_X4_86 rfl dX4_loop_13 ?_
      refine lv_iconst (v := 1) hx hb dX4_loop_16 (by decide) ?_
      refine lv_iadd hx hb dX4_loop_17 ?_
      refine hp_putN (fs1 := [.ref nw0, .ref na0, .ref nq0, .ref nr0, .int (num ((takeS S0).2.2.2.2.2.2.1)), .int ((takeS S0).1), .int ((takeS S0).2.2.2.1), .int ((takeS S0).2.2.1), .int ((takeS S0).2.1), .int ((takeS S0).2.2.2.2.1), .int (((takeS S0).2.2.2.2.2.1) + 1)]) (ty := .int) B0 hw hS 1 rfl in_X1 tyX1 tyX1_ok nmX1 h8 10 (by decide) oF_X4_86 rfl (by decide +kernel) rfl rfl (Nat.le_of_ble_eq_true rfl) rfl dX4_loop_18 (fun H locs f11 ef11 hw hS => ?_)
      have h12 : f11 ez = some (.inr (1, [.ref nw0, .ref na0, .ref nq0, .ref nr0, .int (num ((takeS S0).2.2.2.2.2.2.1)), .int ((takeS S0).1), .int ((takeS S0).2.2.2.1), .int ((takeS S0).2.2.1), .int ((takeS S0).2.1), .int ((takeS S0).2.2.2.2.1), .int (((takeS S0).2.2.2.2.2.1) + 1)])) := by rw [ef11, va_up_self]
      have hE13 : EX G f11 ez nw0 na0 nq0 nr0 (missS (takeS S0)) Q9 := ⟨h12, (show hK2 [ez] [] f5 f11 from (by rw [ef11]; exact hK2.up List.mem_cons_self)).2 _ _ (hq6.2.1).2.1 (ninc (hne (hq6.2.1).2.1 (hq6.2.1).1 (Nat.ne_of_beq_eq_false rfl)) nin0) (fun t9 => absurd t9 (Nat.ne_of_beq_eq_false rfl)), ⟨(hq6.2.1).2.2.1.choose, (show hK2 [ez] [] f5 f11 from (by rw [ef11]; exact hK2.up List.mem_cons_self)).2 _ _ (hq6.2.1).2.2.1.choose_spec.1 (ninc (hne (hq6.2.1).2.2.1.choose_spec.1 (hq6.2.1).1 (Nat.ne_of_beq_eq_false rfl)) nin0) (fun t9 => absurd t9 (Nat.ne_of_beq_eq_false rfl)), CH.kp (show hK2 [ez, nq0, nr0] [] f5 f11 from (by rw [ef11]; exact hK2.up List.mem_cons_self)) (hq6.2.1).2.2.1.choose_spec.2 (EX.cu (hq6.2.1)) (EX.sf (hq6.2.1))⟩, (hq6.2.1).2.2.2⟩
      have hq14 : CXQ G f11 xo ez eo bu nw0 na0 nq0 nr0 nw1 na1 nq1 nr1 bs bp bh bf bl bg Q9 Q1 (missS (takeS S0)) S1 gw0 ga0 gw1 ga1 n a cg x sa pk fl gv gh gl := CXQ.u0 hq6 hE13 (hK2.q0 (show hK2 [ez, nq0, nr0] [] f5 f11 from (by rw [ef11]; exact hK2.up List.mem_cons_self))) (fun c9 h9 => Or.inl h9)
      have h15 : f11 xo = some (.inr (4, [.ref ez, .ref eo, .ref bu])) := hq14.1
      have h16 : f11 ez = some (.inr (1, [.ref nw0, .ref na0, .ref nq0, .ref nr0, .int (num ((missS (takeS S0)).2.2.2.2.2.2.1)), .int ((missS (takeS S0)).1), .int ((missS (takeS S0)).2.2.2.1), .int ((missS (takeS S0)).2.2.1), .int ((missS (takeS S0)).2.1), .int ((missS (takeS S0)).2.2.2.2.1), .int ((missS (takeS S0)).2.2.2.2.2.1)])) := (hq14.2.1).1
      have h17 : f11 eo = some (.inr (1, [.ref nw1, .ref na1, .ref nq1, .ref nr1, .int (num S1.2.2.2.2.2.2.1), .int S1.1, .int S1.2.2.2.1, .int S1.2.2.1, .int S1.2.1, .int S1.2.2.2.2.1, .int S1.2.2.2.2.2.1])) := (hq14.2.2.1).1
      refine lv_aload_n hx hb dX4_loop_21 rfl (lv_at hl9 1 rfl) ?_
      refine lv_aload_n hx hb dX4_loop_22 rfl (lv_at hl9 0 rfl) ?_
      have h18 : f11 na0 = some (.inl (cI G, 6, .inl ga0)) := hq14.2.2.2.2.1
      have h19 : f11 nq0 = some (.inl (cI G, 6, .inl ((missS (takeS S0)).2.2.2.2.2.2.2.1))) := (hq14.2.1).2.1
      obtain ⟨y20, y21, h22⟩ := EX.cn (hq14.2.1)
      have n24 : w9 ≠ ez := hne hf9 h8 (Nat.ne_of_beq_eq_false rfl)
      have h23 : f11 w9 = some (.inr (2, [.int r9.1, .int r9.2.1, .int (mgF r9), .ref u9, nx9])) := by rw [ef11, va_up_ne _ _ n24]; exact hf9
      have n26 : u9 ≠ ez := hne hu9 h8 (Nat.ne_of_beq_eq_false rfl)
      have h25 : f11 u9 = some (.inl (cI G, 6, .inl r9.2.2.2)) := by rw [ef11, va_up_ne _ _ n26]; exact hu9
      refine hp_V (ci := 1) (As := [.ref w9]) (rest := []) B0 hw hS (c_X1_hearX hl G f11 ez nw0 na0 nq0 nr0 (missS (takeS S0)).1 (missS (takeS S0)).2.1 (missS (takeS S0)).2.2.1 (missS (takeS S0)).2.2.2.1 (missS (takeS S0)).2.2.2.2.1 (missS (takeS S0)).2.2.2.2.2.1 (missS (takeS S0)).2.2.2.2.2.2.1 (missS (takeS S0)).2.2.2.2.2.2.2.1 (missS (takeS S0)).2.2.2.2.2.2.2.2 Q9 (hq14.2.1) (len3 (EX.len (hq14.2.1)) (tlT hL0)) ga0 h18 (hq14.2.2.2.2.2.2.2.2.2.2.2.2.2.2.2.2.2.2.2.2.2.2.2.1) w9 u9 r9.1 r9.2.1 r9.2.2.1 r9.2.2.2 nx9 h23 h25 (List.nodup_cons.mp (hq.2.1).2.2.2.1).1 (fun z9 => (hq.2.2.2.2.2.2.2.2.2.2.2.2.2.2.2.2.2.2.2.2.2.2.2.2.2.2.2.2.2.2.2.2.2.2.2.2) (w9, u9) (List.mem_append_left _ List.mem_cons_self) (by rw [z9]; simp))) mV_X1_hear qM_X4_77 rfl h16 rfl rfl hl9.1 (Nat.le_of_ble_eq_true rfl) ⟨⟨Nat.le_of_ble_eq_true rfl, Nat.le_of_ble_eq_true rfl⟩, Nat.le_of_ble_eq_true rfl, Nat.le_of_ble_eq_true rfl⟩ dX4_loop_23 (fun E ce q9 f27 H locs hPX hw hS hce hcv hcl => ?_) (fun v f27 H locs hP hw hS => ?_)
      · exact hPX.elim
      · obtain ⟨ev9, N28, hN29, hE30, hk31⟩ := hP
        have hq32 : CXQ G f27 xo ez eo bu nw0 na0 nq0 nr0 nw1 na1 nq1 nr1 bs bp bh bf bl bg (Q9 ++ N28) Q1 (hearF ga0 r9 (missS (takeS S0))) S1 gw0 ga0 gw1 ga1 n a cg x sa pk fl gv gh gl := CXQ.u0 hq14 hE30 hk31 (fun c9 h9 => (List.mem_append.mp h9).imp id (hN29 c9))
        have h33 : f27 xo = some (.inr (4, [.ref ez, .ref eo, .ref bu])) := hq32.1
        have h34 : f27 ez = some (.inr (1, [.ref nw0, .ref na0, .ref nq0, .ref nr0, .int (num ((hearF ga0 r9 (missS (takeS S0))).2.2.2.2.2.2.1)), .int ((hearF ga0 r9 (missS (takeS S0))).1), .int ((hearF ga0 r9 (missS (takeS S0))).2.2.2.1), .int ((hearF ga0 r9 (missS (takeS S0))).2.2.1), .int ((hearF ga0 r9 (missS (takeS S0))).2.1), .int ((hearF ga0 r9 (missS (takeS S0))).2.2.2.2.1), .int ((hearF ga0 r9 (missS (takeS S0))).2.2.2.2.2.1)])) := (hq32.2.1).1
        have h35 : f27 eo = some (.inr (1, [.ref nw1, .ref na1, .ref nq1, .ref nr1, .int (num S1.2.2.2.2.2.2.1), .int S1.1, .int S1.2.2.2.1, .int S1.2.2.1, .int S1.2.1, .int S1.2.2.2.2.1, .int S1.2.2.2.2.2.1])) := (hq32.2.2.1).1
        subst ev9
        refine W.eq (g2 := F0 m 26 ls []) rfl ?_
        refine lv_aload_n hx hb dX4_loop_26 rfl (lv_at hl9 0 rfl) ?_
        have n36 : w9 ≠ nr0 := hne h23 h22 (Nat.ne_of_beq_eq_false rfl)
        have n37 : w9 ≠ nq0 := hne h23 h19 (Nat.ne_of_beq_eq_false rfl)
        have h38 : f27 w9 = some (.inr (2, [.int r9.1, .int r9.2.1, .int (mgF r9), .ref u9, nx9])) := hk31.2 _ _ h23 (ninc n24 (ninc n37 (ninc n36 nin0))) (fun _ => (List.nodup_cons.mp (hq.2.1).2.2.2.1).1)
        refine hp_get B0 hw 2 rfl in_X2 h38 0 (by decide) qF_X4_81 rfl dX4_loop_27 ?_
        exact hp_iret (v := r9.1) B0 hw hS hr ⟨Nat.le_of_ble_eq_true rfl, Nat.le_of_ble_eq_true rfl⟩ dX4_loop_30 (⟨r9, L9, eL9, rfl, ⟨_, _, hq32⟩, ((show hKn [xo, ez, eo, bu, nw0, na0, nq0, nr0, nw1, na1, nq1, nr1, bs, bp, bh, bf, bl, bg] f f5 from (hKn.mono (hK2.n hk9) (sub_cons (List.mem_cons_of_mem _ (List.mem_cons_of_mem _ (List.mem_cons_of_mem _ (List.mem_cons_of_mem _ (List.mem_cons_of_mem _ (List.mem_cons_of_mem _ (List.mem_cons_of_mem _ List.mem_cons_self))))))) sub_nil))).tr ((show hKn [xo, ez, eo, bu, nw0, na0, nq0, nr0, nw1, na1, nq1, nr1, bs, bp, bh, bf, bl, bg] f5 f11 from (by rw [ef11]; exact hKn.up (List.mem_cons_of_mem _ List.mem_cons_self))).tr (show hKn [xo, ez, eo, bu, nw0, na0, nq0, nr0, nw1, na1, nq1, nr1, bs, bp, bh, bf, bl, bg] f11 f27 from (hKn.mono (hK2.n hk31) (sub_cons (List.mem_cons_of_mem _ List.mem_cons_self) (sub_cons (List.mem_cons_of_mem _ (List.mem_cons_of_mem _ (List.mem_cons_of_mem _ (List.mem_cons_of_mem _ (List.mem_cons_of_mem _ (List.mem_cons_of_mem _ List.mem_cons_self)))))) (sub_cons (List.mem_cons_of_mem _ (List.mem_cons_of_mem _ (List.mem_cons_of_mem _ (List.mem_cons_of_mem _ (List.mem_cons_of_mem _ (List.mem_cons_of_mem _ (List.mem_cons_of_mem _ List.mem_cons_self))))))) sub_nil)))))))⟩)

set_option maxHeartbeats 4000000 in
set_option maxRecDepth 100000 in
theorem c_P_deliver_S0 {l : Launch} (hl : l.stackTraces = false) (G : hG) (f : hM) (xo ez eo bu nw0 na0 nq0 nr0 nw1 na1 nq1 nr1 bs bp bh bf bl bg : Nat) (S0 : ES) (S1 : ES) (gw0 : Nat → Int32) (ga0 : Nat → Int32) (gw1 : Nat → Int32) (ga1 : Nat → Int32) (n : Nat) (a : Nat) (cg : Nat) (x : Nat) (sa : Nat → Nat) (pk : Nat → Nat) (fl : Nat → Nat) (gv : Nat → Nat) (gh : Nat → Int32) (gl : Nat → Int32) (hC : CXW G f xo ez eo bu nw0 na0 nq0 nr0 nw1 na1 nq1 nr1 bs bp bh bf bl bg S0 S1 gw0 ga0 gw1 ga1 n a cg x sa pk fl gv gh gl) (hL0 : S0.2.2.2.2.2.2.2.2.length < 3000) (hL1 : S1.2.2.2.2.2.2.2.2.length < 3000) (hL : S0.2.2.2.2.2.2.2.2 = []) : CT l yX4_deliver (.code yX4_deliver cX4_deliver 3 (some .int)) 7 103 2 12 G [.ref xo, .int 0] f (fun v f1 => False) (fun E f1 => E = eS ∧ CXW G f1 xo ez eo bu nw0 na0 nq0 nr0 nw1 na1 nq1 nr1 bs bp bh bf bl bg S0 S1 gw0 ga0 gw1 ga1 n a cg x sa pk fl gv gh gl ∧ hKn [xo, ez, eo, bu, nw0, na0, nq0, nr0, nw1, na1, nq1, nr1, bs, bp, bh, bf, bl, bg] f f1) := by
  refine hp_start hl (own := RX4) (by decide) rfl (Nat.le_of_ble_eq_true rfl) ?_
  intro p e s m args below meth c B0 hr hnm hout hw hS ls hl9
  have hx := B0.1
  have hb := B0.2.1
  have hl9 : lv_has ls 3 [(0, .ref xo), (1, .int 0)] := hl9
  obtain ⟨Q0, Q1, hq⟩ := id hC
  have h1 : f xo = some (.inr (4, [.ref ez, .ref eo, .ref bu])) := hq.1
  have h2 : f ez = some (.inr (1, [.ref nw0, .ref na0, .ref nq0, .ref nr0, .int (num S0.2.2.2.2.2.2.1), .int S0.1, .int S0.2.2.2.1, .int S0.2.2.1, .int S0.2.1, .int S0.2.2.2.2.1, .int S0.2.2.2.2.2.1])) := (hq.2.1).1
  have h3 : f eo = some (.inr (1, [.ref nw1, .ref na1, .ref nq1, .ref nr1, .int (num S1.2.2.2.2.2.2.1), .int S1.1, .int S1.2.2.2.1, .int S1.2.2.1, .int S1.2.1, .int S1.2.2.2.2.1, .int S1.2.2.2.2.2.1])) := (hq.2.2.1).1
  refine lv_aload_n hx hb dX4_deliver_0 rfl (lv_at hl9 0 rfl) ?_
  refine lv_iload_n hx hb dX4_deliver_1 rfl (lv_at hl9 1 rfl) ?_
  refine hp_V (ci := 4) (As := [.int 0]) (rest := []) B0 hw hS (c_X4_endAt hl G f xo ez eo bu h1 0) mV_X4_endAt qM_X4_28 rfl h1 rfl rfl hl9.1 (Nat.le_of_ble_eq_true rfl) ⟨⟨Nat.le_of_ble_eq_true rfl, Nat.le_of_ble_eq_true rfl⟩, Nat.le_of_ble_eq_true rfl, Nat.le_of_ble_eq_true rfl⟩ dX4_deliver_2 (fun E ce q9 f4 H locs hPX hw hS hce hcv hcl => ?_) (fun v f4 H locs hP hw hS => ?_)
  · obtain ⟨ef9, eE9, hE9⟩ := hPX
    rw [ef9] at hw
    exact absurd (Or.inl rfl) hE9
  · obtain ⟨ef9, hv9⟩ := hP
    rw [ef9] at hw
    rcases hv9 with ⟨k9, ev9⟩ | ⟨k9, ev9⟩
    rotate_left
    exact absurd k9 (by decide)
    subst ev9
    refine W.eq (g2 := F0 m 5 ls [.ref ez]) rfl ?_
    refine hp_S (As := [.ref ez]) (rest := []) B0 hw hS (c_X4_takeFrameX hl G f ez nw0 na0 nq0 nr0 S0.1 S0.2.1 S0.2.2.1 S0.2.2.2.1 S0.2.2.2.2.1 S0.2.2.2.2.2.1 S0.2.2.2.2.2.2.1 S0.2.2.2.2.2.2.2.1 S0.2.2.2.2.2.2.2.2 Q0 (hq.2.1)) mS_X4_takeFrame qM_X4_73 rfl rfl hl9.1 (Nat.le_of_ble_eq_true rfl) ⟨⟨Nat.le_of_ble_eq_true rfl, Nat.le_of_ble_eq_true rfl⟩, Nat.le_of_ble_eq_true rfl, Nat.le_of_ble_eq_true rfl⟩ dX4_deliver_5 (fun E ce q9 f5 H locs hPX hw hS hce hcv hcl => ?_) (fun v f5 H locs hP hw hS => ?_)
    · obtain ⟨eE9, ef9, eL9⟩ := hPX
      rw [ef9] at hw
      subst eE9
      exact hp_out B0 hw hS hout hce hcv hcl ⟨Nat.le_of_ble_eq_true rfl, Nat.le_of_ble_eq_true rfl⟩ (⟨rfl, ⟨_, _, hq⟩, hKn.rf⟩)
    · obtain ⟨⟨w9, u9⟩, Q9, r9, L9, eQ9, eL9, ev9, hE9, ⟨nx9, hf9⟩, hu9, hk9⟩ := hP
      exact absurd (eL9.symm.trans hL) (fun z9 => nomatch z9)

set_option maxHeartbeats 4000000 in
set_option maxRecDepth 100000 in
theorem c_P_lose_S0 {l : Launch} (hl : l.stackTraces = false) (G : hG) (f : hM) (xo ez eo bu nw0 na0 nq0 nr0 nw1 na1 nq1 nr1 bs bp bh bf bl bg : Nat) (S0 : ES) (S1 : ES) (gw0 : Nat → Int32) (ga0 : Nat → Int32) (gw1 : Nat → Int32) (ga1 : Nat → Int32) (n : Nat) (a : Nat) (cg : Nat) (x : Nat) (sa : Nat → Nat) (pk : Nat → Nat) (fl : Nat → Nat) (gv : Nat → Nat) (gh : Nat → Int32) (gl : Nat → Int32) (hC : CXW G f xo ez eo bu nw0 na0 nq0 nr0 nw1 na1 nq1 nr1 bs bp bh bf bl bg S0 S1 gw0 ga0 gw1 ga1 n a cg x sa pk fl gv gh gl) (hL0 : S0.2.2.2.2.2.2.2.2.length < 3000) (hL1 : S1.2.2.2.2.2.2.2.2.length < 3000) (hL : S0.2.2.2.2.2.2.2.2 = []) : CT l yX4_lose (.code yX4_lose cX4_lose 4 (some .int)) 7 103 2 12 G [.ref xo, .int 0] f (fun v f1 => False) (fun E f1 => E = eS ∧ CXW G f1 xo ez eo bu nw0 na0 nq0 nr0 nw1 na1 nq1 nr1 bs bp bh bf bl bg S0 S1 gw0 ga0 gw1 ga1 n a cg x sa pk fl gv gh gl ∧ hKn [xo, ez, eo, bu, nw0, na0, nq0, nr0, nw1, na1, nq1, nr1, bs, bp, bh, bf, bl, bg] f f1) := by
  refine hp_start hl (own := RX4) (by decide) rfl (Nat.le_of_ble_eq_true rfl) ?_
  intro p e s m args below meth c B0 hr hnm hout hw hS ls hl9
  have hx := B0.1
  have hb := B0.2.1
  have hl9 : lv_has ls 4 [(0, .ref xo), (1, .int 0)] := hl9
  obtain ⟨Q0, Q1, hq⟩ := id hC
  have h1 : f xo = some (.inr (4, [.ref ez, .ref eo, .ref bu])) := hq.1
  have h2 : f ez = some (.inr (1, [.ref nw0, .ref na0, .ref nq0, .ref nr0, .int (num S0.2.2.2.2.2.2.1), .int S0.1, .int S0.2.2.2.1, .int S0.2.2.1, .int S0.2.1, .int S0.2.2.2.2.1, .int S0.2.2.2.2.2.1])) := (hq.2.1).1
  have h3 : f eo = some (.inr (1, [.ref nw1, .ref na1, .ref nq1, .ref nr1, .int (num S1.2.2.2.2.2.2.1), .int S1.1, .int S1.2.2.2.1, .int S1.2.2.1, .int S1.2.1, .int S1.2.2.2.2.1, .int S1.2.2.2.2.2.1])) := (hq.2.2.1).1
  refine lv_aload_n hx hb dX4_lose_0 rfl (lv_at hl9 0 rfl) ?_
  refine lv_iload_n hx hb dX4_lose_1 rfl (lv_at hl9 1 rfl) ?_
  refine hp_V (ci := 4) (As := [.int 0]) (rest := []) B0 hw hS (c_X4_endAt hl G f xo ez eo bu h1 0) mV_X4_endAt qM_X4_28 rfl h1 rfl rfl hl9.1 (Nat.le_of_ble_eq_true rfl) ⟨⟨Nat.le_of_ble_eq_true rfl, Nat.le_of_ble_eq_true rfl⟩, Nat.le_of_ble_eq_true rfl, Nat.le_of_ble_eq_true rfl⟩ dX4_lose_2 (fun E ce q9 f4 H locs hPX hw hS hce hcv hcl => ?_) (fun v f4 H locs hP hw hS => ?_)
  · obtain ⟨ef9, eE9, hE9⟩ := hPX
    rw [ef9] at hw
    exact absurd (Or.inl rfl) hE9
  · obtain ⟨ef9, hv9⟩ := hP
    rw [ef9] at hw
    rcases hv9 with ⟨k9, ev9⟩ | ⟨k9, ev9⟩
    rotate_left
    exact absurd k9 (by decide)
    subst ev9
    refine W.eq (g2 := F0 m 5 ls [.ref ez]) rfl ?_
    refine lv_astore_n (lv' := [(2, .ref ez), (0, .ref xo), (1, .int 0)]) hx hb dX4_lose_5 rfl hl9 (by decide) rfl (fun ls hl9 => ?_)
    refine lv_aload_n hx hb dX4_lose_6 rfl (lv_at hl9 0 rfl) ?_
    refine hp_S (As := [.ref ez]) (rest := []) B0 hw hS (c_X4_takeFrameX hl G f ez nw0 na0 nq0 nr0 S0.1 S0.2.1 S0.2.2.1 S0.2.2.2.1 S0.2.2.2.2.1 S0.2.2.2.2.2.1 S0.2.2.2.2.2.2.1 S0.2.2.2.2.2.2.2.1 S0.2.2.2.2.2.2.2.2 Q0 (hq.2.1)) mS_X4_takeFrame qM_X4_73 rfl rfl hl9.1 (Nat.le_of_ble_eq_true rfl) ⟨⟨Nat.le_of_ble_eq_true rfl, Nat.le_of_ble_eq_true rfl⟩, Nat.le_of_ble_eq_true rfl, Nat.le_of_ble_eq_true rfl⟩ dX4_lose_7 (fun E ce q9 f5 H locs hPX hw hS hce hcv hcl => ?_) (fun v f5 H locs hP hw hS => ?_)
    · obtain ⟨eE9, ef9, eL9⟩ := hPX
      rw [ef9] at hw
      subst eE9
      exact hp_out B0 hw hS hout hce hcv hcl ⟨Nat.le_of_ble_eq_true rfl, Nat.le_of_ble_eq_true rfl⟩ (⟨rfl, ⟨_, _, hq⟩, hKn.rf⟩)
    · obtain ⟨⟨w9, u9⟩, Q9, r9, L9, eQ9, eL9, ev9, hE9, ⟨nx9, hf9⟩, hu9, hk9⟩ := hP
      exact absurd (eL9.symm.trans hL) (fun z9 => nomatch z9)

set_option maxHeartbeats 4000000 in
set_option maxRecDepth 100000 in
theorem c_P_loop_S0 {l : Launch} (hl : l.stackTraces = false) (G : hG) (f : hM) (xo ez eo bu nw0 na0 nq0 nr0 nw1 na1 nq1 nr1 bs bp bh bf bl bg : Nat) (S0 : ES) (S1 : ES) (gw0 : Nat → Int32) (ga0 : Nat → Int32) (gw1 : Nat → Int32) (ga1 : Nat → Int32) (n : Nat) (a : Nat) (cg : Nat) (x : Nat) (sa : Nat → Nat) (pk : Nat → Nat) (fl : Nat → Nat) (gv : Nat → Nat) (gh : Nat → Int32) (gl : Nat → Int32) (hC : CXW G f xo ez eo bu nw0 na0 nq0 nr0 nw1 na1 nq1 nr1 bs bp bh bf bl bg S0 S1 gw0 ga0 gw1 ga1 n a cg x sa pk fl gv gh gl) (hL0 : S0.2.2.2.2.2.2.2.2.length < 3000) (hL1 : S1.2.2.2.2.2.2.2.2.length < 3000) (hL : S0.2.2.2.2.2.2.2.2 = []) : CT l yX4_loop (.code yX4_loop cX4_loop 4 (some .int)) 7 103 2 12 G [.ref xo, .int 0] f (fun v f1 => False) (fun E f1 => E = eS ∧ CXW G f1 xo ez eo bu nw0 na0 nq0 nr0 nw1 na1 nq1 nr1 bs bp bh bf bl bg S0 S1 gw0 ga0 gw1 ga1 n a cg x sa pk fl gv gh gl ∧ hKn [xo, ez, eo, bu, nw0, na0, nq0, nr0, nw1, na1, nq1, nr1, bs, bp, bh, bf, bl, bg] f f1) := by
  refine hp_start hl (own := RX4) (by decide) rfl (Nat.le_of_ble_eq_true rfl) ?_
  intro p e s m args below meth c B0 hr hnm hout hw hS ls hl9
  have hx := B0.1
  have hb := B0.2.1
  have hl9 : lv_has ls 4 [(0, .ref xo), (1, .int 0)] := hl9
  obtain ⟨Q0, Q1, hq⟩ := id hC
  have h1 : f xo = some (.inr (4, [.ref ez, .ref eo, .ref bu])) := hq.1
  have h2 : f ez = some (.inr (1, [.ref nw0, .ref na0, .ref nq0, .ref nr0, .int (num S0.2.2.2.2.2.2.1), .int S0.1, .int S0.2.2.2.1, .int S0.2.2.1, .int S0.2.1, .int S0.2.2.2.2.1, .int S0.2.2.2.2.2.1])) := (hq.2.1).1
  have h3 : f eo = some (.inr (1, [.ref nw1, .ref na1, .ref nq1, .ref nr1, .int (num S1.2.2.2.2.2.2.1), .int S1.1, .int S1.2.2.2.1, .int S1.2.2.1, .int S1.2.1, .int S1.2.2.2.2.1, .int S1.2.2.2.2.2.1])) := (hq.2.2.1).1
  refine lv_aload_n hx hb dX4_loop_0 rfl (lv_at hl9 0 rfl) ?_
  refine lv_iload_n hx hb dX4_loop_1 rfl (lv_at hl9 1 rfl) ?_
  refine hp_V (ci := 4) (As := [.int 0]) (rest := []) B0 hw hS (c_X4_endAt hl G f xo ez eo bu h1 0) mV_X4_endAt qM_X4_28 rfl h1 rfl rfl hl9.1 (Nat.le_of_ble_eq_true rfl) ⟨⟨Nat.le_of_ble_eq_true rfl, Nat.le_of_ble_eq_true rfl⟩, Nat.le_of_ble_eq_true rfl, Nat.le_of_ble_eq_true rfl⟩ dX4_loop_2 (fun E ce q9 f4 H locs hPX hw hS hce hcv hcl => ?_) (fun v f4 H locs hP hw hS => ?_)
  · obtain ⟨ef9, eE9, hE9⟩ := hPX
    rw [ef9] at hw
    exact absurd (Or.inl rfl) hE9
  · obtain ⟨ef9, hv9⟩ := hP
    rw [ef9] at hw
    rcases hv9 with ⟨k9, ev9⟩ | ⟨k9, ev9⟩
    rotate_left
    exact absurd k9 (by decide)
    subst ev9
    refine W.eq (g2 := F0 m 5 ls [.ref ez]) rfl ?_
    refine lv_astore_n (lv' := [(2, .ref ez), (0, .ref xo), (1, .int 0)]) hx hb dX4_loop_5 rfl hl9 (by decide) rfl (fun ls hl9 => ?_)
    refine lv_aload_n hx hb dX4_loop_6 rfl (lv_at hl9 0 rfl) ?_
    refine hp_S (As := [.ref ez]) (rest := []) B0 hw hS (c_X4_takeFrameX hl G f ez nw0 na0 nq0 nr0 S0.1 S0.2.1 S0.2.2.1 S0.2.2.2.1 S0.2.2.2.2.1 S0.2.2.2.2.2.1 S0.2.2.2.2.2.2.1 S0.2.2.2.2.2.2.2.1 S0.2.2.2.2.2.2.2.2 Q0 (hq.2.1)) mS_X4_takeFrame qM_X4_73 rfl rfl hl9.1 (Nat.le_of_ble_eq_true rfl) ⟨⟨Nat.le_of_ble_eq_true rfl, Nat.le_of_ble_eq_true rfl⟩, Nat.le_of_ble_eq_true rfl, Nat.le_of_ble_eq_true rfl⟩ dX4_loop_7 (fun E ce q9 f5 H locs hPX hw hS hce hcv hcl => ?_) (fun v f5 H locs hP hw hS => ?_)
    · obtain ⟨eE9, ef9, eL9⟩ := hPX
      rw [ef9] at hw
      subst eE9
      exact hp_out B0 hw hS hout hce hcv hcl ⟨Nat.le_of_ble_eq_true rfl, Nat.le_of_ble_eq_true rfl⟩ (⟨rfl, ⟨_, _, hq⟩, hKn.rf⟩)
    · obtain ⟨⟨w9, u9⟩, Q9, r9, L9, eQ9, eL9, ev9, hE9, ⟨nx9, hf9⟩, hu9, hk9⟩ := hP
      exact absurd (eL9.symm.trans hL) (fun z9 => nomatch z9)

set_option maxHeartbeats 4000000 in
set_option maxRecDepth 100000 in
theorem c_P_deliver_1 {l : Launch} (hl : l.stackTraces = false) (G : hG) (f : hM) (xo ez eo bu nw0 na0 nq0 nr0 nw1 na1 nq1 nr1 bs bp bh bf bl bg : Nat) (S0 : ES) (S1 : ES) (gw0 : Nat → Int32) (ga0 : Nat → Int32) (gw1 : Nat → Int32) (ga1 : Nat → Int32) (n : Nat) (a : Nat) (cg : Nat) (x : Nat) (sa : Nat → Nat) (pk : Nat → Nat) (fl : Nat → Nat) (gv : Nat → Nat) (gh : Nat → Int32) (gl : Nat → Int32) (hC : CXW G f xo ez eo bu nw0 na0 nq0 nr0 nw1 na1 nq1 nr1 bs bp bh bf bl bg S0 S1 gw0 ga0 gw1 ga1 n a cg x sa pk fl gv gh gl) (hL0 : S0.2.2.2.2.2.2.2.2.length < 3000) (hL1 : S1.2.2.2.2.2.2.2.2.length < 3000) (hL : ¬ S1.2.2.2.2.2.2.2.2 = []) : CT l yX4_deliver (.code yX4_deliver cX4_deliver 3 (some .int)) 7 132 7 40 G [.ref xo, .int 1] f (fun v f1 => ∃ (r : Fr) (L9 : List Fr), S1.2.2.2.2.2.2.2.2 = r :: L9 ∧ v = some (.int r.1) ∧ CXW G f1 xo ez eo bu nw0 na0 nq0 nr0 nw1 na1 nq1 nr1 bs bp bh bf bl bg (hearF ga0 r S0) (takeS S1) gw0 ga0 gw1 ga1 n a cg x sa pk fl gv gh gl ∧ hKn [xo, ez, eo, bu, nw0, na0, nq0, nr0, nw1, na1, nq1, nr1, bs, bp, bh, bf, bl, bg] f f1) (fun E f1 => False) := by
  refine hp_start hl (own := RX4) (by decide) rfl (Nat.le_of_ble_eq_true rfl) ?_
  intro p e s m args below meth c B0 hr hnm hout hw hS ls hl9
  have hx := B0.1
  have hb := B0.2.1
  have hl9 : lv_has ls 3 [(0, .ref xo), (1, .int 1)] := hl9
  obtain ⟨Q0, Q1, hq⟩ := id hC
  have h1 : f xo = some (.inr (4, [.ref ez, .ref eo, .ref bu])) := hq.1
  have h2 : f ez = some (.inr (1, [.ref nw0, .ref na0, .ref nq0, .ref nr0, .int (num S0.2.2.2.2.2.2.1), .int S0.1, .int S0.2.2.2.1, .int S0.2.2.1, .int S0.2.1, .int S0.2.2.2.2.1, .int S0.2.2.2.2.2.1])) := (hq.2.1).1
  have h3 : f eo = some (.inr (1, [.ref nw1, .ref na1, .ref nq1, .ref nr1, .int (num S1.2.2.2.2.2.2.1), .int S1.1, .int S1.2.2.2.1, .int S1.2.2.1, .int S1.2.1, .int S1.2.2.2.2.1, .int S1.2.2.2.2.2.1])) := (hq.2.2.1).1
  refine lv_aload_n hx hb dX4_deliver_0 rfl (lv_at hl9 0 rfl) ?_
  refine lv_iload_n hx hb dX4_deliver_1 rfl (lv_at hl9 1 rfl) ?_
  refine hp_V (ci := 4) (As := [.int 1]) (rest := []) B0 hw hS (c_X4_endAt hl G f xo ez eo bu h1 1) mV_X4_endAt qM_X4_28 rfl h1 rfl rfl hl9.1 (Nat.le_of_ble_eq_true rfl) ⟨⟨Nat.le_of_ble_eq_true rfl, Nat.le_of_ble_eq_true rfl⟩, Nat.le_of_ble_eq_true rfl, Nat.le_of_ble_eq_true rfl⟩ dX4_deliver_2 (fun E ce q9 f4 H locs hPX hw hS hce hcv hcl => ?_) (fun v f4 H locs hP hw hS => ?_)
  · obtain ⟨ef9, eE9, hE9⟩ := hPX
    rw [ef9] at hw
    exact absurd (Or.inr rfl) hE9
  · obtain ⟨ef9, hv9⟩ := hP
    rw [ef9] at hw
    rcases hv9 with ⟨k9, ev9⟩ | ⟨k9, ev9⟩
    exact absurd k9 (by decide)
    subst ev9
    refine W.eq (g2 := F0 m 5 ls [.ref eo]) rfl ?_
    refine hp_S (As := [.ref eo]) (rest := []) B0 hw hS (c_X4_takeFrameX hl G f eo nw1 na1 nq1 nr1 S1.1 S1.2.1 S1.2.2.1 S1.2.2.2.1 S1.2.2.2.2.1 S1.2.2.2.2.2.1 S1.2.2.2.2.2.2.1 S1.2.2.2.2.2.2.2.1 S1.2.2.2.2.2.2.2.2 Q1 (hq.2.2.1)) mS_X4_takeFrame qM_X4_73 rfl rfl hl9.1 (Nat.le_of_ble_eq_true rfl) ⟨⟨Nat.le_of_ble_eq_true rfl, Nat.le_of_ble_eq_true rfl⟩, Nat.le_of_ble_eq_true rfl, Nat.le_of_ble_eq_true rfl⟩ dX4_deliver_5 (fun E ce q9 f5 H locs hPX hw hS hce hcv hcl => ?_) (fun v f5 H locs hP hw hS => ?_)
    · obtain ⟨eE9, ef9, eL9⟩ := hPX
      rw [ef9] at hw
      exact absurd eL9 hL
    · obtain ⟨⟨w9, u9⟩, Q9, r9, L9, eQ9, eL9, ev9, hE9, ⟨nx9, hf9⟩, hu9, hk9⟩ := hP
      subst ev9
      subst eQ9
      have hE9 : EX G f5 eo nw1 na1 nq1 nr1 (takeS S1) Q9 := by rw [show takeS S1 = _ from congrArg (fun z9 => (S1.1, S1.2.1, S1.2.2.1, S1.2.2.2.1, S1.2.2.2.2.1, S1.2.2.2.2.2.1, S1.2.2.2.2.2.2.1, S1.2.2.2.2.2.2.2.1, z9)) (congrArg List.tail eL9)]; exact hE9
      have hq6 : CXQ G f5 xo ez eo bu nw0 na0 nq0 nr0 nw1 na1 nq1 nr1 bs bp bh bf bl bg Q0 Q9 S0 (takeS S1) gw0 ga0 gw1 ga1 n a cg x sa pk fl gv gh gl := CXQ.u1 hq hE9 (hK2.q0 (hK2.mono hk9 (sub_cons (List.mem_cons_of_mem _ (List.mem_cons_of_mem _ List.mem_cons_self)) sub_nil))) (fun c9 h9 => Or.inl (List.mem_cons_of_mem _ h9))
      have h7 : f5 xo = some (.inr (4, [.ref ez, .ref eo, .ref bu])) := hq6.1
      have h8 : f5 ez = some (.inr (1, [.ref nw0, .ref na0, .ref nq0, .ref nr0, .int (num S0.2.2.2.2.2.2.1), .int S0.1, .int S0.2.2.2.1, .int S0.2.2.1, .int S0.2.1, .int S0.2.2.2.2.1, .int S0.2.2.2.2.2.1])) := (hq6.2.1).1
      have h10 : f5 eo = some (.inr (1, [.ref nw1, .ref na1, .ref nq1, .ref nr1, .int (num ((takeS S1).2.2.2.2.2.2.1)), .int ((takeS S1).1), .int ((takeS S1).2.2.2.1), .int ((takeS S1).2.2.1), .int ((takeS S1).2.1), .int ((takeS S1).2.2.2.2.1), .int ((takeS S1).2.2.2.2.2.1)])) := (hq6.2.2.1).1
      have hf9 : f5 w9 = some (.inr (2, [.int r9.1, .int r9.2.1, .int (mgF r9), .ref u9, nx9])) := hf9
      have hu9 : f5 u9 = some (.inl (cI G, 6, .inl r9.2.2.2)) := hu9
      refine W.eq (g2 := F0 m 8 ls [.ref w9]) rfl ?_
      refine lv_astore_n (lv' := [(2, .ref w9), (0, .ref xo), (1, .int 1)]) hx hb dX4_deliver_8 rfl hl9 (by decide) rfl (fun ls hl9 => ?_)
      refine lv_aload_n hx hb dX4_deliver_9 rfl (lv_at hl9 1 rfl) ?_
      refine lv_iconst (v := 1) hx hb dX4_deliver_10 (by decide) ?_
      refine lv_iload_n hx hb dX4_deliver_11 rfl (lv_at hl9 2 rfl) ?_
      refine lv_isub hx hb dX4_deliver_12 ?_
      refine hp_c (v := 0) (by decide) ?_
      refine hp_V (ci := 4) (As := [.int 0]) (rest := []) B0 hw hS (c_X4_endAt hl G f5 xo ez eo bu h7 0) mV_X4_endAt qM_X4_28 rfl h7 rfl rfl hl9.1 (Nat.le_of_ble_eq_true rfl) ⟨⟨Nat.le_of_ble_eq_true rfl, Nat.le_of_ble_eq_true rfl⟩, Nat.le_of_ble_eq_true rfl, Nat.le_of_ble_eq_true rfl⟩ dX4_deliver_13 (fun E ce q9 f11 H locs hPX hw hS hce hcv hcl => ?_) (fun v f11 H locs hP hw hS => ?_)
      · obtain ⟨ef9, eE9, hE9⟩ := hPX
        rw [ef9] at hw
        exact absurd (Or.inl rfl) hE9
      · obtain ⟨ef9, hv9⟩ := hP
        rw [ef9] at hw
        rcases hv9 with ⟨k9, ev9⟩ | ⟨k9, ev9⟩
        rotate_left
        exact absurd k9 (by decide)
        subst ev9
        refine W.eq (g2 := F0 m 16 ls [.ref ez]) rfl ?_
        refine lv_aload_n hx hb dX4_deliver_16 rfl (lv_at hl9 0 rfl) ?_
        have h12 : f5 na0 = some (.inl (cI G, 6, .inl ga0)) := hq6.2.2.2.2.1
        have h13 : f5 nq0 = some (.inl (cI G, 6, .inl S0.2.2.2.2.2.2.2.1)) := (hq6.2.1).2.1
        obtain ⟨y14, y15, h16⟩ := EX.cn (hq6.2.1)
        refine hp_V (ci := 1) (As := [.ref w9]) (rest := []) B0 hw hS (c_X1_hearX hl G f5 ez nw0 na0 nq0 nr0 S0.1 S0.2.1 S0.2.2.1 S0.2.2.2.1 S0.2.2.2.2.1 S0.2.2.2.2.2.1 S0.2.2.2.2.2.2.1 S0.2.2.2.2.2.2.2.1 S0.2.2.2.2.2.2.2.2 Q0 (hq6.2.1) (len3 (EX.len (hq6.2.1)) hL0) ga0 h12 (hq6.2.2.2.2.2.2.2.2.2.2.2.2.2.2.2.2.2.2.2.2.2.2.2.1) w9 u9 r9.1 r9.2.1 r9.2.2.1 r9.2.2.2 nx9 hf9 hu9 ((ws_symm (hq.2.2.2.2.2.2.2.2.2.2.2.2.2.2.2.2.2.2.2.2.2.2.2.2.2.2.2.2.2.2.2.2.2.2.2.1)) (w9, u9) List.mem_cons_self) (fun z9 => (hq.2.2.2.2.2.2.2.2.2.2.2.2.2.2.2.2.2.2.2.2.2.2.2.2.2.2.2.2.2.2.2.2.2.2.2.2) (w9, u9) (List.mem_append_right _ List.mem_cons_self) (by rw [z9]; simp))) mV_X1_hear qM_X4_77 rfl h8 rfl rfl hl9.1 (Nat.le_of_ble_eq_true rfl) ⟨⟨Nat.le_of_ble_eq_true rfl, Nat.le_of_ble_eq_true rfl⟩, Nat.le_of_ble_eq_true rfl, Nat.le_of_ble_eq_true rfl⟩ dX4_deliver_17 (fun E ce q9 f17 H locs hPX hw hS hce hcv hcl => ?_) (fun v f17 H locs hP hw hS => ?_)
        · exact hPX.elim
        · obtain ⟨ev9, N18, hN19, hE20, hk21⟩ := hP
          have hq22 : CXQ G f17 xo ez eo bu nw0 na0 nq0 nr0 nw1 na1 nq1 nr1 bs bp bh bf bl bg (Q0 ++ N18) Q9 (hearF ga0 r9 S0) (takeS S1) gw0 ga0 gw1 ga1 n a cg x sa pk fl gv gh gl := CXQ.u0 hq6 hE20 hk21 (fun c9 h9 => (List.mem_append.mp h9).imp id (hN19 c9))
          have h23 : f17 xo = some (.inr (4, [.ref ez, .ref eo, .ref bu])) := hq22.1
          have h24 : f17 ez = some (.inr (1, [.ref nw0, .ref na0, .ref nq0, .ref nr0, .int (num ((hearF ga0 r9 S0).2.2.2.2.2.2.1)), .int ((hearF ga0 r9 S0).1), .int ((hearF ga0 r9 S0).2.2.2.1), .int ((hearF ga0 r9 S0).2.2.1), .int ((hearF ga0 r9 S0).2.1), .int ((hearF ga0 r9 S0).2.2.2.2.1), .int ((hearF ga0 r9 S0).2.2.2.2.2.1)])) := (hq22.2.1).1
          have h25 : f17 eo = some (.inr (1, [.ref nw1, .ref na1, .ref nq1, .ref nr1, .int (num ((takeS S1).2.2.2.2.2.2.1)), .int ((takeS S1).1), .int ((takeS S1).2.2.2.1), .int ((takeS S1).2.2.1), .int ((takeS S1).2.1), .int ((takeS S1).2.2.2.2.1), .int ((takeS S1).2.2.2.2.2.1)])) := (hq22.2.2.1).1
          subst ev9
          refine W.eq (g2 := F0 m 20 ls []) rfl ?_
          refine lv_aload_n hx hb dX4_deliver_20 rfl (lv_at hl9 0 rfl) ?_
          have n26 : w9 ≠ nr0 := hne hf9 h16 (Nat.ne_of_beq_eq_false rfl)
          have n27 : w9 ≠ nq0 := hne hf9 h13 (Nat.ne_of_beq_eq_false rfl)
          have n28 : w9 ≠ ez := hne hf9 h8 (Nat.ne_of_beq_eq_false rfl)
          have h29 : f17 w9 = some (.inr (2, [.int r9.1, .int r9.2.1, .int (mgF r9), .ref u9, nx9])) := hk21.2 _ _ hf9 (ninc n28 (ninc n27 (ninc n26 nin0))) (fun _ => ((ws_symm (hq.2.2.2.2.2.2.2.2.2.2.2.2.2.2.2.2.2.2.2.2.2.2.2.2.2.2.2.2.2.2.2.2.2.2.2.1)) (w9, u9) List.mem_cons_self))
          refine hp_get B0 hw 2 rfl in_X2 h29 0 (by decide) qF_X4_81 rfl dX4_deliver_21 ?_
          exact hp_iret (v := r9.1) B0 hw hS hr ⟨Nat.le_of_ble_eq_true rfl, Nat.le_of_ble_eq_true rfl⟩ dX4_deliver_24 (⟨r9, L9, eL9, rfl, ⟨_, _, hq22⟩, ((show hKn [xo, ez, eo, bu, nw0, na0, nq0, nr0, nw1, na1, nq1, nr1, bs, bp, bh, bf, bl, bg] f f5 from (hKn.mono (hK2.n hk9) (sub_cons (List.mem_cons_of_mem _ (List.mem_cons_of_mem _ (List.mem_cons_of_mem _ (List.mem_cons_of_mem _ (List.mem_cons_of_mem _ (List.mem_cons_of_mem _ (List.mem_cons_of_mem _ (List.mem_cons_of_mem _ (List.mem_cons_of_mem _ (List.mem_cons_of_mem _ (List.mem_cons_of_mem _ List.mem_cons_self))))))))))) sub_nil))).tr (show hKn [xo, ez, eo, bu, nw0, na0, nq0, nr0, nw1, na1, nq1, nr1, bs, bp, bh, bf, bl, bg] f5 f17 from (hKn.mono (hK2.n hk21) (sub_cons (List.mem_cons_of_mem _ List.mem_cons_self) (sub_cons (List.mem_cons_of_mem _ (List.mem_cons_of_mem _ (List.mem_cons_of_mem _ (List.mem_cons_of_mem _ (List.mem_cons_of_mem _ (List.mem_cons_of_mem _ List.mem_cons_self)))))) (sub_cons (List.mem_cons_of_mem _ (List.mem_cons_of_mem _ (List.mem_cons_of_mem _ (List.mem_cons_of_mem _ (List.mem_cons_of_mem _ (List.mem_cons_of_mem _ (List.mem_cons_of_mem _ List.mem_cons_self))))))) sub_nil))))))⟩)

set_option maxHeartbeats 4000000 in
set_option maxRecDepth 100000 in
theorem c_P_lose_1 {l : Launch} (hl : l.stackTraces = false) (G : hG) (f : hM) (xo ez eo bu nw0 na0 nq0 nr0 nw1 na1 nq1 nr1 bs bp bh bf bl bg : Nat) (S0 : ES) (S1 : ES) (gw0 : Nat → Int32) (ga0 : Nat → Int32) (gw1 : Nat → Int32) (ga1 : Nat → Int32) (n : Nat) (a : Nat) (cg : Nat) (x : Nat) (sa : Nat → Nat) (pk : Nat → Nat) (fl : Nat → Nat) (gv : Nat → Nat) (gh : Nat → Int32) (gl : Nat → Int32) (hC : CXW G f xo ez eo bu nw0 na0 nq0 nr0 nw1 na1 nq1 nr1 bs bp bh bf bl bg S0 S1 gw0 ga0 gw1 ga1 n a cg x sa pk fl gv gh gl) (hL0 : S0.2.2.2.2.2.2.2.2.length < 3000) (hL1 : S1.2.2.2.2.2.2.2.2.length < 3000) (hL : ¬ S1.2.2.2.2.2.2.2.2 = []) : CT l yX4_lose (.code yX4_lose cX4_lose 4 (some .int)) 7 103 2 12 G [.ref xo, .int 1] f (fun v f1 => ∃ (r : Fr) (L9 : List Fr), S1.2.2.2.2.2.2.2.2 = r :: L9 ∧ v = some (.int r.1) ∧ CXW G f1 xo ez eo bu nw0 na0 nq0 nr0 nw1 na1 nq1 nr1 bs bp bh bf bl bg S0 (missS (takeS S1)) gw0 ga0 gw1 ga1 n a cg x sa pk fl gv gh gl ∧ hKn [xo, ez, eo, bu, nw0, na0, nq0, nr0, nw1, na1, nq1, nr1, bs, bp, bh, bf, bl, bg] f f1) (fun E f1 => False) := by
  refine hp_start hl (own := RX4) (by decide) rfl (Nat.le_of_ble_eq_true rfl) ?_
  intro p e s m args below meth c B0 hr hnm hout hw hS ls hl9
  have hx := B0.1
  have hb := B0.2.1
  have hl9 : lv_has ls 4 [(0, .ref xo), (1, .int 1)] := hl9
  obtain ⟨Q0, Q1, hq⟩ := id hC
  have h1 : f xo = some (.inr (4, [.ref ez, .ref eo, .ref bu])) := hq.1
  have h2 : f ez = some (.inr (1, [.ref nw0, .ref na0, .ref nq0, .ref nr0, .int (num S0.2.2.2.2.2.2.1), .int S0.1, .int S0.2.2.2.1, .int S0.2.2.1, .int S0.2.1, .int S0.2.2.2.2.1, .int S0.2.2.2.2.2.1])) := (hq.2.1).1
  have h3 : f eo = some (.inr (1, [.ref nw1, .ref na1, .ref nq1, .ref nr1, .int (num S1.2.2.2.2.2.2.1), .int S1.1, .int S1.2.2.2.1, .int S1.2.2.1, .int S1.2.1, .int S1.2.2.2.2.1, .int S1.2.2.2.2.2.1])) := (hq.2.2.1).1
  refine lv_aload_n hx hb dX4_lose_0 rfl (lv_at hl9 0 rfl) ?_
  refine lv_iload_n hx hb dX4_lose_1 rfl (lv_at hl9 1 rfl) ?_
  refine hp_V (ci := 4) (As := [.int 1]) (rest := []) B0 hw hS (c_X4_endAt hl G f xo ez eo bu h1 1) mV_X4_endAt qM_X4_28 rfl h1 rfl rfl hl9.1 (Nat.le_of_ble_eq_true rfl) ⟨⟨Nat.le_of_ble_eq_true rfl, Nat.le_of_ble_eq_true rfl⟩, Nat.le_of_ble_eq_true rfl, Nat.le_of_ble_eq_true rfl⟩ dX4_lose_2 (fun E ce q9 f4 H locs hPX hw hS hce hcv hcl => ?_) (fun v f4 H locs hP hw hS => ?_)
  · obtain ⟨ef9, eE9, hE9⟩ := hPX
    rw [ef9] at hw
    exact absurd (Or.inr rfl) hE9
  · obtain ⟨ef9, hv9⟩ := hP
    rw [ef9] at hw
    rcases hv9 with ⟨k9, ev9⟩ | ⟨k9, ev9⟩
    exact absurd k9 (by decide)
    subst ev9
    refine W.eq (g2 := F0 m 5 ls [.ref eo]) rfl ?_
    refine lv_astore_n (lv' := [(2, .ref eo), (0, .ref xo), (1, .int 1)]) hx hb dX4_lose_5 rfl hl9 (by decide) rfl (fun ls hl9 => ?_)
    refine lv_aload_n hx hb dX4_lose_6 rfl (lv_at hl9 0 rfl) ?_
    refine hp_S (As := [.ref eo]) (rest := []) B0 hw hS (c_X4_takeFrameX hl G f eo nw1 na1 nq1 nr1 S1.1 S1.2.1 S1.2.2.1 S1.2.2.2.1 S1.2.2.2.2.1 S1.2.2.2.2.2.1 S1.2.2.2.2.2.2.1 S1.2.2.2.2.2.2.2.1 S1.2.2.2.2.2.2.2.2 Q1 (hq.2.2.1)) mS_X4_takeFrame qM_X4_73 rfl rfl hl9.1 (Nat.le_of_ble_eq_true rfl) ⟨⟨Nat.le_of_ble_eq_true rfl, Nat.le_of_ble_eq_true rfl⟩, Nat.le_of_ble_eq_true rfl, Nat.le_of_ble_eq_true rfl⟩ dX4_lose_7 (fun E ce q9 f5 H locs hPX hw hS hce hcv hcl => ?_) (fun v f5 H locs hP hw hS => ?_)
    · obtain ⟨eE9, ef9, eL9⟩ := hPX
      rw [ef9] at hw
      exact absurd eL9 hL
    · obtain ⟨⟨w9, u9⟩, Q9, r9, L9, eQ9, eL9, ev9, hE9, ⟨nx9, hf9⟩, hu9, hk9⟩ := hP
      subst ev9
      subst eQ9
      have hE9 : EX G f5 eo nw1 na1 nq1 nr1 (takeS S1) Q9 := by rw [show takeS S1 = _ from congrArg (fun z9 => (S1.1, S1.2.1, S1.2.2.1, S1.2.2.2.1, S1.2.2.2.2.1, S1.2.2.2.2.2.1, S1.2.2.2.2.2.2.1, S1.2.2.2.2.2.2.2.1, z9)) (congrArg List.tail eL9)]; exact hE9
      have hq6 : CXQ G f5 xo ez eo bu nw0 na0 nq0 nr0 nw1 na1 nq1 nr1 bs bp bh bf bl bg Q0 Q9 S0 (takeS S1) gw0 ga0 gw1 ga1 n a cg x sa pk fl gv gh gl := CXQ.u1 hq hE9 (hK2.q0 (hK2.mono hk9 (sub_cons (List.mem_cons_of_mem _ (List.mem_cons_of_mem _ List.mem_cons_self)) sub_nil))) (fun c9 h9 => Or.inl (List.mem_cons_of_mem _ h9))
      have h7 : f5 xo = some (.inr (4, [.ref ez, .ref eo, .ref bu])) := hq6.1
      have h8 : f5 ez = some (.inr (1, [.ref nw0, .ref na0, .ref nq0, .ref nr0, .int (num S0.2.2.2.2.2.2.1), .int S0.1, .int S0.2.2.2.1, .int S0.2.2.1, .int S0.2.1, .int S0.2.2.2.2.1, .int S0.2.2.2.2.2.1])) := (hq6.2.1).1
      have h10 : f5 eo = some (.inr (1, [.ref nw1, .ref na1, .ref nq1, .ref nr1, .int (num ((takeS S1).2.2.2.2.2.2.1)), .int ((takeS S1).1), .int ((takeS S1).2.2.2.1), .int ((takeS S1).2.2.1), .int ((takeS S1).2.1), .int ((takeS S1).2.2.2.2.1), .int ((takeS S1).2.2.2.2.2.1)])) := (hq6.2.2.1).1
      have hf9 : f5 w9 = some (.inr (2, [.int r9.1, .int r9.2.1, .int (mgF r9), .ref u9, nx9])) := hf9
      have hu9 : f5 u9 = some (.inl (cI G, 6, .inl r9.2.2.2)) := hu9
      refine W.eq (g2 := F0 m 10 ls [.ref w9]) rfl ?_
      refine lv_astore_n (lv' := [(3, .ref w9), (2, .ref eo), (0, .ref xo), (1, .int 1)]) hx hb dX4_lose_10 rfl hl9 (by decide) rfl (fun ls hl9 => ?_)
      refine lv_aload_n hx hb dX4_lose_11 rfl (lv_at hl9 1 rfl) ?_
      refine lv_dup hx hb dX4_lose_12 rfl ?_
      refine hp_getN B0 hw 1 rfl in_X1 h10 10 (by decide) oF_X4_86 rfl dX4_lose_13 ?_
      refine lv_iconst (v := 1) hx hb dX4_lose_16 (by decide) ?_
      refine lv_iadd hx hb dX4_lose_17 ?_
      refine hp_putN (fs1 := [.ref nw1, .ref na1, .ref nq1, .ref nr1, .int (num ((takeS S1).2.2.2.2.2.2.1)), .int ((takeS S1).1), .int ((takeS S1).2.2.2.1), .int ((takeS S1).2.2.1), .int ((takeS S1).2.1), .int ((takeS S1).2.2.2.2.1), .int (((takeS S1).2.2.2.2.2.1) + 1)]) (ty := .int) B0 hw hS 1 rfl in_X1 tyX1 tyX1_ok nmX1 h10 10 (by decide) oF_X4_86 rfl (by decide +kernel) rfl rfl (Nat.le_of_ble_eq_true rfl) rfl dX4_lose_18 (fun H locs f11 ef11 hw hS => ?_)
      have h12 : f11 eo = some (.inr (1, [.ref nw1, .ref na1, .ref nq1, .ref nr1, .int (num ((takeS S1).2.2.2.2.2.2.1)), .int ((takeS S1).1), .int ((takeS S1).2.2.2.1), .int ((takeS S1).2.2.1), .int ((takeS S1).2.1), .int ((takeS S1).2.2.2.2.1), .int (((takeS S1).2.2.2.2.2.1) + 1)])) := by rw [ef11, va_up_self]
      have hE13 : EX G f11 eo nw1 na1 nq1 nr1 (missS (takeS S1)) Q9 := ⟨h12, (show hK2 [eo] [] f5 f11 from (by rw [ef11]; exact hK2.up List.mem_cons_self)).2 _ _ (hq6.2.2.1).2.1 (ninc (hne (hq6.2.2.1).2.1 (hq6.2.2.1).1 (Nat.ne_of_beq_eq_false rfl)) nin0) (fun t9 => absurd t9 (Nat.ne_of_beq_eq_false rfl)), ⟨(hq6.2.2.1).2.2.1.choose, (show hK2 [eo] [] f5 f11 from (by rw [ef11]; exact hK2.up List.mem_cons_self)).2 _ _ (hq6.2.2.1).2.2.1.choose_spec.1 (ninc (hne (hq6.2.2.1).2.2.1.choose_spec.1 (hq6.2.2.1).1 (Nat.ne_of_beq_eq_false rfl)) nin0) (fun t9 => absurd t9 (Nat.ne_of_beq_eq_false rfl)), CH.kp (show hK2 [eo, nq1, nr1] [] f5 f11 from (by rw [ef11]; exact hK2.up List.mem_cons_self)) (hq6.2.2.1).2.2.1.choose_spec.2 (EX.cu (hq6.2.2.1)) (EX.sf (hq6.2.2.1))⟩, (hq6.2.2.1).2.2.2⟩
      have hq14 : CXQ G f11 xo ez eo bu nw0 na0 nq0 nr0 nw1 na1 nq1 nr1 bs bp bh bf bl bg Q0 Q9 S0 (missS (takeS S1)) gw0 ga0 gw1 ga1 n a cg x sa pk fl gv gh gl := CXQ.u1 hq6 hE13 (hK2.q0 (show hK2 [eo, nq1, nr1] [] f5 f11 from (by rw [ef11]; exact hK2.up List.mem_cons_self))) (fun c9 h9 => Or.inl h9)
      have h15 : f11 xo = some (.inr (4, [.ref ez, .ref eo, .ref bu])) := hq14.1
      have h16 : f11 ez = some (.inr (1, [.ref nw0, .ref na0, .ref nq0, .ref nr0, .int (num S0.2.2.2.2.2.2.1), .int S0.1, .int S0.2.2.2.1, .int S0.2.2.1, .int S0.2.1, .int S0.2.2.2.2.1, .int S0.2.2.2.2.2.1])) := (hq14.2.1).1
      have h17 : f11 eo = some (.inr (1, [.ref nw1, .ref na1, .ref nq1, .ref nr1, .int (num ((missS (takeS S1)).2.2.2.2.2.2.1)), .int ((missS (takeS S1)).1), .int ((missS (takeS S1)).2.2.2.1), .int ((missS (takeS S1)).2.2.1), .int ((missS (takeS S1)).2.1), .int ((missS (takeS S1)).2.2.2.2.1), .int ((missS (takeS S1)).2.2.2.2.2.1)])) := (hq14.2.2.1).1
      refine lv_aload_n hx hb dX4_lose_21 rfl (lv_at hl9 0 rfl) ?_
      have n19 : w9 ≠ eo := hne hf9 h10 (Nat.ne_of_beq_eq_false rfl)
      have h18 : f11 w9 = some (.inr (2, [.int r9.1, .int r9.2.1, .int (mgF r9), .ref u9, nx9])) := by rw [ef11, va_up_ne _ _ n19]; exact hf9
      refine hp_get B0 hw 2 rfl in_X2 h18 0 (by decide) qF_X4_81 rfl dX4_lose_22 ?_
      exact hp_iret (v := r9.1) B0 hw hS hr ⟨Nat.le_of_ble_eq_true rfl, Nat.le_of_ble_eq_true rfl⟩ dX4_lose_25 (⟨r9, L9, eL9, rfl, ⟨_, _, hq14⟩, ((show hKn [xo, ez, eo, bu, nw0, na0, nq0, nr0, nw1, na1, nq1, nr1, bs, bp, bh, bf, bl, bg] f f5 from (hKn.mono (hK2.n hk9) (sub_cons (List.mem_cons_of_mem _ (List.mem_cons_of_mem _ (List.mem_cons_of_mem _ (List.mem_cons_of_mem _ (List.mem_cons_of_mem _ (List.mem_cons_of_mem _ (List.mem_cons_of_mem _ (List.mem_cons_of_mem _ (List.mem_cons_of_mem _ (List.mem_cons_of_mem _ (List.mem_cons_of_mem _ List.mem_cons_self))))))))))) sub_nil))).tr (show hKn [xo, ez, eo, bu, nw0, na0, nq0, nr0, nw1, na1, nq1, nr1, bs, bp, bh, bf, bl, bg] f5 f11 from (by rw [ef11]; exact hKn.up (List.mem_cons_of_mem _ (List.mem_cons_of_mem _ List.mem_cons_self)))))⟩)

set_option maxHeartbeats 4000000 in
set_option maxRecDepth 100000 in
theorem c_P_loop_1 {l : Launch} (hl : l.stackTraces = false) (G : hG) (f : hM) (xo ez eo bu nw0 na0 nq0 nr0 nw1 na1 nq1 nr1 bs bp bh bf bl bg : Nat) (S0 : ES) (S1 : ES) (gw0 : Nat → Int32) (ga0 : Nat → Int32) (gw1 : Nat → Int32) (ga1 : Nat → Int32) (n : Nat) (a : Nat) (cg : Nat) (x : Nat) (sa : Nat → Nat) (pk : Nat → Nat) (fl : Nat → Nat) (gv : Nat → Nat) (gh : Nat → Int32) (gl : Nat → Int32) (hC : CXW G f xo ez eo bu nw0 na0 nq0 nr0 nw1 na1 nq1 nr1 bs bp bh bf bl bg S0 S1 gw0 ga0 gw1 ga1 n a cg x sa pk fl gv gh gl) (hL0 : S0.2.2.2.2.2.2.2.2.length < 3000) (hL1 : S1.2.2.2.2.2.2.2.2.length < 3000) (hL : ¬ S1.2.2.2.2.2.2.2.2 = []) : CT l yX4_loop (.code yX4_loop cX4_loop 4 (some .int)) 7 132 6 34 G [.ref xo, .int 1] f (fun v f1 => ∃ (r : Fr) (L9 : List Fr), S1.2.2.2.2.2.2.2.2 = r :: L9 ∧ v = some (.int r.1) ∧ CXW G f1 xo ez eo bu nw0 na0 nq0 nr0 nw1 na1 nq1 nr1 bs bp bh bf bl bg S0 (hearF ga1 r (missS (takeS S1))) gw0 ga0 gw1 ga1 n a cg x sa pk fl gv gh gl ∧ hKn [xo, ez, eo, bu, nw0, na0, nq0, nr0, nw1, na1, nq1, nr1, bs, bp, bh, bf, bl, bg] f f1) (fun E f1 => False) := by
  refine hp_start hl (own := RX4) (by decide) rfl (Nat.le_of_ble_eq_true rfl) ?_
  intro p e s m args below meth c B0 hr hnm hout hw hS ls hl9
  have hx := B0.1
  have hb := B0.2.1
  have hl9 : lv_has ls 4 [(0, .ref xo), (1, .int 1)] := hl9
  obtain ⟨Q0, Q1, hq⟩ := id hC
  have h1 : f xo = some (.inr (4, [.ref ez, .ref eo, .ref bu])) := hq.1
  have h2 : f ez = some (.inr (1, [.ref nw0, .ref na0, .ref nq0, .ref nr0, .int (num S0.2.2.2.2.2.2.1), .int S0.1, .int S0.2.2.2.1, .int S0.2.2.1, .int S0.2.1, .int S0.2.2.2.2.1, .int S0.2.2.2.2.2.1])) := (hq.2.1).1
  have h3 : f eo = some (.inr (1, [.ref nw1, .ref na1, .ref nq1, .ref nr1, .int (num S1.2.2.2.2.2.2.1), .int S1.1, .int S1.2.2.2.1, .int S1.2.2.1, .int S1.2.1, .int S1.2.2.2.2.1, .int S1.2.2.2.2.2.1])) := (hq.2.2.1).1
  refine lv_aload_n hx hb dX4_loop_0 rfl (lv_at hl9 0 rfl) ?_
  refine lv_iload_n hx hb dX4_loop_1 rfl (lv_at hl9 1 rfl) ?_
  refine hp_V (ci := 4) (As := [.int 1]) (rest := []) B0 hw hS (c_X4_endAt hl G f xo ez eo bu h1 1) mV_X4_endAt qM_X4_28 rfl h1 rfl rfl hl9.1 (Nat.le_of_ble_eq_true rfl) ⟨⟨Nat.le_of_ble_eq_true rfl, Nat.le_of_ble_eq_true rfl⟩, Nat.le_of_ble_eq_true rfl, Nat.le_of_ble_eq_true rfl⟩ dX4_loop_2 (fun E ce q9 f4 H locs hPX hw hS hce hcv hcl => ?_) (fun v f4 H locs hP hw hS => ?_)
  · obtain ⟨ef9, eE9, hE9⟩ := hPX
    rw [ef9] at hw
    exact absurd (Or.inr rfl) hE9
  · obtain ⟨ef9, hv9⟩ := hP
    rw [ef9] at hw
    rcases hv9 with ⟨k9, ev9⟩ | ⟨k9, ev9⟩
    exact absurd k9 (by decide)
    subst ev9
    refine W.eq (g2 := F0 m 5 ls [.ref eo]) rfl ?_
    refine lv_astore_n (lv' := [(2, .ref eo), (0, .ref xo), (1, .int 1)]) hx hb dX4_loop_5 rfl hl9 (by decide) rfl (fun ls hl9 => ?_)
    refine lv_aload_n hx hb dX4_loop_6 rfl (lv_at hl9 0 rfl) ?_
    refine hp_S (As := [.ref eo]) (rest := []) B0 hw hS (c_X4_takeFrameX hl G f eo nw1 na1 nq1 nr1 S1.1 S1.2.1 S1.2.2.1 S1.2.2.2.1 S1.2.2.2.2.1 S1.2.2.2.2.2.1 S1.2.2.2.2.2.2.1 S1.2.2.2.2.2.2.2.1 S1.2.2.2.2.2.2.2.2 Q1 (hq.2.2.1)) mS_X4_takeFrame qM_X4_73 rfl rfl hl9.1 (Nat.le_of_ble_eq_true rfl) ⟨⟨Nat.le_of_ble_eq_true rfl, Nat.le_of_ble_eq_true rfl⟩, Nat.le_of_ble_eq_true rfl, Nat.le_of_ble_eq_true rfl⟩ dX4_loop_7 (fun E ce q9 f5 H locs hPX hw hS hce hcv hcl => ?_) (fun v f5 H locs hP hw hS => ?_)
    · obtain ⟨eE9, ef9, eL9⟩ := hPX
      rw [ef9] at hw
      exact absurd eL9 hL
    · obtain ⟨⟨w9, u9⟩, Q9, r9, L9, eQ9, eL9, ev9, hE9, ⟨nx9, hf9⟩, hu9, hk9⟩ := hP
      subst ev9
      subst eQ9
      have hE9 : EX G f5 eo nw1 na1 nq1 nr1 (takeS S1) Q9 := by rw [show takeS S1 = _ from congrArg (fun z9 => (S1.1, S1.2.1, S1.2.2.1, S1.2.2.2.1, S1.2.2.2.2.1, S1.2.2.2.2.2.1, S1.2.2.2.2.2.2.1, S1.2.2.2.2.2.2.2.1, z9)) (congrArg List.tail eL9)]; exact hE9
      have hq6 : CXQ G f5 xo ez eo bu nw0 na0 nq0 nr0 nw1 na1 nq1 nr1 bs bp bh bf bl bg Q0 Q9 S0 (takeS S1) gw0 ga0 gw1 ga1 n a cg x sa pk fl gv gh gl := CXQ.u1 hq hE9 (hK2.q0 (hK2.mono hk9 (sub_cons (List.mem_cons_of_mem _ (List.mem_cons_of_mem _ List.mem_cons_self)) sub_nil))) (fun c9 h9 => Or.inl (List.mem_cons_of_mem _ h9))
      have h7 : f5 xo = some (.inr (4, [.ref ez, .ref eo, .ref bu])) := hq6.1
      have h8 : f5 ez = some (.inr (1, [.ref nw0, .ref na0, .ref nq0, .ref nr0, .int (num S0.2.2.2.2.2.2.1), .int S0.1, .int S0.2.2.2.1, .int S0.2.2.1, .int S0.2.1, .int S0.2.2.2.2.1, .int S0.2.2.2.2.2.1])) := (hq6.2.1).1
      have h10 : f5 eo = some (.inr (1, [.ref nw1, .ref na1, .ref nq1, .ref nr1, .int (num ((takeS S1).2.2.2.2.2.2.1)), .int ((takeS S1).1), .int ((takeS S1).2.2.2.1), .int ((takeS S1).2.2.1), .int ((takeS S1).2.1), .int ((takeS S1).2.2.2.2.1), .int ((takeS S1).2.2.2.2.2.1)])) := (hq6.2.2.1).1
      have hf9 : f5 w9 = some (.inr (2, [.int r9.1, .int r9.2.1, .int (mgF r9), .ref u9, nx9])) := hf9
      have hu9 : f5 u9 = some (.inl (cI G, 6, .inl r9.2.2.2)) := hu9
      refine W.eq (g2 := F0 m 10 ls [.ref w9]) rfl ?_
      refine lv_astore_n (lv' := [(3, .ref w9), (2, .ref eo), (0, .ref xo), (1, .int 1)]) hx hb dX4_loop_10 rfl hl9 (by decide) rfl (fun ls hl9 => ?_)
      refine lv_aload_n hx hb dX4_loop_11 rfl (lv_at hl9 1 rfl) ?_
      refine lv_dup hx hb dX4_loop_12 rfl ?_
      refine hp_getN B0 hw 1 rfl in_X1 h10 10 (by decide) oF_X4_86 rfl dX4_loop_13 ?_
      refine lv_iconst (v := 1) hx hb dX4_loop_16 (by decide) ?_
      refine lv_iadd hx hb dX4_loop_17 ?_
      refine hp_putN (fs1 := [.ref nw1, .ref na1, .ref nq1, .ref nr1, .int (num ((takeS S1).2.2.2.2.2.2.1)), .int ((takeS S1).1), .int ((takeS S1).2.2.2.1), .int ((takeS S1).2.2.1), .int ((takeS S1).2.1), .int ((takeS S1).2.2.2.2.1), .int (((takeS S1).2.2.2.2.2.1) + 1)]) (ty := .int) B0 hw hS 1 rfl in_X1 tyX1 tyX1_ok nmX1 h10 10 (by decide) oF_X4_86 rfl (by decide +kernel) rfl rfl (Nat.le_of_ble_eq_true rfl) rfl dX4_loop_18 (fun H locs f11 ef11 hw hS => ?_)
      have h12 : f11 eo = some (.inr (1, [.ref nw1, .ref na1, .ref nq1, .ref nr1, .int (num ((takeS S1).2.2.2.2.2.2.1)), .int ((takeS S1).1), .int ((takeS S1).2.2.2.1), .int ((takeS S1).2.2.1), .int ((takeS S1).2.1), .int ((takeS S1).2.2.2.2.1), .int (((takeS S1).2.2.2.2.2.1) + 1)])) := by rw [ef11, va_up_self]
      have hE13 : EX G f11 eo nw1 na1 nq1 nr1 (missS (takeS S1)) Q9 := ⟨h12, (show hK2 [eo] [] f5 f11 from (by rw [ef11]; exact hK2.up List.mem_cons_self)).2 _ _ (hq6.2.2.1).2.1 (ninc (hne (hq6.2.2.1).2.1 (hq6.2.2.1).1 (Nat.ne_of_beq_eq_false rfl)) nin0) (fun t9 => absurd t9 (Nat.ne_of_beq_eq_false rfl)), ⟨(hq6.2.2.1).2.2.1.choose, (show hK2 [eo] [] f5 f11 from (by rw [ef11]; exact hK2.up List.mem_cons_self)).2 _ _ (hq6.2.2.1).2.2.1.choose_spec.1 (ninc (hne (hq6.2.2.1).2.2.1.choose_spec.1 (hq6.2.2.1).1 (Nat.ne_of_beq_eq_false rfl)) nin0) (fun t9 => absurd t9 (Nat.ne_of_beq_eq_false rfl)), CH.kp (show hK2 [eo, nq1, nr1] [] f5 f11 from (by rw [ef11]; exact hK2.up List.mem_cons_self)) (hq6.2.2.1).2.2.1.choose_spec.2 (EX.cu (hq6.2.2.1)) (EX.sf (hq6.2.2.1))⟩, (hq6.2.2.1).2.2.2⟩
      have hq14 : CXQ G f11 xo ez eo bu nw0 na0 nq0 nr0 nw1 na1 nq1 nr1 bs bp bh bf bl bg Q0 Q9 S0 (missS (takeS S1)) gw0 ga0 gw1 ga1 n a cg x sa pk fl gv gh gl := CXQ.u1 hq6 hE13 (hK2.q0 (show hK2 [eo, nq1, nr1] [] f5 f11 from (by rw [ef11]; exact hK2.up List.mem_cons_self))) (fun c9 h9 => Or.inl h9)
      have h15 : f11 xo = some (.inr (4, [.ref ez, .ref eo, .ref bu])) := hq14.1
      have h16 : f11 ez = some (.inr (1, [.ref nw0, .ref na0, .ref nq0, .ref nr0, .int (num S0.2.2.2.2.2.2.1), .int S0.1, .int S0.2.2.2.1, .int S0.2.2.1, .int S0.2.1, .int S0.2.2.2.2.1, .int S0.2.2.2.2.2.1])) := (hq14.2.1).1
      have h17 : f11 eo = some (.inr (1, [.ref nw1, .ref na1, .ref nq1, .ref nr1, .int (num ((missS (takeS S1)).2.2.2.2.2.2.1)), .int ((missS (takeS S1)).1), .int ((missS (takeS S1)).2.2.2.1), .int ((missS (takeS S1)).2.2.1), .int ((missS (takeS S1)).2.1), .int ((missS (takeS S1)).2.2.2.2.1), .int ((missS (takeS S1)).2.2.2.2.2.1)])) := (hq14.2.2.1).1
      refine lv_aload_n hx hb dX4_loop_21 rfl (lv_at hl9 1 rfl) ?_
      refine lv_aload_n hx hb dX4_loop_22 rfl (lv_at hl9 0 rfl) ?_
      have h18 : f11 na1 = some (.inl (cI G, 6, .inl ga1)) := hq14.2.2.2.2.2.2.1
      have h19 : f11 nq1 = some (.inl (cI G, 6, .inl ((missS (takeS S1)).2.2.2.2.2.2.2.1))) := (hq14.2.2.1).2.1
      obtain ⟨y20, y21, h22⟩ := EX.cn (hq14.2.2.1)
      have n24 : w9 ≠ eo := hne hf9 h10 (Nat.ne_of_beq_eq_false rfl)
      have h23 : f11 w9 = some (.inr (2, [.int r9.1, .int r9.2.1, .int (mgF r9), .ref u9, nx9])) := by rw [ef11, va_up_ne _ _ n24]; exact hf9
      have n26 : u9 ≠ eo := hne hu9 h10 (Nat.ne_of_beq_eq_false rfl)
      have h25 : f11 u9 = some (.inl (cI G, 6, .inl r9.2.2.2)) := by rw [ef11, va_up_ne _ _ n26]; exact hu9
      refine hp_V (ci := 1) (As := [.ref w9]) (rest := []) B0 hw hS (c_X1_hearX hl G f11 eo nw1 na1 nq1 nr1 (missS (takeS S1)).1 (missS (takeS S1)).2.1 (missS (takeS S1)).2.2.1 (missS (takeS S1)).2.2.2.1 (missS (takeS S1)).2.2.2.2.1 (missS (takeS S1)).2.2.2.2.2.1 (missS (takeS S1)).2.2.2.2.2.2.1 (missS (takeS S1)).2.2.2.2.2.2.2.1 (missS (takeS S1)).2.2.2.2.2.2.2.2 Q9 (hq14.2.2.1) (len3 (EX.len (hq14.2.2.1)) (tlT hL1)) ga1 h18 (hq14.2.2.2.2.2.2.2.2.2.2.2.2.2.2.2.2.2.2.2.2.2.2.2.2.2.2.2.2.2.2.2.2.1) w9 u9 r9.1 r9.2.1 r9.2.2.1 r9.2.2.2 nx9 h23 h25 (List.nodup_cons.mp (hq.2.2.1).2.2.2.1).1 (fun z9 => (hq.2.2.2.2.2.2.2.2.2.2.2.2.2.2.2.2.2.2.2.2.2.2.2.2.2.2.2.2.2.2.2.2.2.2.2.2) (w9, u9) (List.mem_append_right _ List.mem_cons_self) (by rw [z9]; simp))) mV_X1_hear qM_X4_77 rfl h17 rfl rfl hl9.1 (Nat.le_of_ble_eq_true rfl) ⟨⟨Nat.le_of_ble_eq_true rfl, Nat.le_of_ble_eq_true rfl⟩, Nat.le_of_ble_eq_true rfl, Nat.le_of_ble_eq_true rfl⟩ dX4_loop_23 (fun E ce q9 f27 H locs hPX hw hS hce hcv hcl => ?_) (fun v f27 H locs hP hw hS => ?_)
      · exact hPX.elim
      · obtain ⟨ev9, N28, hN29, hE30, hk31⟩ := hP
        have hq32 : CXQ G f27 xo ez eo bu nw0 na0 nq0 nr0 nw1 na1 nq1 nr1 bs bp bh bf bl bg Q0 (Q9 ++ N28) S0 (hearF ga1 r9 (missS (takeS S1))) gw0 ga0 gw1 ga1 n a cg x sa pk fl gv gh gl := CXQ.u1 hq14 hE30 hk31 (fun c9 h9 => (List.mem_append.mp h9).imp id (hN29 c9))
        have h33 : f27 xo = some (.inr (4, [.ref ez, .ref eo, .ref bu])) := hq32.1
        have h34 : f27 ez = some (.inr (1, [.ref nw0, .ref na0, .ref nq0, .ref nr0, .int (num S0.2.2.2.2.2.2.1), .int S0.1, .int S0.2.2.2.1, .int S0.2.2.1, .int S0.2.1, .int S0.2.2.2.2.1, .int S0.2.2.2.2.2.1])) := (hq32.2.1).1
        have h35 : f27 eo = some (.inr (1, [.ref nw1, .ref na1, .ref nq1, .ref nr1, .int (num ((hearF ga1 r9 (missS (takeS S1))).2.2.2.2.2.2.1)), .int ((hearF ga1 r9 (missS (takeS S1))).1), .int ((hearF ga1 r9 (missS (takeS S1))).2.2.2.1), .int ((hearF ga1 r9 (missS (takeS S1))).2.2.1), .int ((hearF ga1 r9 (missS (takeS S1))).2.1), .int ((hearF ga1 r9 (missS (takeS S1))).2.2.2.2.1), .int ((hearF ga1 r9 (missS (takeS S1))).2.2.2.2.2.1)])) := (hq32.2.2.1).1
        subst ev9
        refine W.eq (g2 := F0 m 26 ls []) rfl ?_
        refine lv_aload_n hx hb dX4_loop_26 rfl (lv_at hl9 0 rfl) ?_
        have n36 : w9 ≠ nr1 := hne h23 h22 (Nat.ne_of_beq_eq_false rfl)
        have n37 : w9 ≠ nq1 := hne h23 h19 (Nat.ne_of_beq_eq_false rfl)
        have h38 : f27 w9 = some (.inr (2, [.int r9.1, .int r9.2.1, .int (mgF r9), .ref u9, nx9])) := hk31.2 _ _ h23 (ninc n24 (ninc n37 (ninc n36 nin0))) (fun _ => (List.nodup_cons.mp (hq.2.2.1).2.2.2.1).1)
        refine hp_get B0 hw 2 rfl in_X2 h38 0 (by decide) qF_X4_81 rfl dX4_loop_27 ?_
        exact hp_iret (v := r9.1) B0 hw hS hr ⟨Nat.le_of_ble_eq_true rfl, Nat.le_of_ble_eq_true rfl⟩ dX4_loop_30 (⟨r9, L9, eL9, rfl, ⟨_, _, hq32⟩, ((show hKn [xo, ez, eo, bu, nw0, na0, nq0, nr0, nw1, na1, nq1, nr1, bs, bp, bh, bf, bl, bg] f f5 from (hKn.mono (hK2.n hk9) (sub_cons (List.mem_cons_of_mem _ (List.mem_cons_of_mem _ (List.mem_cons_of_mem _ (List.mem_cons_of_mem _ (List.mem_cons_of_mem _ (List.mem_cons_of_mem _ (List.mem_cons_of_mem _ (List.mem_cons_of_mem _ (List.mem_cons_of_mem _ (List.mem_cons_of_mem _ (List.mem_cons_of_mem _ List.mem_cons_self))))))))))) sub_nil))).tr ((show hKn [xo, ez, eo, bu, nw0, na0, nq0, nr0, nw1, na1, nq1, nr1, bs, bp, bh, bf, bl, bg] f5 f11 from (by rw [ef11]; exact hKn.up (List.mem_cons_of_mem _ (List.mem_cons_of_mem _ List.mem_cons_self)))).tr (show hKn [xo, ez, eo, bu, nw0, na0, nq0, nr0, nw1, na1, nq1, nr1, bs, bp, bh, bf, bl, bg] f11 f27 from (hKn.mono (hK2.n hk31) (sub_cons (List.mem_cons_of_mem _ (List.mem_cons_of_mem _ List.mem_cons_self)) (sub_cons (List.mem_cons_of_mem _ (List.mem_cons_of_mem _ (List.mem_cons_of_mem _ (List.mem_cons_of_mem _ (List.mem_cons_of_mem _ (List.mem_cons_of_mem _ (List.mem_cons_of_mem _ (List.mem_cons_of_mem _ (List.mem_cons_of_mem _ (List.mem_cons_of_mem _ List.mem_cons_self)))))))))) (sub_cons (List.mem_cons_of_mem _ (List.mem_cons_of_mem _ (List.mem_cons_of_mem _ (List.mem_cons_of_mem _ (List.mem_cons_of_mem _ (List.mem_cons_of_mem _ (List.mem_cons_of_mem _ (List.mem_cons_of_mem _ (List.mem_cons_of_mem _ (List.mem_cons_of_mem _ (List.mem_cons_of_mem _ List.mem_cons_self))))))))))) sub_nil)))))))⟩)

set_option maxHeartbeats 4000000 in
set_option maxRecDepth 100000 in
theorem c_P_deliver_S1 {l : Launch} (hl : l.stackTraces = false) (G : hG) (f : hM) (xo ez eo bu nw0 na0 nq0 nr0 nw1 na1 nq1 nr1 bs bp bh bf bl bg : Nat) (S0 : ES) (S1 : ES) (gw0 : Nat → Int32) (ga0 : Nat → Int32) (gw1 : Nat → Int32) (ga1 : Nat → Int32) (n : Nat) (a : Nat) (cg : Nat) (x : Nat) (sa : Nat → Nat) (pk : Nat → Nat) (fl : Nat → Nat) (gv : Nat → Nat) (gh : Nat → Int32) (gl : Nat → Int32) (hC : CXW G f xo ez eo bu nw0 na0 nq0 nr0 nw1 na1 nq1 nr1 bs bp bh bf bl bg S0 S1 gw0 ga0 gw1 ga1 n a cg x sa pk fl gv gh gl) (hL0 : S0.2.2.2.2.2.2.2.2.length < 3000) (hL1 : S1.2.2.2.2.2.2.2.2.length < 3000) (hL : S1.2.2.2.2.2.2.2.2 = []) : CT l yX4_deliver (.code yX4_deliver cX4_deliver 3 (some .int)) 7 103 2 12 G [.ref xo, .int 1] f (fun v f1 => False) (fun E f1 => E = eS ∧ CXW G f1 xo ez eo bu nw0 na0 nq0 nr0 nw1 na1 nq1 nr1 bs bp bh bf bl bg S0 S1 gw0 ga0 gw1 ga1 n a cg x sa pk fl gv gh gl ∧ hKn [xo, ez, eo, bu, nw0, na0, nq0, nr0, nw1, na1, nq1, nr1, bs, bp, bh, bf, bl, bg] f f1) := by
  refine hp_start hl (own := RX4) (by decide) rfl (Nat.le_of_ble_eq_true rfl) ?_
  intro p e s m args below meth c B0 hr hnm hout hw hS ls hl9
  have hx := B0.1
  have hb := B0.2.1
  have hl9 : lv_has ls 3 [(0, .ref xo), (1, .int 1)] := hl9
  obtain ⟨Q0, Q1, hq⟩ := id hC
  have h1 : f xo = some (.inr (4, [.ref ez, .ref eo, .ref bu])) := hq.1
  have h2 : f ez = some (.inr (1, [.ref nw0, .ref na0, .ref nq0, .ref nr0, .int (num S0.2.2.2.2.2.2.1), .int S0.1, .int S0.2.2.2.1, .int S0.2.2.1, .int S0.2.1, .int S0.2.2.2.2.1, .int S0.2.2.2.2.2.1])) := (hq.2.1).1
  have h3 : f eo = some (.inr (1, [.ref nw1, .ref na1, .ref nq1, .ref nr1, .int (num S1.2.2.2.2.2.2.1), .int S1.1, .int S1.2.2.2.1, .int S1.2.2.1, .int S1.2.1, .int S1.2.2.2.2.1, .int S1.2.2.2.2.2.1])) := (hq.2.2.1).1
  refine lv_aload_n hx hb dX4_deliver_0 rfl (lv_at hl9 0 rfl) ?_
  refine lv_iload_n hx hb dX4_deliver_1 rfl (lv_at hl9 1 rfl) ?_
  refine hp_V (ci := 4) (As := [.int 1]) (rest := []) B0 hw hS (c_X4_endAt hl G f xo ez eo bu h1 1) mV_X4_endAt qM_X4_28 rfl h1 rfl rfl hl9.1 (Nat.le_of_ble_eq_true rfl) ⟨⟨Nat.le_of_ble_eq_true rfl, Nat.le_of_ble_eq_true rfl⟩, Nat.le_of_ble_eq_true rfl, Nat.le_of_ble_eq_true rfl⟩ dX4_deliver_2 (fun E ce q9 f4 H locs hPX hw hS hce hcv hcl => ?_) (fun v f4 H locs hP hw hS => ?_)
  · obtain ⟨ef9, eE9, hE9⟩ := hPX
    rw [ef9] at hw
    exact absurd (Or.inr rfl) hE9
  · obtain ⟨ef9, hv9⟩ := hP
    rw [ef9] at hw
    rcases hv9 with ⟨k9, ev9⟩ | ⟨k9, ev9⟩
    exact absurd k9 (by decide)
    subst ev9
    refine W.eq (g2 := F0 m 5 ls [.ref eo]) rfl ?_
    refine hp_S (As := [.ref eo]) (rest := []) B0 hw hS (c_X4_takeFrameX hl G f eo nw1 na1 nq1 nr1 S1.1 S1.2.1 S1.2.2.1 S1.2.2.2.1 S1.2.2.2.2.1 S1.2.2.2.2.2.1 S1.2.2.2.2.2.2.1 S1.2.2.2.2.2.2.2.1 S1.2.2.2.2.2.2.2.2 Q1 (hq.2.2.1)) mS_X4_takeFrame qM_X4_73 rfl rfl hl9.1 (Nat.le_of_ble_eq_true rfl) ⟨⟨Nat.le_of_ble_eq_true rfl, Nat.le_of_ble_eq_true rfl⟩, Nat.le_of_ble_eq_true rfl, Nat.le_of_ble_eq_true rfl⟩ dX4_deliver_5 (fun E ce q9 f5 H locs hPX hw hS hce hcv hcl => ?_) (fun v f5 H locs hP hw hS => ?_)
    · obtain ⟨eE9, ef9, eL9⟩ := hPX
      rw [ef9] at hw
      subst eE9
      exact hp_out B0 hw hS hout hce hcv hcl ⟨Nat.le_of_ble_eq_true rfl, Nat.le_of_ble_eq_true rfl⟩ (⟨rfl, ⟨_, _, hq⟩, hKn.rf⟩)
    · obtain ⟨⟨w9, u9⟩, Q9, r9, L9, eQ9, eL9, ev9, hE9, ⟨nx9, hf9⟩, hu9, hk9⟩ := hP
      exact absurd (eL9.symm.trans hL) (fun z9 => nomatch z9)

set_option maxHeartbeats 4000000 in
set_option maxRecDepth 100000 in
theorem c_P_lose_S1 {l : Launch} (hl : l.stackTraces = false) (G : hG) (f : hM) (xo ez eo bu nw0 na0 nq0 nr0 nw1 na1 nq1 nr1 bs bp bh bf bl bg : Nat) (S0 : ES) (S1 : ES) (gw0 : Nat → Int32) (ga0 : Nat → Int32) (gw1 : Nat → Int32) (ga1 : Nat → Int32) (n : Nat) (a : Nat) (cg : Nat) (x : Nat) (sa : Nat → Nat) (pk : Nat → Nat) (fl : Nat → Nat) (gv : Nat → Nat) (gh : Nat → Int32) (gl : Nat → Int32) (hC : CXW G f xo ez eo bu nw0 na0 nq0 nr0 nw1 na1 nq1 nr1 bs bp bh bf bl bg S0 S1 gw0 ga0 gw1 ga1 n a cg x sa pk fl gv gh gl) (hL0 : S0.2.2.2.2.2.2.2.2.length < 3000) (hL1 : S1.2.2.2.2.2.2.2.2.length < 3000) (hL : S1.2.2.2.2.2.2.2.2 = []) : CT l yX4_lose (.code yX4_lose cX4_lose 4 (some .int)) 7 103 2 12 G [.ref xo, .int 1] f (fun v f1 => False) (fun E f1 => E = eS ∧ CXW G f1 xo ez eo bu nw0 na0 nq0 nr0 nw1 na1 nq1 nr1 bs bp bh bf bl bg S0 S1 gw0 ga0 gw1 ga1 n a cg x sa pk fl gv gh gl ∧ hKn [xo, ez, eo, bu, nw0, na0, nq0, nr0, nw1, na1, nq1, nr1, bs, bp, bh, bf, bl, bg] f f1) := by
  refine hp_start hl (own := RX4) (by decide) rfl (Nat.le_of_ble_eq_true rfl) ?_
  intro p e s m args below meth c B0 hr hnm hout hw hS ls hl9
  have hx := B0.1
  have hb := B0.2.1
  have hl9 : lv_has ls 4 [(0, .ref xo), (1, .int 1)] := hl9
  obtain ⟨Q0, Q1, hq⟩ := id hC
  have h1 : f xo = some (.inr (4, [.ref ez, .ref eo, .ref bu])) := hq.1
  have h2 : f ez = some (.inr (1, [.ref nw0, .ref na0, .ref nq0, .ref nr0, .int (num S0.2.2.2.2.2.2.1), .int S0.1, .int S0.2.2.2.1, .int S0.2.2.1, .int S0.2.1, .int S0.2.2.2.2.1, .int S0.2.2.2.2.2.1])) := (hq.2.1).1
  have h3 : f eo = some (.inr (1, [.ref nw1, .ref na1, .ref nq1, .ref nr1, .int (num S1.2.2.2.2.2.2.1), .int S1.1, .int S1.2.2.2.1, .int S1.2.2.1, .int S1.2.1, .int S1.2.2.2.2.1, .int S1.2.2.2.2.2.1])) := (hq.2.2.1).1
  refine lv_aload_n hx hb dX4_lose_0 rfl (lv_at hl9 0 rfl) ?_
  refine lv_iload_n hx hb dX4_lose_1 rfl (lv_at hl9 1 rfl) ?_
  refine hp_V (ci := 4) (As := [.int 1]) (rest := []) B0 hw hS (c_X4_endAt hl G f xo ez eo bu h1 1) mV_X4_endAt qM_X4_28 rfl h1 rfl rfl hl9.1 (Nat.le_of_ble_eq_true rfl) ⟨⟨Nat.le_of_ble_eq_true rfl, Nat.le_of_ble_eq_true rfl⟩, Nat.le_of_ble_eq_true rfl, Nat.le_of_ble_eq_true rfl⟩ dX4_lose_2 (fun E ce q9 f4 H locs hPX hw hS hce hcv hcl => ?_) (fun v f4 H locs hP hw hS => ?_)
  · obtain ⟨ef9, eE9, hE9⟩ := hPX
    rw [ef9] at hw
    exact absurd (Or.inr rfl) hE9
  · obtain ⟨ef9, hv9⟩ := hP
    rw [ef9] at hw
    rcases hv9 with ⟨k9, ev9⟩ | ⟨k9, ev9⟩
    exact absurd k9 (by decide)
    subst ev9
    refine W.eq (g2 := F0 m 5 ls [.ref eo]) rfl ?_
    refine lv_astore_n (lv' := [(2, .ref eo), (0, .ref xo), (1, .int 1)]) hx hb dX4_lose_5 rfl hl9 (by decide) rfl (fun ls hl9 => ?_)
    refine lv_aload_n hx hb dX4_lose_6 rfl (lv_at hl9 0 rfl) ?_
    refine hp_S (As := [.ref eo]) (rest := []) B0 hw hS (c_X4_takeFrameX hl G f eo nw1 na1 nq1 nr1 S1.1 S1.2.1 S1.2.2.1 S1.2.2.2.1 S1.2.2.2.2.1 S1.2.2.2.2.2.1 S1.2.2.2.2.2.2.1 S1.2.2.2.2.2.2.2.1 S1.2.2.2.2.2.2.2.2 Q1 (hq.2.2.1)) mS_X4_takeFrame qM_X4_73 rfl rfl hl9.1 (Nat.le_of_ble_eq_true rfl) ⟨⟨Nat.le_of_ble_eq_true rfl, Nat.le_of_ble_eq_true rfl⟩, Nat.le_of_ble_eq_true rfl, Nat.le_of_ble_eq_true rfl⟩ dX4_lose_7 (fun E ce q9 f5 H locs hPX hw hS hce hcv hcl => ?_) (fun v f5 H locs hP hw hS => ?_)
    · obtain ⟨eE9, ef9, eL9⟩ := hPX
      rw [ef9] at hw
      subst eE9
      exact hp_out B0 hw hS hout hce hcv hcl ⟨Nat.le_of_ble_eq_true rfl, Nat.le_of_ble_eq_true rfl⟩ (⟨rfl, ⟨_, _, hq⟩, hKn.rf⟩)
    · obtain ⟨⟨w9, u9⟩, Q9, r9, L9, eQ9, eL9, ev9, hE9, ⟨nx9, hf9⟩, hu9, hk9⟩ := hP
      exact absurd (eL9.symm.trans hL) (fun z9 => nomatch z9)

set_option maxHeartbeats 4000000 in
set_option maxRecDepth 100000 in
theorem c_P_loop_S1 {l : Launch} (hl : l.stackTraces = false) (G : hG) (f : hM) (xo ez eo bu nw0 na0 nq0 nr0 nw1 na1 nq1 nr1 bs bp bh bf bl bg : Nat) (S0 : ES) (S1 : ES) (gw0 : Nat → Int32) (ga0 : Nat → Int32) (gw1 : Nat → Int32) (ga1 : Nat → Int32) (n : Nat) (a : Nat) (cg : Nat) (x : Nat) (sa : Nat → Nat) (pk : Nat → Nat) (fl : Nat → Nat) (gv : Nat → Nat) (gh : Nat → Int32) (gl : Nat → Int32) (hC : CXW G f xo ez eo bu nw0 na0 nq0 nr0 nw1 na1 nq1 nr1 bs bp bh bf bl bg S0 S1 gw0 ga0 gw1 ga1 n a cg x sa pk fl gv gh gl) (hL0 : S0.2.2.2.2.2.2.2.2.length < 3000) (hL1 : S1.2.2.2.2.2.2.2.2.length < 3000) (hL : S1.2.2.2.2.2.2.2.2 = []) : CT l yX4_loop (.code yX4_loop cX4_loop 4 (some .int)) 7 103 2 12 G [.ref xo, .int 1] f (fun v f1 => False) (fun E f1 => E = eS ∧ CXW G f1 xo ez eo bu nw0 na0 nq0 nr0 nw1 na1 nq1 nr1 bs bp bh bf bl bg S0 S1 gw0 ga0 gw1 ga1 n a cg x sa pk fl gv gh gl ∧ hKn [xo, ez, eo, bu, nw0, na0, nq0, nr0, nw1, na1, nq1, nr1, bs, bp, bh, bf, bl, bg] f f1) := by
  refine hp_start hl (own := RX4) (by decide) rfl (Nat.le_of_ble_eq_true rfl) ?_
  intro p e s m args below meth c B0 hr hnm hout hw hS ls hl9
  have hx := B0.1
  have hb := B0.2.1
  have hl9 : lv_has ls 4 [(0, .ref xo), (1, .int 1)] := hl9
  obtain ⟨Q0, Q1, hq⟩ := id hC
  have h1 : f xo = some (.inr (4, [.ref ez, .ref eo, .ref bu])) := hq.1
  have h2 : f ez = some (.inr (1, [.ref nw0, .ref na0, .ref nq0, .ref nr0, .int (num S0.2.2.2.2.2.2.1), .int S0.1, .int S0.2.2.2.1, .int S0.2.2.1, .int S0.2.1, .int S0.2.2.2.2.1, .int S0.2.2.2.2.2.1])) := (hq.2.1).1
  have h3 : f eo = some (.inr (1, [.ref nw1, .ref na1, .ref nq1, .ref nr1, .int (num S1.2.2.2.2.2.2.1), .int S1.1, .int S1.2.2.2.1, .int S1.2.2.1, .int S1.2.1, .int S1.2.2.2.2.1, .int S1.2.2.2.2.2.1])) := (hq.2.2.1).1
  refine lv_aload_n hx hb dX4_loop_0 rfl (lv_at hl9 0 rfl) ?_
  refine lv_iload_n hx hb dX4_loop_1 rfl (lv_at hl9 1 rfl) ?_
  refine hp_V (ci := 4) (As := [.int 1]) (rest := []) B0 hw hS (c_X4_endAt hl G f xo ez eo bu h1 1) mV_X4_endAt qM_X4_28 rfl h1 rfl rfl hl9.1 (Nat.le_of_ble_eq_true rfl) ⟨⟨Nat.le_of_ble_eq_true rfl, Nat.le_of_ble_eq_true rfl⟩, Nat.le_of_ble_eq_true rfl, Nat.le_of_ble_eq_true rfl⟩ dX4_loop_2 (fun E ce q9 f4 H locs hPX hw hS hce hcv hcl => ?_) (fun v f4 H locs hP hw hS => ?_)
  · obtain ⟨ef9, eE9, hE9⟩ := hPX
    rw [ef9] at hw
    exact absurd (Or.inr rfl) hE9
  · obtain ⟨ef9, hv9⟩ := hP
    rw [ef9] at hw
    rcases hv9 with ⟨k9, ev9⟩ | ⟨k9, ev9⟩
    exact absurd k9 (by decide)
    subst ev9
    refine W.eq (g2 := F0 m 5 ls [.ref eo]) rfl ?_
    refine lv_astore_n (lv' := [(2, .ref eo), (0, .ref xo), (1, .int 1)]) hx hb dX4_loop_5 rfl hl9 (by decide) rfl (fun ls hl9 => ?_)
    refine lv_aload_n hx hb dX4_loop_6 rfl (lv_at hl9 0 rfl) ?_
    refine hp_S (As := [.ref eo]) (rest := []) B0 hw hS (c_X4_takeFrameX hl G f eo nw1 na1 nq1 nr1 S1.1 S1.2.1 S1.2.2.1 S1.2.2.2.1 S1.2.2.2.2.1 S1.2.2.2.2.2.1 S1.2.2.2.2.2.2.1 S1.2.2.2.2.2.2.2.1 S1.2.2.2.2.2.2.2.2 Q1 (hq.2.2.1)) mS_X4_takeFrame qM_X4_73 rfl rfl hl9.1 (Nat.le_of_ble_eq_true rfl) ⟨⟨Nat.le_of_ble_eq_true rfl, Nat.le_of_ble_eq_true rfl⟩, Nat.le_of_ble_eq_true rfl, Nat.le_of_ble_eq_true rfl⟩ dX4_loop_7 (fun E ce q9 f5 H locs hPX hw hS hce hcv hcl => ?_) (fun v f5 H locs hP hw hS => ?_)
    · obtain ⟨eE9, ef9, eL9⟩ := hPX
      rw [ef9] at hw
      subst eE9
      exact hp_out B0 hw hS hout hce hcv hcl ⟨Nat.le_of_ble_eq_true rfl, Nat.le_of_ble_eq_true rfl⟩ (⟨rfl, ⟨_, _, hq⟩, hKn.rf⟩)
    · obtain ⟨⟨w9, u9⟩, Q9, r9, L9, eQ9, eL9, ev9, hE9, ⟨nx9, hf9⟩, hu9, hk9⟩ := hP
      exact absurd (eL9.symm.trans hL) (fun z9 => nomatch z9)

set_option maxHeartbeats 4000000 in
set_option maxRecDepth 100000 in
theorem c_P_deliver_E {l : Launch} (hl : l.stackTraces = false) (G : hG) (f : hM) (xo ez eo bu nw0 na0 nq0 nr0 nw1 na1 nq1 nr1 bs bp bh bf bl bg : Nat) (S0 : ES) (S1 : ES) (gw0 : Nat → Int32) (ga0 : Nat → Int32) (gw1 : Nat → Int32) (ga1 : Nat → Int32) (n : Nat) (a : Nat) (cg : Nat) (x : Nat) (sa : Nat → Nat) (pk : Nat → Nat) (fl : Nat → Nat) (gv : Nat → Nat) (gh : Nat → Int32) (gl : Nat → Int32) (hC : CXW G f xo ez eo bu nw0 na0 nq0 nr0 nw1 na1 nq1 nr1 bs bp bh bf bl bg S0 S1 gw0 ga0 gw1 ga1 n a cg x sa pk fl gv gh gl) (hL0 : S0.2.2.2.2.2.2.2.2.length < 3000) (hL1 : S1.2.2.2.2.2.2.2.2.length < 3000) (i : Int32) (hi : ¬ sE i) : CT l yX4_deliver (.code yX4_deliver cX4_deliver 3 (some .int)) 7 103 1 6 G [.ref xo, .int i] f (fun v f1 => False) (fun E f1 => E = eI ∧ CXW G f1 xo ez eo bu nw0 na0 nq0 nr0 nw1 na1 nq1 nr1 bs bp bh bf bl bg S0 S1 gw0 ga0 gw1 ga1 n a cg x sa pk fl gv gh gl ∧ hKn [xo, ez, eo, bu, nw0, na0, nq0, nr0, nw1, na1, nq1, nr1, bs, bp, bh, bf, bl, bg] f f1) := by
  refine hp_start hl (own := RX4) (by decide) rfl (Nat.le_of_ble_eq_true rfl) ?_
  intro p e s m args below meth c B0 hr hnm hout hw hS ls hl9
  have hx := B0.1
  have hb := B0.2.1
  have hl9 : lv_has ls 3 [(0, .ref xo), (1, .int i)] := hl9
  obtain ⟨Q0, Q1, hq⟩ := id hC
  have h1 : f xo = some (.inr (4, [.ref ez, .ref eo, .ref bu])) := hq.1
  have h2 : f ez = some (.inr (1, [.ref nw0, .ref na0, .ref nq0, .ref nr0, .int (num S0.2.2.2.2.2.2.1), .int S0.1, .int S0.2.2.2.1, .int S0.2.2.1, .int S0.2.1, .int S0.2.2.2.2.1, .int S0.2.2.2.2.2.1])) := (hq.2.1).1
  have h3 : f eo = some (.inr (1, [.ref nw1, .ref na1, .ref nq1, .ref nr1, .int (num S1.2.2.2.2.2.2.1), .int S1.1, .int S1.2.2.2.1, .int S1.2.2.1, .int S1.2.1, .int S1.2.2.2.2.1, .int S1.2.2.2.2.2.1])) := (hq.2.2.1).1
  refine lv_aload_n hx hb dX4_deliver_0 rfl (lv_at hl9 0 rfl) ?_
  refine lv_iload_n hx hb dX4_deliver_1 rfl (lv_at hl9 1 rfl) ?_
  refine hp_V (ci := 4) (As := [.int i]) (rest := []) B0 hw hS (c_X4_endAt hl G f xo ez eo bu h1 i) mV_X4_endAt qM_X4_28 rfl h1 rfl rfl hl9.1 (Nat.le_of_ble_eq_true rfl) ⟨⟨Nat.le_of_ble_eq_true rfl, Nat.le_of_ble_eq_true rfl⟩, Nat.le_of_ble_eq_true rfl, Nat.le_of_ble_eq_true rfl⟩ dX4_deliver_2 (fun E ce q9 f4 H locs hPX hw hS hce hcv hcl => ?_) (fun v f4 H locs hP hw hS => ?_)
  · obtain ⟨ef9, eE9, hE9⟩ := hPX
    rw [ef9] at hw
    subst eE9
    exact hp_out B0 hw hS hout hce hcv hcl ⟨Nat.le_of_ble_eq_true rfl, Nat.le_of_ble_eq_true rfl⟩ (⟨rfl, ⟨_, _, hq⟩, hKn.rf⟩)
  · obtain ⟨ef9, hv9⟩ := hP
    rw [ef9] at hw
    exact absurd (hv9.imp And.left And.left) hi

set_option maxHeartbeats 4000000 in
set_option maxRecDepth 100000 in
theorem c_P_lose_E {l : Launch} (hl : l.stackTraces = false) (G : hG) (f : hM) (xo ez eo bu nw0 na0 nq0 nr0 nw1 na1 nq1 nr1 bs bp bh bf bl bg : Nat) (S0 : ES) (S1 : ES) (gw0 : Nat → Int32) (ga0 : Nat → Int32) (gw1 : Nat → Int32) (ga1 : Nat → Int32) (n : Nat) (a : Nat) (cg : Nat) (x : Nat) (sa : Nat → Nat) (pk : Nat → Nat) (fl : Nat → Nat) (gv : Nat → Nat) (gh : Nat → Int32) (gl : Nat → Int32) (hC : CXW G f xo ez eo bu nw0 na0 nq0 nr0 nw1 na1 nq1 nr1 bs bp bh bf bl bg S0 S1 gw0 ga0 gw1 ga1 n a cg x sa pk fl gv gh gl) (hL0 : S0.2.2.2.2.2.2.2.2.length < 3000) (hL1 : S1.2.2.2.2.2.2.2.2.length < 3000) (i : Int32) (hi : ¬ sE i) : CT l yX4_lose (.code yX4_lose cX4_lose 4 (some .int)) 7 103 1 6 G [.ref xo, .int i] f (fun v f1 => False) (fun E f1 => E = eI ∧ CXW G f1 xo ez eo bu nw0 na0 nq0 nr0 nw1 na1 nq1 nr1 bs bp bh bf bl bg S0 S1 gw0 ga0 gw1 ga1 n a cg x sa pk fl gv gh gl ∧ hKn [xo, ez, eo, bu, nw0, na0, nq0, nr0, nw1, na1, nq1, nr1, bs, bp, bh, bf, bl, bg] f f1) := by
  refine hp_start hl (own := RX4) (by decide) rfl (Nat.le_of_ble_eq_true rfl) ?_
  intro p e s m args below meth c B0 hr hnm hout hw hS ls hl9
  have hx := B0.1
  have hb := B0.2.1
  have hl9 : lv_has ls 4 [(0, .ref xo), (1, .int i)] := hl9
  obtain ⟨Q0, Q1, hq⟩ := id hC
  have h1 : f xo = some (.inr (4, [.ref ez, .ref eo, .ref bu])) := hq.1
  have h2 : f ez = some (.inr (1, [.ref nw0, .ref na0, .ref nq0, .ref nr0, .int (num S0.2.2.2.2.2.2.1), .int S0.1, .int S0.2.2.2.1, .int S0.2.2.1, .int S0.2.1, .int S0.2.2.2.2.1, .int S0.2.2.2.2.2.1])) := (hq.2.1).1
  have h3 : f eo = some (.inr (1, [.ref nw1, .ref na1, .ref nq1, .ref nr1, .int (num S1.2.2.2.2.2.2.1), .int S1.1, .int S1.2.2.2.1, .int S1.2.2.1, .int S1.2.1, .int S1.2.2.2.2.1, .int S1.2.2.2.2.2.1])) := (hq.2.2.1).1
  refine lv_aload_n hx hb dX4_lose_0 rfl (lv_at hl9 0 rfl) ?_
  refine lv_iload_n hx hb dX4_lose_1 rfl (lv_at hl9 1 rfl) ?_
  refine hp_V (ci := 4) (As := [.int i]) (rest := []) B0 hw hS (c_X4_endAt hl G f xo ez eo bu h1 i) mV_X4_endAt qM_X4_28 rfl h1 rfl rfl hl9.1 (Nat.le_of_ble_eq_true rfl) ⟨⟨Nat.le_of_ble_eq_true rfl, Nat.le_of_ble_eq_true rfl⟩, Nat.le_of_ble_eq_true rfl, Nat.le_of_ble_eq_true rfl⟩ dX4_lose_2 (fun E ce q9 f4 H locs hPX hw hS hce hcv hcl => ?_) (fun v f4 H locs hP hw hS => ?_)
  · obtain ⟨ef9, eE9, hE9⟩ := hPX
    rw [ef9] at hw
    subst eE9
    exact hp_out B0 hw hS hout hce hcv hcl ⟨Nat.le_of_ble_eq_true rfl, Nat.le_of_ble_eq_true rfl⟩ (⟨rfl, ⟨_, _, hq⟩, hKn.rf⟩)
  · obtain ⟨ef9, hv9⟩ := hP
    rw [ef9] at hw
    exact absurd (hv9.imp And.left And.left) hi

set_option maxHeartbeats 4000000 in
set_option maxRecDepth 100000 in
theorem c_P_loop_E {l : Launch} (hl : l.stackTraces = false) (G : hG) (f : hM) (xo ez eo bu nw0 na0 nq0 nr0 nw1 na1 nq1 nr1 bs bp bh bf bl bg : Nat) (S0 : ES) (S1 : ES) (gw0 : Nat → Int32) (ga0 : Nat → Int32) (gw1 : Nat → Int32) (ga1 : Nat → Int32) (n : Nat) (a : Nat) (cg : Nat) (x : Nat) (sa : Nat → Nat) (pk : Nat → Nat) (fl : Nat → Nat) (gv : Nat → Nat) (gh : Nat → Int32) (gl : Nat → Int32) (hC : CXW G f xo ez eo bu nw0 na0 nq0 nr0 nw1 na1 nq1 nr1 bs bp bh bf bl bg S0 S1 gw0 ga0 gw1 ga1 n a cg x sa pk fl gv gh gl) (hL0 : S0.2.2.2.2.2.2.2.2.length < 3000) (hL1 : S1.2.2.2.2.2.2.2.2.length < 3000) (i : Int32) (hi : ¬ sE i) : CT l yX4_loop (.code yX4_loop cX4_loop 4 (some .int)) 7 103 1 6 G [.ref xo, .int i] f (fun v f1 => False) (fun E f1 => E = eI ∧ CXW G f1 xo ez eo bu nw0 na0 nq0 nr0 nw1 na1 nq1 nr1 bs bp bh bf bl bg S0 S1 gw0 ga0 gw1 ga1 n a cg x sa pk fl gv gh gl ∧ hKn [xo, ez, eo, bu, nw0, na0, nq0, nr0, nw1, na1, nq1, nr1, bs, bp, bh, bf, bl, bg] f f1) := by
  refine hp_start hl (own := RX4) (by decide) rfl (Nat.le_of_ble_eq_true rfl) ?_
  intro p e s m args below meth c B0 hr hnm hout hw hS ls hl9
  have hx := B0.1
  have hb := B0.2.1
  have hl9 : lv_has ls 4 [(0, .ref xo), (1, .int i)] := hl9
  obtain ⟨Q0, Q1, hq⟩ := id hC
  have h1 : f xo = some (.inr (4, [.ref ez, .ref eo, .ref bu])) := hq.1
  have h2 : f ez = some (.inr (1, [.ref nw0, .ref na0, .ref nq0, .ref nr0, .int (num S0.2.2.2.2.2.2.1), .int S0.1, .int S0.2.2.2.1, .int S0.2.2.1, .int S0.2.1, .int S0.2.2.2.2.1, .int S0.2.2.2.2.2.1])) := (hq.2.1).1
  have h3 : f eo = some (.inr (1, [.ref nw1, .ref na1, .ref nq1, .ref nr1, .int (num S1.2.2.2.2.2.2.1), .int S1.1, .int S1.2.2.2.1, .int S1.2.2.1, .int S1.2.1, .int S1.2.2.2.2.1, .int S1.2.2.2.2.2.1])) := (hq.2.2.1).1
  refine lv_aload_n hx hb dX4_loop_0 rfl (lv_at hl9 0 rfl) ?_
  refine lv_iload_n hx hb dX4_loop_1 rfl (lv_at hl9 1 rfl) ?_
  refine hp_V (ci := 4) (As := [.int i]) (rest := []) B0 hw hS (c_X4_endAt hl G f xo ez eo bu h1 i) mV_X4_endAt qM_X4_28 rfl h1 rfl rfl hl9.1 (Nat.le_of_ble_eq_true rfl) ⟨⟨Nat.le_of_ble_eq_true rfl, Nat.le_of_ble_eq_true rfl⟩, Nat.le_of_ble_eq_true rfl, Nat.le_of_ble_eq_true rfl⟩ dX4_loop_2 (fun E ce q9 f4 H locs hPX hw hS hce hcv hcl => ?_) (fun v f4 H locs hP hw hS => ?_)
  · obtain ⟨ef9, eE9, hE9⟩ := hPX
    rw [ef9] at hw
    subst eE9
    exact hp_out B0 hw hS hout hce hcv hcl ⟨Nat.le_of_ble_eq_true rfl, Nat.le_of_ble_eq_true rfl⟩ (⟨rfl, ⟨_, _, hq⟩, hKn.rf⟩)
  · obtain ⟨ef9, hv9⟩ := hP
    rw [ef9] at hw
    exact absurd (hv9.imp And.left And.left) hi

set_option maxHeartbeats 4000000 in
set_option maxRecDepth 100000 in
theorem c_P_stateOf_0 {l : Launch} (hl : l.stackTraces = false) (G : hG) (f : hM) (xo ez eo bu nw0 na0 nq0 nr0 nw1 na1 nq1 nr1 bs bp bh bf bl bg : Nat) (S0 : ES) (S1 : ES) (gw0 : Nat → Int32) (ga0 : Nat → Int32) (gw1 : Nat → Int32) (ga1 : Nat → Int32) (n : Nat) (a : Nat) (cg : Nat) (x : Nat) (sa : Nat → Nat) (pk : Nat → Nat) (fl : Nat → Nat) (gv : Nat → Nat) (gh : Nat → Int32) (gl : Nat → Int32) (hC : CXW G f xo ez eo bu nw0 na0 nq0 nr0 nw1 na1 nq1 nr1 bs bp bh bf bl bg S0 S1 gw0 ga0 gw1 ga1 n a cg x sa pk fl gv gh gl) (hL0 : S0.2.2.2.2.2.2.2.2.length < 3000) (hL1 : S1.2.2.2.2.2.2.2.2.length < 3000)  : CT l yX4_stateOf (.code yX4_stateOf cX4_stateOf 2 (some .int)) 7 103 1 6 G [.ref xo, .int 0] f (fun v f1 => v = some (.int S0.1) ∧ CXW G f1 xo ez eo bu nw0 na0 nq0 nr0 nw1 na1 nq1 nr1 bs bp bh bf bl bg S0 S1 gw0 ga0 gw1 ga1 n a cg x sa pk fl gv gh gl ∧ hKn [xo, ez, eo, bu, nw0, na0, nq0, nr0, nw1, na1, nq1, nr1, bs, bp, bh, bf, bl, bg] f f1) (fun E f1 => False) := by
  refine hp_start hl (own := RX4) (by decide) rfl (Nat.le_of_ble_eq_true rfl) ?_
  intro p e s m args below meth c B0 hr hnm hout hw hS ls hl9
  have hx := B0.1
  have hb := B0.2.1
  have hl9 : lv_has ls 2 [(0, .ref xo), (1, .int 0)] := hl9
  obtain ⟨Q0, Q1, hq⟩ := id hC
  have h1 : f xo = some (.inr (4, [.ref ez, .ref eo, .ref bu])) := hq.1
  have h2 : f ez = some (.inr (1, [.ref nw0, .ref na0, .ref nq0, .ref nr0, .int (num S0.2.2.2.2.2.2.1), .int S0.1, .int S0.2.2.2.1, .int S0.2.2.1, .int S0.2.1, .int S0.2.2.2.2.1, .int S0.2.2.2.2.2.1])) := (hq.2.1).1
  have h3 : f eo = some (.inr (1, [.ref nw1, .ref na1, .ref nq1, .ref nr1, .int (num S1.2.2.2.2.2.2.1), .int S1.1, .int S1.2.2.2.1, .int S1.2.2.1, .int S1.2.1, .int S1.2.2.2.2.1, .int S1.2.2.2.2.2.1])) := (hq.2.2.1).1
  refine lv_aload_n hx hb dX4_stateOf_0 rfl (lv_at hl9 0 rfl) ?_
  refine lv_iload_n hx hb dX4_stateOf_1 rfl (lv_at hl9 1 rfl) ?_
  refine hp_V (ci := 4) (As := [.int 0]) (rest := []) B0 hw hS (c_X4_endAt hl G f xo ez eo bu h1 0) mV_X4_endAt qM_X4_28 rfl h1 rfl rfl hl9.1 (Nat.le_of_ble_eq_true rfl) ⟨⟨Nat.le_of_ble_eq_true rfl, Nat.le_of_ble_eq_true rfl⟩, Nat.le_of_ble_eq_true rfl, Nat.le_of_ble_eq_true rfl⟩ dX4_stateOf_2 (fun E ce q9 f4 H locs hPX hw hS hce hcv hcl => ?_) (fun v f4 H locs hP hw hS => ?_)
  · obtain ⟨ef9, eE9, hE9⟩ := hPX
    rw [ef9] at hw
    exact absurd (Or.inl rfl) hE9
  · obtain ⟨ef9, hv9⟩ := hP
    rw [ef9] at hw
    rcases hv9 with ⟨k9, ev9⟩ | ⟨k9, ev9⟩
    rotate_left
    exact absurd k9 (by decide)
    subst ev9
    refine W.eq (g2 := F0 m 5 ls [.ref ez]) rfl ?_
    refine hp_getN B0 hw 1 rfl in_X1 h2 5 (by decide) oF_X4_55 rfl dX4_stateOf_5 ?_
    exact hp_iret (v := S0.1) B0 hw hS hr ⟨Nat.le_of_ble_eq_true rfl, Nat.le_of_ble_eq_true rfl⟩ dX4_stateOf_8 (⟨rfl, ⟨_, _, hq⟩, hKn.rf⟩)

set_option maxHeartbeats 4000000 in
set_option maxRecDepth 100000 in
theorem c_P_requests_0 {l : Launch} (hl : l.stackTraces = false) (G : hG) (f : hM) (xo ez eo bu nw0 na0 nq0 nr0 nw1 na1 nq1 nr1 bs bp bh bf bl bg : Nat) (S0 : ES) (S1 : ES) (gw0 : Nat → Int32) (ga0 : Nat → Int32) (gw1 : Nat → Int32) (ga1 : Nat → Int32) (n : Nat) (a : Nat) (cg : Nat) (x : Nat) (sa : Nat → Nat) (pk : Nat → Nat) (fl : Nat → Nat) (gv : Nat → Nat) (gh : Nat → Int32) (gl : Nat → Int32) (hC : CXW G f xo ez eo bu nw0 na0 nq0 nr0 nw1 na1 nq1 nr1 bs bp bh bf bl bg S0 S1 gw0 ga0 gw1 ga1 n a cg x sa pk fl gv gh gl) (hL0 : S0.2.2.2.2.2.2.2.2.length < 3000) (hL1 : S1.2.2.2.2.2.2.2.2.length < 3000)  : CT l yX4_requests (.code yX4_requests cX4_requests 2 (some .int)) 7 103 1 6 G [.ref xo, .int 0] f (fun v f1 => v = some (.int S0.2.2.1) ∧ CXW G f1 xo ez eo bu nw0 na0 nq0 nr0 nw1 na1 nq1 nr1 bs bp bh bf bl bg S0 S1 gw0 ga0 gw1 ga1 n a cg x sa pk fl gv gh gl ∧ hKn [xo, ez, eo, bu, nw0, na0, nq0, nr0, nw1, na1, nq1, nr1, bs, bp, bh, bf, bl, bg] f f1) (fun E f1 => False) := by
  refine hp_start hl (own := RX4) (by decide) rfl (Nat.le_of_ble_eq_true rfl) ?_
  intro p e s m args below meth c B0 hr hnm hout hw hS ls hl9
  have hx := B0.1
  have hb := B0.2.1
  have hl9 : lv_has ls 2 [(0, .ref xo), (1, .int 0)] := hl9
  obtain ⟨Q0, Q1, hq⟩ := id hC
  have h1 : f xo = some (.inr (4, [.ref ez, .ref eo, .ref bu])) := hq.1
  have h2 : f ez = some (.inr (1, [.ref nw0, .ref na0, .ref nq0, .ref nr0, .int (num S0.2.2.2.2.2.2.1), .int S0.1, .int S0.2.2.2.1, .int S0.2.2.1, .int S0.2.1, .int S0.2.2.2.2.1, .int S0.2.2.2.2.2.1])) := (hq.2.1).1
  have h3 : f eo = some (.inr (1, [.ref nw1, .ref na1, .ref nq1, .ref nr1, .int (num S1.2.2.2.2.2.2.1), .int S1.1, .int S1.2.2.2.1, .int S1.2.2.1, .int S1.2.1, .int S1.2.2.2.2.1, .int S1.2.2.2.2.2.1])) := (hq.2.2.1).1
  refine lv_aload_n hx hb dX4_requests_0 rfl (lv_at hl9 0 rfl) ?_
  refine lv_iload_n hx hb dX4_requests_1 rfl (lv_at hl9 1 rfl) ?_
  refine hp_V (ci := 4) (As := [.int 0]) (rest := []) B0 hw hS (c_X4_endAt hl G f xo ez eo bu h1 0) mV_X4_endAt qM_X4_28 rfl h1 rfl rfl hl9.1 (Nat.le_of_ble_eq_true rfl) ⟨⟨Nat.le_of_ble_eq_true rfl, Nat.le_of_ble_eq_true rfl⟩, Nat.le_of_ble_eq_true rfl, Nat.le_of_ble_eq_true rfl⟩ dX4_requests_2 (fun E ce q9 f4 H locs hPX hw hS hce hcv hcl => ?_) (fun v f4 H locs hP hw hS => ?_)
  · obtain ⟨ef9, eE9, hE9⟩ := hPX
    rw [ef9] at hw
    exact absurd (Or.inl rfl) hE9
  · obtain ⟨ef9, hv9⟩ := hP
    rw [ef9] at hw
    rcases hv9 with ⟨k9, ev9⟩ | ⟨k9, ev9⟩
    rotate_left
    exact absurd k9 (by decide)
    subst ev9
    refine W.eq (g2 := F0 m 5 ls [.ref ez]) rfl ?_
    refine hp_getN B0 hw 1 rfl in_X1 h2 7 (by decide) oF_X4_99 rfl dX4_requests_5 ?_
    exact hp_iret (v := S0.2.2.1) B0 hw hS hr ⟨Nat.le_of_ble_eq_true rfl, Nat.le_of_ble_eq_true rfl⟩ dX4_requests_8 (⟨rfl, ⟨_, _, hq⟩, hKn.rf⟩)

set_option maxHeartbeats 4000000 in
set_option maxRecDepth 100000 in
theorem c_P_missed_0 {l : Launch} (hl : l.stackTraces = false) (G : hG) (f : hM) (xo ez eo bu nw0 na0 nq0 nr0 nw1 na1 nq1 nr1 bs bp bh bf bl bg : Nat) (S0 : ES) (S1 : ES) (gw0 : Nat → Int32) (ga0 : Nat → Int32) (gw1 : Nat → Int32) (ga1 : Nat → Int32) (n : Nat) (a : Nat) (cg : Nat) (x : Nat) (sa : Nat → Nat) (pk : Nat → Nat) (fl : Nat → Nat) (gv : Nat → Nat) (gh : Nat → Int32) (gl : Nat → Int32) (hC : CXW G f xo ez eo bu nw0 na0 nq0 nr0 nw1 na1 nq1 nr1 bs bp bh bf bl bg S0 S1 gw0 ga0 gw1 ga1 n a cg x sa pk fl gv gh gl) (hL0 : S0.2.2.2.2.2.2.2.2.length < 3000) (hL1 : S1.2.2.2.2.2.2.2.2.length < 3000)  : CT l yX4_missed (.code yX4_missed cX4_missed 2 (some .int)) 7 103 1 6 G [.ref xo, .int 0] f (fun v f1 => v = some (.int S0.2.2.2.2.2.1) ∧ CXW G f1 xo ez eo bu nw0 na0 nq0 nr0 nw1 na1 nq1 nr1 bs bp bh bf bl bg S0 S1 gw0 ga0 gw1 ga1 n a cg x sa pk fl gv gh gl ∧ hKn [xo, ez, eo, bu, nw0, na0, nq0, nr0, nw1, na1, nq1, nr1, bs, bp, bh, bf, bl, bg] f f1) (fun E f1 => False) := by
  refine hp_start hl (own := RX4) (by decide) rfl (Nat.le_of_ble_eq_true rfl) ?_
  intro p e s m args below meth c B0 hr hnm hout hw hS ls hl9
  have hx := B0.1
  have hb := B0.2.1
  have hl9 : lv_has ls 2 [(0, .ref xo), (1, .int 0)] := hl9
  obtain ⟨Q0, Q1, hq⟩ := id hC
  have h1 : f xo = some (.inr (4, [.ref ez, .ref eo, .ref bu])) := hq.1
  have h2 : f ez = some (.inr (1, [.ref nw0, .ref na0, .ref nq0, .ref nr0, .int (num S0.2.2.2.2.2.2.1), .int S0.1, .int S0.2.2.2.1, .int S0.2.2.1, .int S0.2.1, .int S0.2.2.2.2.1, .int S0.2.2.2.2.2.1])) := (hq.2.1).1
  have h3 : f eo = some (.inr (1, [.ref nw1, .ref na1, .ref nq1, .ref nr1, .int (num S1.2.2.2.2.2.2.1), .int S1.1, .int S1.2.2.2.1, .int S1.2.2.1, .int S1.2.1, .int S1.2.2.2.2.1, .int S1.2.2.2.2.2.1])) := (hq.2.2.1).1
  refine lv_aload_n hx hb dX4_missed_0 rfl (lv_at hl9 0 rfl) ?_
  refine lv_iload_n hx hb dX4_missed_1 rfl (lv_at hl9 1 rfl) ?_
  refine hp_V (ci := 4) (As := [.int 0]) (rest := []) B0 hw hS (c_X4_endAt hl G f xo ez eo bu h1 0) mV_X4_endAt qM_X4_28 rfl h1 rfl rfl hl9.1 (Nat.le_of_ble_eq_true rfl) ⟨⟨Nat.le_of_ble_eq_true rfl, Nat.le_of_ble_eq_true rfl⟩, Nat.le_of_ble_eq_true rfl, Nat.le_of_ble_eq_true rfl⟩ dX4_missed_2 (fun E ce q9 f4 H locs hPX hw hS hce hcv hcl => ?_) (fun v f4 H locs hP hw hS => ?_)
  · obtain ⟨ef9, eE9, hE9⟩ := hPX
    rw [ef9] at hw
    exact absurd (Or.inl rfl) hE9
  · obtain ⟨ef9, hv9⟩ := hP
    rw [ef9] at hw
    rcases hv9 with ⟨k9, ev9⟩ | ⟨k9, ev9⟩
    rotate_left
    exact absurd k9 (by decide)
    subst ev9
    refine W.eq (g2 := F0 m 5 ls [.ref ez]) rfl ?_
    refine hp_getN B0 hw 1 rfl in_X1 h2 10 (by decide) oF_X4_86 rfl dX4_missed_5 ?_
    exact hp_iret (v := S0.2.2.2.2.2.1) B0 hw hS hr ⟨Nat.le_of_ble_eq_true rfl, Nat.le_of_ble_eq_true rfl⟩ dX4_missed_8 (⟨rfl, ⟨_, _, hq⟩, hKn.rf⟩)

set_option maxHeartbeats 4000000 in
set_option maxRecDepth 100000 in
theorem c_P_isLooped_0 {l : Launch} (hl : l.stackTraces = false) (G : hG) (f : hM) (xo ez eo bu nw0 na0 nq0 nr0 nw1 na1 nq1 nr1 bs bp bh bf bl bg : Nat) (S0 : ES) (S1 : ES) (gw0 : Nat → Int32) (ga0 : Nat → Int32) (gw1 : Nat → Int32) (ga1 : Nat → Int32) (n : Nat) (a : Nat) (cg : Nat) (x : Nat) (sa : Nat → Nat) (pk : Nat → Nat) (fl : Nat → Nat) (gv : Nat → Nat) (gh : Nat → Int32) (gl : Nat → Int32) (hC : CXW G f xo ez eo bu nw0 na0 nq0 nr0 nw1 na1 nq1 nr1 bs bp bh bf bl bg S0 S1 gw0 ga0 gw1 ga1 n a cg x sa pk fl gv gh gl) (hL0 : S0.2.2.2.2.2.2.2.2.length < 3000) (hL1 : S1.2.2.2.2.2.2.2.2.length < 3000)  : CT l yX4_isLooped (.code yX4_isLooped cX4_isLooped 2 (some .boolean)) 7 103 1 6 G [.ref xo, .int 0] f (fun v f1 => v = some (.int S0.2.2.2.2.1) ∧ CXW G f1 xo ez eo bu nw0 na0 nq0 nr0 nw1 na1 nq1 nr1 bs bp bh bf bl bg S0 S1 gw0 ga0 gw1 ga1 n a cg x sa pk fl gv gh gl ∧ hKn [xo, ez, eo, bu, nw0, na0, nq0, nr0, nw1, na1, nq1, nr1, bs, bp, bh, bf, bl, bg] f f1) (fun E f1 => False) := by
  refine hp_start hl (own := RX4) (by decide) rfl (Nat.le_of_ble_eq_true rfl) ?_
  intro p e s m args below meth c B0 hr hnm hout hw hS ls hl9
  have hx := B0.1
  have hb := B0.2.1
  have hl9 : lv_has ls 2 [(0, .ref xo), (1, .int 0)] := hl9
  obtain ⟨Q0, Q1, hq⟩ := id hC
  have h1 : f xo = some (.inr (4, [.ref ez, .ref eo, .ref bu])) := hq.1
  have h2 : f ez = some (.inr (1, [.ref nw0, .ref na0, .ref nq0, .ref nr0, .int (num S0.2.2.2.2.2.2.1), .int S0.1, .int S0.2.2.2.1, .int S0.2.2.1, .int S0.2.1, .int S0.2.2.2.2.1, .int S0.2.2.2.2.2.1])) := (hq.2.1).1
  have h3 : f eo = some (.inr (1, [.ref nw1, .ref na1, .ref nq1, .ref nr1, .int (num S1.2.2.2.2.2.2.1), .int S1.1, .int S1.2.2.2.1, .int S1.2.2.1, .int S1.2.1, .int S1.2.2.2.2.1, .int S1.2.2.2.2.2.1])) := (hq.2.2.1).1
  refine lv_aload_n hx hb dX4_isLooped_0 rfl (lv_at hl9 0 rfl) ?_
  refine lv_iload_n hx hb dX4_isLooped_1 rfl (lv_at hl9 1 rfl) ?_
  refine hp_V (ci := 4) (As := [.int 0]) (rest := []) B0 hw hS (c_X4_endAt hl G f xo ez eo bu h1 0) mV_X4_endAt qM_X4_28 rfl h1 rfl rfl hl9.1 (Nat.le_of_ble_eq_true rfl) ⟨⟨Nat.le_of_ble_eq_true rfl, Nat.le_of_ble_eq_true rfl⟩, Nat.le_of_ble_eq_true rfl, Nat.le_of_ble_eq_true rfl⟩ dX4_isLooped_2 (fun E ce q9 f4 H locs hPX hw hS hce hcv hcl => ?_) (fun v f4 H locs hP hw hS => ?_)
  · obtain ⟨ef9, eE9, hE9⟩ := hPX
    rw [ef9] at hw
    exact absurd (Or.inl rfl) hE9
  · obtain ⟨ef9, hv9⟩ := hP
    rw [ef9] at hw
    rcases hv9 with ⟨k9, ev9⟩ | ⟨k9, ev9⟩
    rotate_left
    exact absurd k9 (by decide)
    subst ev9
    refine W.eq (g2 := F0 m 5 ls [.ref ez]) rfl ?_
    refine hp_getN B0 hw 1 rfl in_X1 h2 9 (by decide) oF_X4_102 rfl dX4_isLooped_5 ?_
    exact hp_zret (v := S0.2.2.2.2.1) B0 hw hS hr ⟨Nat.le_of_ble_eq_true rfl, Nat.le_of_ble_eq_true rfl⟩ ((hq.2.1).2.2.2.2.2) dX4_isLooped_8 (⟨rfl, ⟨_, _, hq⟩, hKn.rf⟩)

set_option maxHeartbeats 4000000 in
set_option maxRecDepth 100000 in
theorem c_P_underWay_0 {l : Launch} (hl : l.stackTraces = false) (G : hG) (f : hM) (xo ez eo bu nw0 na0 nq0 nr0 nw1 na1 nq1 nr1 bs bp bh bf bl bg : Nat) (S0 : ES) (S1 : ES) (gw0 : Nat → Int32) (ga0 : Nat → Int32) (gw1 : Nat → Int32) (ga1 : Nat → Int32) (n : Nat) (a : Nat) (cg : Nat) (x : Nat) (sa : Nat → Nat) (pk : Nat → Nat) (fl : Nat → Nat) (gv : Nat → Nat) (gh : Nat → Int32) (gl : Nat → Int32) (hC : CXW G f xo ez eo bu nw0 na0 nq0 nr0 nw1 na1 nq1 nr1 bs bp bh bf bl bg S0 S1 gw0 ga0 gw1 ga1 n a cg x sa pk fl gv gh gl) (hL0 : S0.2.2.2.2.2.2.2.2.length < 3000) (hL1 : S1.2.2.2.2.2.2.2.2.length < 3000)  : CT l yX4_underWay (.code yX4_underWay cX4_underWay 2 (some .int)) 7 103 1 6 G [.ref xo, .int 0] f (fun v f1 => v = some (.int (nI S0.2.2.2.2.2.2.2.2.length)) ∧ CXW G f1 xo ez eo bu nw0 na0 nq0 nr0 nw1 na1 nq1 nr1 bs bp bh bf bl bg S0 S1 gw0 ga0 gw1 ga1 n a cg x sa pk fl gv gh gl ∧ hKn [xo, ez, eo, bu, nw0, na0, nq0, nr0, nw1, na1, nq1, nr1, bs, bp, bh, bf, bl, bg] f f1) (fun E f1 => False) := by
  refine hp_start hl (own := RX4) (by decide) rfl (Nat.le_of_ble_eq_true rfl) ?_
  intro p e s m args below meth c B0 hr hnm hout hw hS ls hl9
  have hx := B0.1
  have hb := B0.2.1
  have hl9 : lv_has ls 2 [(0, .ref xo), (1, .int 0)] := hl9
  obtain ⟨Q0, Q1, hq⟩ := id hC
  have h1 : f xo = some (.inr (4, [.ref ez, .ref eo, .ref bu])) := hq.1
  have h2 : f ez = some (.inr (1, [.ref nw0, .ref na0, .ref nq0, .ref nr0, .int (num S0.2.2.2.2.2.2.1), .int S0.1, .int S0.2.2.2.1, .int S0.2.2.1, .int S0.2.1, .int S0.2.2.2.2.1, .int S0.2.2.2.2.2.1])) := (hq.2.1).1
  have h3 : f eo = some (.inr (1, [.ref nw1, .ref na1, .ref nq1, .ref nr1, .int (num S1.2.2.2.2.2.2.1), .int S1.1, .int S1.2.2.2.1, .int S1.2.2.1, .int S1.2.1, .int S1.2.2.2.2.1, .int S1.2.2.2.2.2.1])) := (hq.2.2.1).1
  obtain ⟨y4, y5, h6⟩ := EX.cn (hq.2.1)
  refine lv_aload_n hx hb dX4_underWay_0 rfl (lv_at hl9 0 rfl) ?_
  refine lv_iload_n hx hb dX4_underWay_1 rfl (lv_at hl9 1 rfl) ?_
  refine hp_V (ci := 4) (As := [.int 0]) (rest := []) B0 hw hS (c_X4_endAt hl G f xo ez eo bu h1 0) mV_X4_endAt qM_X4_28 rfl h1 rfl rfl hl9.1 (Nat.le_of_ble_eq_true rfl) ⟨⟨Nat.le_of_ble_eq_true rfl, Nat.le_of_ble_eq_true rfl⟩, Nat.le_of_ble_eq_true rfl, Nat.le_of_ble_eq_true rfl⟩ dX4_underWay_2 (fun E ce q9 f7 H locs hPX hw hS hce hcv hcl => ?_) (fun v f7 H locs hP hw hS => ?_)
  · obtain ⟨ef9, eE9, hE9⟩ := hPX
    rw [ef9] at hw
    exact absurd (Or.inl rfl) hE9
  · obtain ⟨ef9, hv9⟩ := hP
    rw [ef9] at hw
    rcases hv9 with ⟨k9, ev9⟩ | ⟨k9, ev9⟩
    rotate_left
    exact absurd k9 (by decide)
    subst ev9
    refine W.eq (g2 := F0 m 5 ls [.ref ez]) rfl ?_
    refine hp_getN B0 hw 1 rfl in_X1 h2 3 (by decide) oF_X4_106 rfl dX4_underWay_5 ?_
    refine hp_getN B0 hw 3 rfl in_X3 h6 2 (by decide) oF_X4_110 rfl dX4_underWay_8 ?_
    exact hp_iret (v := (nI S0.2.2.2.2.2.2.2.2.length)) B0 hw hS hr ⟨Nat.le_of_ble_eq_true rfl, Nat.le_of_ble_eq_true rfl⟩ dX4_underWay_11 (⟨rfl, ⟨_, _, hq⟩, hKn.rf⟩)

set_option maxHeartbeats 4000000 in
set_option maxRecDepth 100000 in
theorem c_P_asked_0 {l : Launch} (hl : l.stackTraces = false) (G : hG) (f : hM) (xo ez eo bu nw0 na0 nq0 nr0 nw1 na1 nq1 nr1 bs bp bh bf bl bg : Nat) (S0 : ES) (S1 : ES) (gw0 : Nat → Int32) (ga0 : Nat → Int32) (gw1 : Nat → Int32) (ga1 : Nat → Int32) (n : Nat) (a : Nat) (cg : Nat) (x : Nat) (sa : Nat → Nat) (pk : Nat → Nat) (fl : Nat → Nat) (gv : Nat → Nat) (gh : Nat → Int32) (gl : Nat → Int32) (hC : CXW G f xo ez eo bu nw0 na0 nq0 nr0 nw1 na1 nq1 nr1 bs bp bh bf bl bg S0 S1 gw0 ga0 gw1 ga1 n a cg x sa pk fl gv gh gl) (hL0 : S0.2.2.2.2.2.2.2.2.length < 3000) (hL1 : S1.2.2.2.2.2.2.2.2.length < 3000) (j : Nat) (hj : j < 6) : CT l yX4_asked (.code yX4_asked cX4_asked 4 (some .int)) 7 103 2 12 G [.ref xo, .int 0, .int (nI j)] f (fun v f1 => v = some (.int (S0.2.2.2.2.2.2.2.1 j)) ∧ CXW G f1 xo ez eo bu nw0 na0 nq0 nr0 nw1 na1 nq1 nr1 bs bp bh bf bl bg S0 S1 gw0 ga0 gw1 ga1 n a cg x sa pk fl gv gh gl ∧ hKn [xo, ez, eo, bu, nw0, na0, nq0, nr0, nw1, na1, nq1, nr1, bs, bp, bh, bf, bl, bg] f f1) (fun E f1 => False) := by
  refine hp_start hl (own := RX4) (by decide) rfl (Nat.le_of_ble_eq_true rfl) ?_
  intro p e s m args below meth c B0 hr hnm hout hw hS ls hl9
  have hx := B0.1
  have hb := B0.2.1
  have hl9 : lv_has ls 4 [(0, .ref xo), (1, .int 0), (2, .int (nI j))] := hl9
  obtain ⟨Q0, Q1, hq⟩ := id hC
  have h1 : f xo = some (.inr (4, [.ref ez, .ref eo, .ref bu])) := hq.1
  have h2 : f ez = some (.inr (1, [.ref nw0, .ref na0, .ref nq0, .ref nr0, .int (num S0.2.2.2.2.2.2.1), .int S0.1, .int S0.2.2.2.1, .int S0.2.2.1, .int S0.2.1, .int S0.2.2.2.2.1, .int S0.2.2.2.2.2.1])) := (hq.2.1).1
  have h3 : f eo = some (.inr (1, [.ref nw1, .ref na1, .ref nq1, .ref nr1, .int (num S1.2.2.2.2.2.2.1), .int S1.1, .int S1.2.2.2.1, .int S1.2.2.1, .int S1.2.1, .int S1.2.2.2.2.1, .int S1.2.2.2.2.2.1])) := (hq.2.2.1).1
  have h4 : f nq0 = some (.inl (cI G, 6, .inl S0.2.2.2.2.2.2.2.1)) := (hq.2.1).2.1
  have ho := (show sO (nI j) from ⟨by rw [nI_toInt (by omega)]; omega, by rw [nI_toInt (by omega)]; omega⟩)
  refine lv_aload_n hx hb dX4_asked_0 rfl (lv_at hl9 0 rfl) ?_
  refine lv_iload_n hx hb dX4_asked_1 rfl (lv_at hl9 1 rfl) ?_
  refine hp_V (ci := 4) (As := [.int 0]) (rest := []) B0 hw hS (c_X4_endAt hl G f xo ez eo bu h1 0) mV_X4_endAt qM_X4_28 rfl h1 rfl rfl hl9.1 (Nat.le_of_ble_eq_true rfl) ⟨⟨Nat.le_of_ble_eq_true rfl, Nat.le_of_ble_eq_true rfl⟩, Nat.le_of_ble_eq_true rfl, Nat.le_of_ble_eq_true rfl⟩ dX4_asked_2 (fun E ce q9 f5 H locs hPX hw hS hce hcv hcl => ?_) (fun v f5 H locs hP hw hS => ?_)
  · obtain ⟨ef9, eE9, hE9⟩ := hPX
    rw [ef9] at hw
    exact absurd (Or.inl rfl) hE9
  · obtain ⟨ef9, hv9⟩ := hP
    rw [ef9] at hw
    rcases hv9 with ⟨k9, ev9⟩ | ⟨k9, ev9⟩
    rotate_left
    exact absurd k9 (by decide)
    subst ev9
    refine W.eq (g2 := F0 m 5 ls [.ref ez]) rfl ?_
    refine lv_astore_n (lv' := [(3, .ref ez), (0, .ref xo), (1, .int 0), (2, .int (nI j))]) hx hb dX4_asked_5 rfl hl9 (by decide) rfl (fun ls hl9 => ?_)
    refine lv_iload_n hx hb dX4_asked_6 rfl (lv_at hl9 3 rfl) ?_
    refine hp_S (As := [.int (nI j)]) (rest := []) B0 hw hS (c_X4_refuseNoOption hl G f (nI j)) mS_X4_refuseNoOption qM_X4_32 rfl rfl hl9.1 (Nat.le_of_ble_eq_true rfl) ⟨⟨Nat.le_of_ble_eq_true rfl, Nat.le_of_ble_eq_true rfl⟩, Nat.le_of_ble_eq_true rfl, Nat.le_of_ble_eq_true rfl⟩ dX4_asked_7 (fun E ce q9 f6 H locs hPX hw hS hce hcv hcl => ?_) (fun v f6 H locs hP hw hS => ?_)
    · obtain ⟨ef9, eE9, hE9⟩ := hPX
      rw [ef9] at hw
      exact absurd ho hE9
    · obtain ⟨ef9, ev9, ho9⟩ := hP
      rw [ef9] at hw
      subst ev9
      refine W.eq (g2 := F0 m 10 ls []) rfl ?_
      refine lv_aload_n hx hb dX4_asked_10 rfl (lv_at hl9 0 rfl) ?_
      refine hp_getN B0 hw 1 rfl in_X1 h2 2 (by decide) oF_X4_95 rfl dX4_asked_11 ?_
      refine lv_iload_n hx hb dX4_asked_14 rfl (lv_at hl9 3 rfl) ?_
      refine hp_iald B0 hw h4 (vp_in_nI hj (by omega)) dX4_asked_15 ?_
      refine hp_c (v := (S0.2.2.2.2.2.2.2.1 j)) (congrArg _ (nI_clamp (by omega))) ?_
      exact hp_iret (v := (S0.2.2.2.2.2.2.2.1 j)) B0 hw hS hr ⟨Nat.le_of_ble_eq_true rfl, Nat.le_of_ble_eq_true rfl⟩ dX4_asked_16 (⟨rfl, ⟨_, _, hq⟩, hKn.rf⟩)

set_option maxHeartbeats 4000000 in
set_option maxRecDepth 100000 in
theorem c_P_asked_O0 {l : Launch} (hl : l.stackTraces = false) (G : hG) (f : hM) (xo ez eo bu nw0 na0 nq0 nr0 nw1 na1 nq1 nr1 bs bp bh bf bl bg : Nat) (S0 : ES) (S1 : ES) (gw0 : Nat → Int32) (ga0 : Nat → Int32) (gw1 : Nat → Int32) (ga1 : Nat → Int32) (n : Nat) (a : Nat) (cg : Nat) (x : Nat) (sa : Nat → Nat) (pk : Nat → Nat) (fl : Nat → Nat) (gv : Nat → Nat) (gh : Nat → Int32) (gl : Nat → Int32) (hC : CXW G f xo ez eo bu nw0 na0 nq0 nr0 nw1 na1 nq1 nr1 bs bp bh bf bl bg S0 S1 gw0 ga0 gw1 ga1 n a cg x sa pk fl gv gh gl) (hL0 : S0.2.2.2.2.2.2.2.2.length < 3000) (hL1 : S1.2.2.2.2.2.2.2.2.length < 3000) (o : Int32) (ho : ¬ sO o) : CT l yX4_asked (.code yX4_asked cX4_asked 4 (some .int)) 7 103 2 12 G [.ref xo, .int 0, .int o] f (fun v f1 => False) (fun E f1 => E = eI ∧ CXW G f1 xo ez eo bu nw0 na0 nq0 nr0 nw1 na1 nq1 nr1 bs bp bh bf bl bg S0 S1 gw0 ga0 gw1 ga1 n a cg x sa pk fl gv gh gl ∧ hKn [xo, ez, eo, bu, nw0, na0, nq0, nr0, nw1, na1, nq1, nr1, bs, bp, bh, bf, bl, bg] f f1) := by
  refine hp_start hl (own := RX4) (by decide) rfl (Nat.le_of_ble_eq_true rfl) ?_
  intro p e s m args below meth c B0 hr hnm hout hw hS ls hl9
  have hx := B0.1
  have hb := B0.2.1
  have hl9 : lv_has ls 4 [(0, .ref xo), (1, .int 0), (2, .int o)] := hl9
  obtain ⟨Q0, Q1, hq⟩ := id hC
  have h1 : f xo = some (.inr (4, [.ref ez, .ref eo, .ref bu])) := hq.1
  have h2 : f ez = some (.inr (1, [.ref nw0, .ref na0, .ref nq0, .ref nr0, .int (num S0.2.2.2.2.2.2.1), .int S0.1, .int S0.2.2.2.1, .int S0.2.2.1, .int S0.2.1, .int S0.2.2.2.2.1, .int S0.2.2.2.2.2.1])) := (hq.2.1).1
  have h3 : f eo = some (.inr (1, [.ref nw1, .ref na1, .ref nq1, .ref nr1, .int (num S1.2.2.2.2.2.2.1), .int S1.1, .int S1.2.2.2.1, .int S1.2.2.1, .int S1.2.1, .int S1.2.2.2.2.1, .int S1.2.2.2.2.2.1])) := (hq.2.2.1).1
  refine lv_aload_n hx hb dX4_asked_0 rfl (lv_at hl9 0 rfl) ?_
  refine lv_iload_n hx hb dX4_asked_1 rfl (lv_at hl9 1 rfl) ?_
  refine hp_V (ci := 4) (As := [.int 0]) (rest := []) B0 hw hS (c_X4_endAt hl G f xo ez eo bu h1 0) mV_X4_endAt qM_X4_28 rfl h1 rfl rfl hl9.1 (Nat.le_of_ble_eq_true rfl) ⟨⟨Nat.le_of_ble_eq_true rfl, Nat.le_of_ble_eq_true rfl⟩, Nat.le_of_ble_eq_true rfl, Nat.le_of_ble_eq_true rfl⟩ dX4_asked_2 (fun E ce q9 f4 H locs hPX hw hS hce hcv hcl => ?_) (fun v f4 H locs hP hw hS => ?_)
  · obtain ⟨ef9, eE9, hE9⟩ := hPX
    rw [ef9] at hw
    exact absurd (Or.inl rfl) hE9
  · obtain ⟨ef9, hv9⟩ := hP
    rw [ef9] at hw
    rcases hv9 with ⟨k9, ev9⟩ | ⟨k9, ev9⟩
    rotate_left
    exact absurd k9 (by decide)
    subst ev9
    refine W.eq (g2 := F0 m 5 ls [.ref ez]) rfl ?_
    refine lv_astore_n (lv' := [(3, .ref ez), (0, .ref xo), (1, .int 0), (2, .int o)]) hx hb dX4_asked_5 rfl hl9 (by decide) rfl (fun ls hl9 => ?_)
    refine lv_iload_n hx hb dX4_asked_6 rfl (lv_at hl9 3 rfl) ?_
    refine hp_S (As := [.int o]) (rest := []) B0 hw hS (c_X4_refuseNoOption hl G f o) mS_X4_refuseNoOption qM_X4_32 rfl rfl hl9.1 (Nat.le_of_ble_eq_true rfl) ⟨⟨Nat.le_of_ble_eq_true rfl, Nat.le_of_ble_eq_true rfl⟩, Nat.le_of_ble_eq_true rfl, Nat.le_of_ble_eq_true rfl⟩ dX4_asked_7 (fun E ce q9 f5 H locs hPX hw hS hce hcv hcl => ?_) (fun v f5 H locs hP hw hS => ?_)
    · obtain ⟨ef9, eE9, hE9⟩ := hPX
      rw [ef9] at hw
      subst eE9
      exact hp_out B0 hw hS hout hce hcv hcl ⟨Nat.le_of_ble_eq_true rfl, Nat.le_of_ble_eq_true rfl⟩ (⟨rfl, ⟨_, _, hq⟩, hKn.rf⟩)
    · obtain ⟨ef9, ev9, ho9⟩ := hP
      rw [ef9] at hw
      exact absurd ho9 ho

set_option maxHeartbeats 4000000 in
set_option maxRecDepth 100000 in
theorem c_P_stateOf_1 {l : Launch} (hl : l.stackTraces = false) (G : hG) (f : hM) (xo ez eo bu nw0 na0 nq0 nr0 nw1 na1 nq1 nr1 bs bp bh bf bl bg : Nat) (S0 : ES) (S1 : ES) (gw0 : Nat → Int32) (ga0 : Nat → Int32) (gw1 : Nat → Int32) (ga1 : Nat → Int32) (n : Nat) (a : Nat) (cg : Nat) (x : Nat) (sa : Nat → Nat) (pk : Nat → Nat) (fl : Nat → Nat) (gv : Nat → Nat) (gh : Nat → Int32) (gl : Nat → Int32) (hC : CXW G f xo ez eo bu nw0 na0 nq0 nr0 nw1 na1 nq1 nr1 bs bp bh bf bl bg S0 S1 gw0 ga0 gw1 ga1 n a cg x sa pk fl gv gh gl) (hL0 : S0.2.2.2.2.2.2.2.2.length < 3000) (hL1 : S1.2.2.2.2.2.2.2.2.length < 3000)  : CT l yX4_stateOf (.code yX4_stateOf cX4_stateOf 2 (some .int)) 7 103 1 6 G [.ref xo, .int 1] f (fun v f1 => v = some (.int S1.1) ∧ CXW G f1 xo ez eo bu nw0 na0 nq0 nr0 nw1 na1 nq1 nr1 bs bp bh bf bl bg S0 S1 gw0 ga0 gw1 ga1 n a cg x sa pk fl gv gh gl ∧ hKn [xo, ez, eo, bu, nw0, na0, nq0, nr0, nw1, na1, nq1, nr1, bs, bp, bh, bf, bl, bg] f f1) (fun E f1 => False) := by
  refine hp_start hl (own := RX4) (by decide) rfl (Nat.le_of_ble_eq_true rfl) ?_
  intro p e s m args below meth c B0 hr hnm hout hw hS ls hl9
  have hx := B0.1
  have hb := B0.2.1
  have hl9 : lv_has ls 2 [(0, .ref xo), (1, .int 1)] := hl9
  obtain ⟨Q0, Q1, hq⟩ := id hC
  have h1 : f xo = some (.inr (4, [.ref ez, .ref eo, .ref bu])) := hq.1
  have h2 : f ez = some (.inr (1, [.ref nw0, .ref na0, .ref nq0, .ref nr0, .int (num S0.2.2.2.2.2.2.1), .int S0.1, .int S0.2.2.2.1, .int S0.2.2.1, .int S0.2.1, .int S0.2.2.2.2.1, .int S0.2.2.2.2.2.1])) := (hq.2.1).1
  have h3 : f eo = some (.inr (1, [.ref nw1, .ref na1, .ref nq1, .ref nr1, .int (num S1.2.2.2.2.2.2.1), .int S1.1, .int S1.2.2.2.1, .int S1.2.2.1, .int S1.2.1, .int S1.2.2.2.2.1, .int S1.2.2.2.2.2.1])) := (hq.2.2.1).1
  refine lv_aload_n hx hb dX4_stateOf_0 rfl (lv_at hl9 0 rfl) ?_
  refine lv_iload_n hx hb dX4_stateOf_1 rfl (lv_at hl9 1 rfl) ?_
  refine hp_V (ci := 4) (As := [.int 1]) (rest := []) B0 hw hS (c_X4_endAt hl G f xo ez eo bu h1 1) mV_X4_endAt qM_X4_28 rfl h1 rfl rfl hl9.1 (Nat.le_of_ble_eq_true rfl) ⟨⟨Nat.le_of_ble_eq_true rfl, Nat.le_of_ble_eq_true rfl⟩, Nat.le_of_ble_eq_true rfl, Nat.le_of_ble_eq_true rfl⟩ dX4_stateOf_2 (fun E ce q9 f4 H locs hPX hw hS hce hcv hcl => ?_) (fun v f4 H locs hP hw hS => ?_)
  · obtain ⟨ef9, eE9, hE9⟩ := hPX
    rw [ef9] at hw
    exact absurd (Or.inr rfl) hE9
  · obtain ⟨ef9, hv9⟩ := hP
    rw [ef9] at hw
    rcases hv9 with ⟨k9, ev9⟩ | ⟨k9, ev9⟩
    exact absurd k9 (by decide)
    subst ev9
    refine W.eq (g2 := F0 m 5 ls [.ref eo]) rfl ?_
    refine hp_getN B0 hw 1 rfl in_X1 h3 5 (by decide) oF_X4_55 rfl dX4_stateOf_5 ?_
    exact hp_iret (v := S1.1) B0 hw hS hr ⟨Nat.le_of_ble_eq_true rfl, Nat.le_of_ble_eq_true rfl⟩ dX4_stateOf_8 (⟨rfl, ⟨_, _, hq⟩, hKn.rf⟩)

set_option maxHeartbeats 4000000 in
set_option maxRecDepth 100000 in
theorem c_P_requests_1 {l : Launch} (hl : l.stackTraces = false) (G : hG) (f : hM) (xo ez eo bu nw0 na0 nq0 nr0 nw1 na1 nq1 nr1 bs bp bh bf bl bg : Nat) (S0 : ES) (S1 : ES) (gw0 : Nat → Int32) (ga0 : Nat → Int32) (gw1 : Nat → Int32) (ga1 : Nat → Int32) (n : Nat) (a : Nat) (cg : Nat) (x : Nat) (sa : Nat → Nat) (pk : Nat → Nat) (fl : Nat → Nat) (gv : Nat → Nat) (gh : Nat → Int32) (gl : Nat → Int32) (hC : CXW G f xo ez eo bu nw0 na0 nq0 nr0 nw1 na1 nq1 nr1 bs bp bh bf bl bg S0 S1 gw0 ga0 gw1 ga1 n a cg x sa pk fl gv gh gl) (hL0 : S0.2.2.2.2.2.2.2.2.length < 3000) (hL1 : S1.2.2.2.2.2.2.2.2.length < 3000)  : CT l yX4_requests (.code yX4_requests cX4_requests 2 (some .int)) 7 103 1 6 G [.ref xo, .int 1] f (fun v f1 => v = some (.int S1.2.2.1) ∧ CXW G f1 xo ez eo bu nw0 na0 nq0 nr0 nw1 na1 nq1 nr1 bs bp bh bf bl bg S0 S1 gw0 ga0 gw1 ga1 n a cg x sa pk fl gv gh gl ∧ hKn [xo, ez, eo, bu, nw0, na0, nq0, nr0, nw1, na1, nq1, nr1, bs, bp, bh, bf, bl, bg] f f1) (fun E f1 => False) := by
  refine hp_start hl (own := RX4) (by decide) rfl (Nat.le_of_ble_eq_true rfl) ?_
  intro p e s m args below meth c B0 hr hnm hout hw hS ls hl9
  have hx := B0.1
  have hb := B0.2.1
  have hl9 : lv_has ls 2 [(0, .ref xo), (1, .int 1)] := hl9
  obtain ⟨Q0, Q1, hq⟩ := id hC
  have h1 : f xo = some (.inr (4, [.ref ez, .ref eo, .ref bu])) := hq.1
  have h2 : f ez = some (.inr (1, [.ref nw0, .ref na0, .ref nq0, .ref nr0, .int (num S0.2.2.2.2.2.2.1), .int S0.1, .int S0.2.2.2.1, .int S0.2.2.1, .int S0.2.1, .int S0.2.2.2.2.1, .int S0.2.2.2.2.2.1])) := (hq.2.1).1
  have h3 : f eo = some (.inr (1, [.ref nw1, .ref na1, .ref nq1, .ref nr1, .int (num S1.2.2.2.2.2.2.1), .int S1.1, .int S1.2.2.2.1, .int S1.2.2.1, .int S1.2.1, .int S1.2.2.2.2.1, .int S1.2.2.2.2.2.1])) := (hq.2.2.1).1
  refine lv_aload_n hx hb dX4_requests_0 rfl (lv_at hl9 0 rfl) ?_
  refine lv_iload_n hx hb dX4_requests_1 rfl (lv_at hl9 1 rfl) ?_
  refine hp_V (ci := 4) (As := [.int 1]) (rest := []) B0 hw hS (c_X4_endAt hl G f xo ez eo bu h1 1) mV_X4_endAt qM_X4_28 rfl h1 rfl rfl hl9.1 (Nat.le_of_ble_eq_true rfl) ⟨⟨Nat.le_of_ble_eq_true rfl, Nat.le_of_ble_eq_true rfl⟩, Nat.le_of_ble_eq_true rfl, Nat.le_of_ble_eq_true rfl⟩ dX4_requests_2 (fun E ce q9 f4 H locs hPX hw hS hce hcv hcl => ?_) (fun v f4 H locs hP hw hS => ?_)
  · obtain ⟨ef9, eE9, hE9⟩ := hPX
    rw [ef9] at hw
    exact absurd (Or.inr rfl) hE9
  · obtain ⟨ef9, hv9⟩ := hP
    rw [ef9] at hw
    rcases hv9 with ⟨k9, ev9⟩ | ⟨k9, ev9⟩
    exact absurd k9 (by decide)
    subst ev9
    refine W.eq (g2 := F0 m 5 ls [.ref eo]) rfl ?_
    refine hp_getN B0 hw 1 rfl in_X1 h3 7 (by decide) oF_X4_99 rfl dX4_requests_5 ?_
    exact hp_iret (v := S1.2.2.1) B0 hw hS hr ⟨Nat.le_of_ble_eq_true rfl, Nat.le_of_ble_eq_true rfl⟩ dX4_requests_8 (⟨rfl, ⟨_, _, hq⟩, hKn.rf⟩)

set_option maxHeartbeats 4000000 in
set_option maxRecDepth 100000 in
theorem c_P_missed_1 {l : Launch} (hl : l.stackTraces = false) (G : hG) (f : hM) (xo ez eo bu nw0 na0 nq0 nr0 nw1 na1 nq1 nr1 bs bp bh bf bl bg : Nat) (S0 : ES) (S1 : ES) (gw0 : Nat → Int32) (ga0 : Nat → Int32) (gw1 : Nat → Int32) (ga1 : Nat → Int32) (n : Nat) (a : Nat) (cg : Nat) (x : Nat) (sa : Nat → Nat) (pk : Nat → Nat) (fl : Nat → Nat) (gv : Nat → Nat) (gh : Nat → Int32) (gl : Nat → Int32) (hC : CXW G f xo ez eo bu nw0 na0 nq0 nr0 nw1 na1 nq1 nr1 bs bp bh bf bl bg S0 S1 gw0 ga0 gw1 ga1 n a cg x sa pk fl gv gh gl) (hL0 : S0.2.2.2.2.2.2.2.2.length < 3000) (hL1 : S1.2.2.2.2.2.2.2.2.length < 3000)  : CT l yX4_missed (.code yX4_missed cX4_missed 2 (some .int)) 7 103 1 6 G [.ref xo, .int 1] f (fun v f1 => v = some (.int S1.2.2.2.2.2.1) ∧ CXW G f1 xo ez eo bu nw0 na0 nq0 nr0 nw1 na1 nq1 nr1 bs bp bh bf bl bg S0 S1 gw0 ga0 gw1 ga1 n a cg x sa pk fl gv gh gl ∧ hKn [xo, ez, eo, bu, nw0, na0, nq0, nr0, nw1, na1, nq1, nr1, bs, bp, bh, bf, bl, bg] f f1) (fun E f1 => False) := by
  refine hp_start hl (own := RX4) (by decide) rfl (Nat.le_of_ble_eq_true rfl) ?_
  intro p e s m args below meth c B0 hr hnm hout hw hS ls hl9
  have hx := B0.1
  have hb := B0.2.1
  have hl9 : lv_has ls 2 [(0, .ref xo), (1, .int 1)] := hl9
  obtain ⟨Q0, Q1, hq⟩ := id hC
  have h1 : f xo = some (.inr (4, [.ref ez, .ref eo, .ref bu])) := hq.1
  have h2 : f ez = some (.inr (1, [.ref nw0, .ref na0, .ref nq0, .ref nr0, .int (num S0.2.2.2.2.2.2.1), .int S0.1, .int S0.2.2.2.1, .int S0.2.2.1, .int S0.2.1, .int S0.2.2.2.2.1, .int S0.2.2.2.2.2.1])) := (hq.2.1).1
  have h3 : f eo = some (.inr (1, [.ref nw1, .ref na1, .ref nq1, .ref nr1, .int (num S1.2.2.2.2.2.2.1), .int S1.1, .int S1.2.2.2.1, .int S1.2.2.1, .int S1.2.1, .int S1.2.2.2.2.1, .int S1.2.2.2.2.2.1])) := (hq.2.2.1).1
  refine lv_aload_n hx hb dX4_missed_0 rfl (lv_at hl9 0 rfl) ?_
  refine lv_iload_n hx hb dX4_missed_1 rfl (lv_at hl9 1 rfl) ?_
  refine hp_V (ci := 4) (As := [.int 1]) (rest := []) B0 hw hS (c_X4_endAt hl G f xo ez eo bu h1 1) mV_X4_endAt qM_X4_28 rfl h1 rfl rfl hl9.1 (Nat.le_of_ble_eq_true rfl) ⟨⟨Nat.le_of_ble_eq_true rfl, Nat.le_of_ble_eq_true rfl⟩, Nat.le_of_ble_eq_true rfl, Nat.le_of_ble_eq_true rfl⟩ dX4_missed_2 (fun E ce q9 f4 H locs hPX hw hS hce hcv hcl => ?_) (fun v f4 H locs hP hw hS => ?_)
  · obtain ⟨ef9, eE9, hE9⟩ := hPX
    rw [ef9] at hw
    exact absurd (Or.inr rfl) hE9
  · obtain ⟨ef9, hv9⟩ := hP
    rw [ef9] at hw
    rcases hv9 with ⟨k9, ev9⟩ | ⟨k9, ev9⟩
    exact absurd k9 (by decide)
    subst ev9
    refine W.eq (g2 := F0 m 5 ls [.ref eo]) rfl ?_
    refine hp_getN B0 hw 1 rfl in_X1 h3 10 (by decide) oF_X4_86 rfl dX4_missed_5 ?_
    exact hp_iret (v := S1.2.2.2.2.2.1) B0 hw hS hr ⟨Nat.le_of_ble_eq_true rfl, Nat.le_of_ble_eq_true rfl⟩ dX4_missed_8 (⟨rfl, ⟨_, _, hq⟩, hKn.rf⟩)

set_option maxHeartbeats 4000000 in
set_option maxRecDepth 100000 in
theorem c_P_isLooped_1 {l : Launch} (hl : l.stackTraces = false) (G : hG) (f : hM) (xo ez eo bu nw0 na0 nq0 nr0 nw1 na1 nq1 nr1 bs bp bh bf bl bg : Nat) (S0 : ES) (S1 : ES) (gw0 : Nat → Int32) (ga0 : Nat → Int32) (gw1 : Nat → Int32) (ga1 : Nat → Int32) (n : Nat) (a : Nat) (cg : Nat) (x : Nat) (sa : Nat → Nat) (pk : Nat → Nat) (fl : Nat → Nat) (gv : Nat → Nat) (gh : Nat → Int32) (gl : Nat → Int32) (hC : CXW G f xo ez eo bu nw0 na0 nq0 nr0 nw1 na1 nq1 nr1 bs bp bh bf bl bg S0 S1 gw0 ga0 gw1 ga1 n a cg x sa pk fl gv gh gl) (hL0 : S0.2.2.2.2.2.2.2.2.length < 3000) (hL1 : S1.2.2.2.2.2.2.2.2.length < 3000)  : CT l yX4_isLooped (.code yX4_isLooped cX4_isLooped 2 (some .boolean)) 7 103 1 6 G [.ref xo, .int 1] f (fun v f1 => v = some (.int S1.2.2.2.2.1) ∧ CXW G f1 xo ez eo bu nw0 na0 nq0 nr0 nw1 na1 nq1 nr1 bs bp bh bf bl bg S0 S1 gw0 ga0 gw1 ga1 n a cg x sa pk fl gv gh gl ∧ hKn [xo, ez, eo, bu, nw0, na0, nq0, nr0, nw1, na1, nq1, nr1, bs, bp, bh, bf, bl, bg] f f1) (fun E f1 => False) := by
  refine hp_start hl (own := RX4) (by decide) rfl (Nat.le_of_ble_eq_true rfl) ?_
  intro p e s m args below meth c B0 hr hnm hout hw hS ls hl9
  have hx := B0.1
  have hb := B0.2.1
  have hl9 : lv_has ls 2 [(0, .ref xo), (1, .int 1)] := hl9
  obtain ⟨Q0, Q1, hq⟩ := id hC
  have h1 : f xo = some (.inr (4, [.ref ez, .ref eo, .ref bu])) := hq.1
  have h2 : f ez = some (.inr (1, [.ref nw0, .ref na0, .ref nq0, .ref nr0, .int (num S0.2.2.2.2.2.2.1), .int S0.1, .int S0.2.2.2.1, .int S0.2.2.1, .int S0.2.1, .int S0.2.2.2.2.1, .int S0.2.2.2.2.2.1])) := (hq.2.1).1
  have h3 : f eo = some (.inr (1, [.ref nw1, .ref na1, .ref nq1, .ref nr1, .int (num S1.2.2.2.2.2.2.1), .int S1.1, .int S1.2.2.2.1, .int S1.2.2.1, .int S1.2.1, .int S1.2.2.2.2.1, .int S1.2.2.2.2.2.1])) := (hq.2.2.1).1
  refine lv_aload_n hx hb dX4_isLooped_0 rfl (lv_at hl9 0 rfl) ?_
  refine lv_iload_n hx hb dX4_isLooped_1 rfl (lv_at hl9 1 rfl) ?_
  refine hp_V (ci := 4) (As := [.int 1]) (rest := []) B0 hw hS (c_X4_endAt hl G f xo ez eo bu h1 1) mV_X4_endAt qM_X4_28 rfl h1 rfl rfl hl9.1 (Nat.le_of_ble_eq_true rfl) ⟨⟨Nat.le_of_ble_eq_true rfl, Nat.le_of_ble_eq_true rfl⟩, Nat.le_of_ble_eq_true rfl, Nat.le_of_ble_eq_true rfl⟩ dX4_isLooped_2 (fun E ce q9 f4 H locs hPX hw hS hce hcv hcl => ?_) (fun v f4 H locs hP hw hS => ?_)
  · obtain ⟨ef9, eE9, hE9⟩ := hPX
    rw [ef9] at hw
    exact absurd (Or.inr rfl) hE9
  · obtain ⟨ef9, hv9⟩ := hP
    rw [ef9] at hw
    rcases hv9 with ⟨k9, ev9⟩ | ⟨k9, ev9⟩
    exact absurd k9 (by decide)
    subst ev9
    refine W.eq (g2 := F0 m 5 ls [.ref eo]) rfl ?_
    refine hp_getN B0 hw 1 rfl in_X1 h3 9 (by decide) oF_X4_102 rfl dX4_isLooped_5 ?_
    exact hp_zret (v := S1.2.2.2.2.1) B0 hw hS hr ⟨Nat.le_of_ble_eq_true rfl, Nat.le_of_ble_eq_true rfl⟩ ((hq.2.2.1).2.2.2.2.2) dX4_isLooped_8 (⟨rfl, ⟨_, _, hq⟩, hKn.rf⟩)

set_option maxHeartbeats 4000000 in
set_option maxRecDepth 100000 in
theorem c_P_underWay_1 {l : Launch} (hl : l.stackTraces = false) (G : hG) (f : hM) (xo ez eo bu nw0 na0 nq0 nr0 nw1 na1 nq1 nr1 bs bp bh bf bl bg : Nat) (S0 : ES) (S1 : ES) (gw0 : Nat → Int32) (ga0 : Nat → Int32) (gw1 : Nat → Int32) (ga1 : Nat → Int32) (n : Nat) (a : Nat) (cg : Nat) (x : Nat) (sa : Nat → Nat) (pk : Nat → Nat) (fl : Nat → Nat) (gv : Nat → Nat) (gh : Nat → Int32) (gl : Nat → Int32) (hC : CXW G f xo ez eo bu nw0 na0 nq0 nr0 nw1 na1 nq1 nr1 bs bp bh bf bl bg S0 S1 gw0 ga0 gw1 ga1 n a cg x sa pk fl gv gh gl) (hL0 : S0.2.2.2.2.2.2.2.2.length < 3000) (hL1 : S1.2.2.2.2.2.2.2.2.length < 3000)  : CT l yX4_underWay (.code yX4_underWay cX4_underWay 2 (some .int)) 7 103 1 6 G [.ref xo, .int 1] f (fun v f1 => v = some (.int (nI S1.2.2.2.2.2.2.2.2.length)) ∧ CXW G f1 xo ez eo bu nw0 na0 nq0 nr0 nw1 na1 nq1 nr1 bs bp bh bf bl bg S0 S1 gw0 ga0 gw1 ga1 n a cg x sa pk fl gv gh gl ∧ hKn [xo, ez, eo, bu, nw0, na0, nq0, nr0, nw1, na1, nq1, nr1, bs, bp, bh, bf, bl, bg] f f1) (fun E f1 => False) := by
  refine hp_start hl (own := RX4) (by decide) rfl (Nat.le_of_ble_eq_true rfl) ?_
  intro p e s m args below meth c B0 hr hnm hout hw hS ls hl9
  have hx := B0.1
  have hb := B0.2.1
  have hl9 : lv_has ls 2 [(0, .ref xo), (1, .int 1)] := hl9
  obtain ⟨Q0, Q1, hq⟩ := id hC
  have h1 : f xo = some (.inr (4, [.ref ez, .ref eo, .ref bu])) := hq.1
  have h2 : f ez = some (.inr (1, [.ref nw0, .ref na0, .ref nq0, .ref nr0, .int (num S0.2.2.2.2.2.2.1), .int S0.1, .int S0.2.2.2.1, .int S0.2.2.1, .int S0.2.1, .int S0.2.2.2.2.1, .int S0.2.2.2.2.2.1])) := (hq.2.1).1
  have h3 : f eo = some (.inr (1, [.ref nw1, .ref na1, .ref nq1, .ref nr1, .int (num S1.2.2.2.2.2.2.1), .int S1.1, .int S1.2.2.2.1, .int S1.2.2.1, .int S1.2.1, .int S1.2.2.2.2.1, .int S1.2.2.2.2.2.1])) := (hq.2.2.1).1
  obtain ⟨y4, y5, h6⟩ := EX.cn (hq.2.2.1)
  refine lv_aload_n hx hb dX4_underWay_0 rfl (lv_at hl9 0 rfl) ?_
  refine lv_iload_n hx hb dX4_underWay_1 rfl (lv_at hl9 1 rfl) ?_
  refine hp_V (ci := 4) (As := [.int 1]) (rest := []) B0 hw hS (c_X4_endAt hl G f xo ez eo bu h1 1) mV_X4_endAt qM_X4_28 rfl h1 rfl rfl hl9.1 (Nat.le_of_ble_eq_true rfl) ⟨⟨Nat.le_of_ble_eq_true rfl, Nat.le_of_ble_eq_true rfl⟩, Nat.le_of_ble_eq_true rfl, Nat.le_of_ble_eq_true rfl⟩ dX4_underWay_2 (fun E ce q9 f7 H locs hPX hw hS hce hcv hcl => ?_) (fun v f7 H locs hP hw hS => ?_)
  · obtain ⟨ef9, eE9, hE9⟩ := hPX
    rw [ef9] at hw
    exact absurd (Or.inr rfl) hE9
  · obtain ⟨ef9, hv9⟩ := hP
    rw [ef9] at hw
    rcases hv9 with ⟨k9, ev9⟩ | ⟨k9, ev9⟩
    exact absurd k9 (by decide)
    subst ev9
    refine W.eq (g2 := F0 m 5 ls [.ref eo]) rfl ?_
    refine hp_getN B0 hw 1 rfl in_X1 h3 3 (by decide) oF_X4_106 rfl dX4_underWay_5 ?_
    refine hp_getN B0 hw 3 rfl in_X3 h6 2 (by decide) oF_X4_110 rfl dX4_underWay_8 ?_
    exact hp_iret (v := (nI S1.2.2.2.2.2.2.2.2.length)) B0 hw hS hr ⟨Nat.le_of_ble_eq_true rfl, Nat.le_of_ble_eq_true rfl⟩ dX4_underWay_11 (⟨rfl, ⟨_, _, hq⟩, hKn.rf⟩)

set_option maxHeartbeats 4000000 in
set_option maxRecDepth 100000 in
theorem c_P_asked_1 {l : Launch} (hl : l.stackTraces = false) (G : hG) (f : hM) (xo ez eo bu nw0 na0 nq0 nr0 nw1 na1 nq1 nr1 bs bp bh bf bl bg : Nat) (S0 : ES) (S1 : ES) (gw0 : Nat → Int32) (ga0 : Nat → Int32) (gw1 : Nat → Int32) (ga1 : Nat → Int32) (n : Nat) (a : Nat) (cg : Nat) (x : Nat) (sa : Nat → Nat) (pk : Nat → Nat) (fl : Nat → Nat) (gv : Nat → Nat) (gh : Nat → Int32) (gl : Nat → Int32) (hC : CXW G f xo ez eo bu nw0 na0 nq0 nr0 nw1 na1 nq1 nr1 bs bp bh bf bl bg S0 S1 gw0 ga0 gw1 ga1 n a cg x sa pk fl gv gh gl) (hL0 : S0.2.2.2.2.2.2.2.2.length < 3000) (hL1 : S1.2.2.2.2.2.2.2.2.length < 3000) (j : Nat) (hj : j < 6) : CT l yX4_asked (.code yX4_asked cX4_asked 4 (some .int)) 7 103 2 12 G [.ref xo, .int 1, .int (nI j)] f (fun v f1 => v = some (.int (S1.2.2.2.2.2.2.2.1 j)) ∧ CXW G f1 xo ez eo bu nw0 na0 nq0 nr0 nw1 na1 nq1 nr1 bs bp bh bf bl bg S0 S1 gw0 ga0 gw1 ga1 n a cg x sa pk fl gv gh gl ∧ hKn [xo, ez, eo, bu, nw0, na0, nq0, nr0, nw1, na1, nq1, nr1, bs, bp, bh, bf, bl, bg] f f1) (fun E f1 => False) := by
  refine hp_start hl (own := RX4) (by decide) rfl (Nat.le_of_ble_eq_true rfl) ?_
  intro p e s m args below meth c B0 hr hnm hout hw hS ls hl9
  have hx := B0.1
  have hb := B0.2.1
  have hl9 : lv_has ls 4 [(0, .ref xo), (1, .int 1), (2, .int (nI j))] := hl9
  obtain ⟨Q0, Q1, hq⟩ := id hC
  have h1 : f xo = some (.inr (4, [.ref ez, .ref eo, .ref bu])) := hq.1
  have h2 : f ez = some (.inr (1, [.ref nw0, .ref na0, .ref nq0, .ref nr0, .int (num S0.2.2.2.2.2.2.1), .int S0.1, .int S0.2.2.2.1, .int S0.2.2.1, .int S0.2.1, .int S0.2.2.2.2.1, .int S0.2.2.2.2.2.1])) := (hq.2.1).1
  have h3 : f eo = some (.inr (1, [.ref nw1, .ref na1, .ref nq1, .ref nr1, .int (num S1.2.2.2.2.2.2.1), .int S1.1, .int S1.2.2.2.1, .int S1.2.2.1, .int S1.2.1, .int S1.2.2.2.2.1, .int S1.2.2.2.2.2.1])) := (hq.2.2.1).1
  have h4 : f nq1 = some (.inl (cI G, 6, .inl S1.2.2.2.2.2.2.2.1)) := (hq.2.2.1).2.1
  have ho := (show sO (nI j) from ⟨by rw [nI_toInt (by omega)]; omega, by rw [nI_toInt (by omega)]; omega⟩)
  refine lv_aload_n hx hb dX4_asked_0 rfl (lv_at hl9 0 rfl) ?_
  refine lv_iload_n hx hb dX4_asked_1 rfl (lv_at hl9 1 rfl) ?_
  refine hp_V (ci := 4) (As := [.int 1]) (rest := []) B0 hw hS (c_X4_endAt hl G f xo ez eo bu h1 1) mV_X4_endAt qM_X4_28 rfl h1 rfl rfl hl9.1 (Nat.le_of_ble_eq_true rfl) ⟨⟨Nat.le_of_ble_eq_true rfl, Nat.le_of_ble_eq_true rfl⟩, Nat.le_of_ble_eq_true rfl, Nat.le_of_ble_eq_true rfl⟩ dX4_asked_2 (fun E ce q9 f5 H locs hPX hw hS hce hcv hcl => ?_) (fun v f5 H locs hP hw hS => ?_)
  · obtain ⟨ef9, eE9, hE9⟩ := hPX
    rw [ef9] at hw
    exact absurd (Or.inr rfl) hE9
  · obtain ⟨ef9, hv9⟩ := hP
    rw [ef9] at hw
    rcases hv9 with ⟨k9, ev9⟩ | ⟨k9, ev9⟩
    exact absurd k9 (by decide)
    subst ev9
    refine W.eq (g2 := F0 m 5 ls [.ref eo]) rfl ?_
    refine lv_astore_n (lv' := [(3, .ref eo), (0, .ref xo), (1, .int 1), (2, .int (nI j))]) hx hb dX4_asked_5 rfl hl9 (by decide) rfl (fun ls hl9 => ?_)
    refine lv_iload_n hx hb dX4_asked_6 rfl (lv_at hl9 3 rfl) ?_
    refine hp_S (As := [.int (nI j)]) (rest := []) B0 hw hS (c_X4_refuseNoOption hl G f (nI j)) mS_X4_refuseNoOption qM_X4_32 rfl rfl hl9.1 (Nat.le_of_ble_eq_true rfl) ⟨⟨Nat.le_of_ble_eq_true rfl, Nat.le_of_ble_eq_true rfl⟩, Nat.le_of_ble_eq_true rfl, Nat.le_of_ble_eq_true rfl⟩ dX4_asked_7 (fun E ce q9 f6 H locs hPX hw hS hce hcv hcl => ?_) (fun v f6 H locs hP hw hS => ?_)
    · obtain ⟨ef9, eE9, hE9⟩ := hPX
      rw [ef9] at hw
      exact absurd ho hE9
    · obtain ⟨ef9, ev9, ho9⟩ := hP
      rw [ef9] at hw
      subst ev9
      refine W.eq (g2 := F0 m 10 ls []) rfl ?_
      refine lv_aload_n hx hb dX4_asked_10 rfl (lv_at hl9 0 rfl) ?_
      refine hp_getN B0 hw 1 rfl in_X1 h3 2 (by decide) oF_X4_95 rfl dX4_asked_11 ?_
      refine lv_iload_n hx hb dX4_asked_14 rfl (lv_at hl9 3 rfl) ?_
      refine hp_iald B0 hw h4 (vp_in_nI hj (by omega)) dX4_asked_15 ?_
      refine hp_c (v := (S1.2.2.2.2.2.2.2.1 j)) (congrArg _ (nI_clamp (by omega))) ?_
      exact hp_iret (v := (S1.2.2.2.2.2.2.2.1 j)) B0 hw hS hr ⟨Nat.le_of_ble_eq_true rfl, Nat.le_of_ble_eq_true rfl⟩ dX4_asked_16 (⟨rfl, ⟨_, _, hq⟩, hKn.rf⟩)

set_option maxHeartbeats 4000000 in
set_option maxRecDepth 100000 in
theorem c_P_asked_O1 {l : Launch} (hl : l.stackTraces = false) (G : hG) (f : hM) (xo ez eo bu nw0 na0 nq0 nr0 nw1 na1 nq1 nr1 bs bp bh bf bl bg : Nat) (S0 : ES) (S1 : ES) (gw0 : Nat → Int32) (ga0 : Nat → Int32) (gw1 : Nat → Int32) (ga1 : Nat → Int32) (n : Nat) (a : Nat) (cg : Nat) (x : Nat) (sa : Nat → Nat) (pk : Nat → Nat) (fl : Nat → Nat) (gv : Nat → Nat) (gh : Nat → Int32) (gl : Nat → Int32) (hC : CXW G f xo ez eo bu nw0 na0 nq0 nr0 nw1 na1 nq1 nr1 bs bp bh bf bl bg S0 S1 gw0 ga0 gw1 ga1 n a cg x sa pk fl gv gh gl) (hL0 : S0.2.2.2.2.2.2.2.2.length < 3000) (hL1 : S1.2.2.2.2.2.2.2.2.length < 3000) (o : Int32) (ho : ¬ sO o) : CT l yX4_asked (.code yX4_asked cX4_asked 4 (some .int)) 7 103 2 12 G [.ref xo, .int 1, .int o] f (fun v f1 => False) (fun E f1 => E = eI ∧ CXW G f1 xo ez eo bu nw0 na0 nq0 nr0 nw1 na1 nq1 nr1 bs bp bh bf bl bg S0 S1 gw0 ga0 gw1 ga1 n a cg x sa pk fl gv gh gl ∧ hKn [xo, ez, eo, bu, nw0, na0, nq0, nr0, nw1, na1, nq1, nr1, bs, bp, bh, bf, bl, bg] f f1) := by
  refine hp_start hl (own := RX4) (by decide) rfl (Nat.le_of_ble_eq_true rfl) ?_
  intro p e s m args below meth c B0 hr hnm hout hw hS ls hl9
  have hx := B0.1
  have hb := B0.2.1
  have hl9 : lv_has ls 4 [(0, .ref xo), (1, .int 1), (2, .int o)] := hl9
  obtain ⟨Q0, Q1, hq⟩ := id hC
  have h1 : f xo = some (.inr (4, [.ref ez, .ref eo, .ref bu])) := hq.1
  have h2 : f ez = some (.inr (1, [.ref nw0, .ref na0, .ref nq0, .ref nr0, .int (num S0.2.2.2.2.2.2.1), .int S0.1, .int S0.2.2.2.1, .int S0.2.2.1, .int S0.2.1, .int S0.2.2.2.2.1, .int S0.2.2.2.2.2.1])) := (hq.2.1).1
  have h3 : f eo = some (.inr (1, [.ref nw1, .ref na1, .ref nq1, .ref nr1, .int (num S1.2.2.2.2.2.2.1), .int S1.1, .int S1.2.2.2.1, .int S1.2.2.1, .int S1.2.1, .int S1.2.2.2.2.1, .int S1.2.2.2.2.2.1])) := (hq.2.2.1).1
  refine lv_aload_n hx hb dX4_asked_0 rfl (lv_at hl9 0 rfl) ?_
  refine lv_iload_n hx hb dX4_asked_1 rfl (lv_at hl9 1 rfl) ?_
  refine hp_V (ci := 4) (As := [.int 1]) (rest := []) B0 hw hS (c_X4_endAt hl G f xo ez eo bu h1 1) mV_X4_endAt qM_X4_28 rfl h1 rfl rfl hl9.1 (Nat.le_of_ble_eq_true rfl) ⟨⟨Nat.le_of_ble_eq_true rfl, Nat.le_of_ble_eq_true rfl⟩, Nat.le_of_ble_eq_true rfl, Nat.le_of_ble_eq_true rfl⟩ dX4_asked_2 (fun E ce q9 f4 H locs hPX hw hS hce hcv hcl => ?_) (fun v f4 H locs hP hw hS => ?_)
  · obtain ⟨ef9, eE9, hE9⟩ := hPX
    rw [ef9] at hw
    exact absurd (Or.inr rfl) hE9
  · obtain ⟨ef9, hv9⟩ := hP
    rw [ef9] at hw
    rcases hv9 with ⟨k9, ev9⟩ | ⟨k9, ev9⟩
    exact absurd k9 (by decide)
    subst ev9
    refine W.eq (g2 := F0 m 5 ls [.ref eo]) rfl ?_
    refine lv_astore_n (lv' := [(3, .ref eo), (0, .ref xo), (1, .int 1), (2, .int o)]) hx hb dX4_asked_5 rfl hl9 (by decide) rfl (fun ls hl9 => ?_)
    refine lv_iload_n hx hb dX4_asked_6 rfl (lv_at hl9 3 rfl) ?_
    refine hp_S (As := [.int o]) (rest := []) B0 hw hS (c_X4_refuseNoOption hl G f o) mS_X4_refuseNoOption qM_X4_32 rfl rfl hl9.1 (Nat.le_of_ble_eq_true rfl) ⟨⟨Nat.le_of_ble_eq_true rfl, Nat.le_of_ble_eq_true rfl⟩, Nat.le_of_ble_eq_true rfl, Nat.le_of_ble_eq_true rfl⟩ dX4_asked_7 (fun E ce q9 f5 H locs hPX hw hS hce hcv hcl => ?_) (fun v f5 H locs hP hw hS => ?_)
    · obtain ⟨ef9, eE9, hE9⟩ := hPX
      rw [ef9] at hw
      subst eE9
      exact hp_out B0 hw hS hout hce hcv hcl ⟨Nat.le_of_ble_eq_true rfl, Nat.le_of_ble_eq_true rfl⟩ (⟨rfl, ⟨_, _, hq⟩, hKn.rf⟩)
    · obtain ⟨ef9, ev9, ho9⟩ := hP
      rw [ef9] at hw
      exact absurd ho9 ho

set_option maxHeartbeats 4000000 in
set_option maxRecDepth 100000 in
theorem c_P_stateOf_E {l : Launch} (hl : l.stackTraces = false) (G : hG) (f : hM) (xo ez eo bu nw0 na0 nq0 nr0 nw1 na1 nq1 nr1 bs bp bh bf bl bg : Nat) (S0 : ES) (S1 : ES) (gw0 : Nat → Int32) (ga0 : Nat → Int32) (gw1 : Nat → Int32) (ga1 : Nat → Int32) (n : Nat) (a : Nat) (cg : Nat) (x : Nat) (sa : Nat → Nat) (pk : Nat → Nat) (fl : Nat → Nat) (gv : Nat → Nat) (gh : Nat → Int32) (gl : Nat → Int32) (hC : CXW G f xo ez eo bu nw0 na0 nq0 nr0 nw1 na1 nq1 nr1 bs bp bh bf bl bg S0 S1 gw0 ga0 gw1 ga1 n a cg x sa pk fl gv gh gl) (hL0 : S0.2.2.2.2.2.2.2.2.length < 3000) (hL1 : S1.2.2.2.2.2.2.2.2.length < 3000) (i : Int32) (hi : ¬ sE i) : CT l yX4_stateOf (.code yX4_stateOf cX4_stateOf 2 (some .int)) 7 103 1 6 G [.ref xo, .int i] f (fun v f1 => False) (fun E f1 => E = eI ∧ CXW G f1 xo ez eo bu nw0 na0 nq0 nr0 nw1 na1 nq1 nr1 bs bp bh bf bl bg S0 S1 gw0 ga0 gw1 ga1 n a cg x sa pk fl gv gh gl ∧ hKn [xo, ez, eo, bu, nw0, na0, nq0, nr0, nw1, na1, nq1, nr1, bs, bp, bh, bf, bl, bg] f f1) := by
  refine hp_start hl (own := RX4) (by decide) rfl (Nat.le_of_ble_eq_true rfl) ?_
  intro p e s m args below meth c B0 hr hnm hout hw hS ls hl9
  have hx := B0.1
  have hb := B0.2.1
  have hl9 : lv_has ls 2 [(0, .ref xo), (1, .int i)] := hl9
  obtain ⟨Q0, Q1, hq⟩ := id hC
  have h1 : f xo = some (.inr (4, [.ref ez, .ref eo, .ref bu])) := hq.1
  have h2 : f ez = some (.inr (1, [.ref nw0, .ref na0, .ref nq0, .ref nr0, .int (num S0.2.2.2.2.2.2.1), .int S0.1, .int S0.2.2.2.1, .int S0.2.2.1, .int S0.2.1, .int S0.2.2.2.2.1, .int S0.2.2.2.2.2.1])) := (hq.2.1).1
  have h3 : f eo = some (.inr (1, [.ref nw1, .ref na1, .ref nq1, .ref nr1, .int (num S1.2.2.2.2.2.2.1), .int S1.1, .int S1.2.2.2.1, .int S1.2.2.1, .int S1.2.1, .int S1.2.2.2.2.1, .int S1.2.2.2.2.2.1])) := (hq.2.2.1).1
  refine lv_aload_n hx hb dX4_stateOf_0 rfl (lv_at hl9 0 rfl) ?_
  refine lv_iload_n hx hb dX4_stateOf_1 rfl (lv_at hl9 1 rfl) ?_
  refine hp_V (ci := 4) (As := [.int i]) (rest := []) B0 hw hS (c_X4_endAt hl G f xo ez eo bu h1 i) mV_X4_endAt qM_X4_28 rfl h1 rfl rfl hl9.1 (Nat.le_of_ble_eq_true rfl) ⟨⟨Nat.le_of_ble_eq_true rfl, Nat.le_of_ble_eq_true rfl⟩, Nat.le_of_ble_eq_true rfl, Nat.le_of_ble_eq_true rfl⟩ dX4_stateOf_2 (fun E ce q9 f4 H locs hPX hw hS hce hcv hcl => ?_) (fun v f4 H locs hP hw hS => ?_)
  · obtain ⟨ef9, eE9, hE9⟩ := hPX
    rw [ef9] at hw
    subst eE9
    exact hp_out B0 hw hS hout hce hcv hcl ⟨Nat.le_of_ble_eq_true rfl, Nat.le_of_ble_eq_true rfl⟩ (⟨rfl, ⟨_, _, hq⟩, hKn.rf⟩)
  · obtain ⟨ef9, hv9⟩ := hP
    rw [ef9] at hw
    exact absurd (hv9.imp And.left And.left) hi

set_option maxHeartbeats 4000000 in
set_option maxRecDepth 100000 in
theorem c_P_underWay_E {l : Launch} (hl : l.stackTraces = false) (G : hG) (f : hM) (xo ez eo bu nw0 na0 nq0 nr0 nw1 na1 nq1 nr1 bs bp bh bf bl bg : Nat) (S0 : ES) (S1 : ES) (gw0 : Nat → Int32) (ga0 : Nat → Int32) (gw1 : Nat → Int32) (ga1 : Nat → Int32) (n : Nat) (a : Nat) (cg : Nat) (x : Nat) (sa : Nat → Nat) (pk : Nat → Nat) (fl : Nat → Nat) (gv : Nat → Nat) (gh : Nat → Int32) (gl : Nat → Int32) (hC : CXW G f xo ez eo bu nw0 na0 nq0 nr0 nw1 na1 nq1 nr1 bs bp bh bf bl bg S0 S1 gw0 ga0 gw1 ga1 n a cg x sa pk fl gv gh gl) (hL0 : S0.2.2.2.2.2.2.2.2.length < 3000) (hL1 : S1.2.2.2.2.2.2.2.2.length < 3000) (i : Int32) (hi : ¬ sE i) : CT l yX4_underWay (.code yX4_underWay cX4_underWay 2 (some .int)) 7 103 1 6 G [.ref xo, .int i] f (fun v f1 => False) (fun E f1 => E = eI ∧ CXW G f1 xo ez eo bu nw0 na0 nq0 nr0 nw1 na1 nq1 nr1 bs bp bh bf bl bg S0 S1 gw0 ga0 gw1 ga1 n a cg x sa pk fl gv gh gl ∧ hKn [xo, ez, eo, bu, nw0, na0, nq0, nr0, nw1, na1, nq1, nr1, bs, bp, bh, bf, bl, bg] f f1) := by
  refine hp_start hl (own := RX4) (by decide) rfl (Nat.le_of_ble_eq_true rfl) ?_
  intro p e s m args below meth c B0 hr hnm hout hw hS ls hl9
  have hx := B0.1
  have hb := B0.2.1
  have hl9 : lv_has ls 2 [(0, .ref xo), (1, .int i)] := hl9
  obtain ⟨Q0, Q1, hq⟩ := id hC
  have h1 : f xo = some (.inr (4, [.ref ez, .ref eo, .ref bu])) := hq.1
  have h2 : f ez = some (.inr (1, [.ref nw0, .ref na0, .ref nq0, .ref nr0, .int (num S0.2.2.2.2.2.2.1), .int S0.1, .int S0.2.2.2.1, .int S0.2.2.1, .int S0.2.1, .int S0.2.2.2.2.1, .int S0.2.2.2.2.2.1])) := (hq.2.1).1
  have h3 : f eo = some (.inr (1, [.ref nw1, .ref na1, .ref nq1, .ref nr1, .int (num S1.2.2.2.2.2.2.1), .int S1.1, .int S1.2.2.2.1, .int S1.2.2.1, .int S1.2.1, .int S1.2.2.2.2.1, .int S1.2.2.2.2.2.1])) := (hq.2.2.1).1
  refine lv_aload_n hx hb dX4_underWay_0 rfl (lv_at hl9 0 rfl) ?_
  refine lv_iload_n hx hb dX4_underWay_1 rfl (lv_at hl9 1 rfl) ?_
  refine hp_V (ci := 4) (As := [.int i]) (rest := []) B0 hw hS (c_X4_endAt hl G f xo ez eo bu h1 i) mV_X4_endAt qM_X4_28 rfl h1 rfl rfl hl9.1 (Nat.le_of_ble_eq_true rfl) ⟨⟨Nat.le_of_ble_eq_true rfl, Nat.le_of_ble_eq_true rfl⟩, Nat.le_of_ble_eq_true rfl, Nat.le_of_ble_eq_true rfl⟩ dX4_underWay_2 (fun E ce q9 f4 H locs hPX hw hS hce hcv hcl => ?_) (fun v f4 H locs hP hw hS => ?_)
  · obtain ⟨ef9, eE9, hE9⟩ := hPX
    rw [ef9] at hw
    subst eE9
    exact hp_out B0 hw hS hout hce hcv hcl ⟨Nat.le_of_ble_eq_true rfl, Nat.le_of_ble_eq_true rfl⟩ (⟨rfl, ⟨_, _, hq⟩, hKn.rf⟩)
  · obtain ⟨ef9, hv9⟩ := hP
    rw [ef9] at hw
    exact absurd (hv9.imp And.left And.left) hi

set_option maxHeartbeats 4000000 in
set_option maxRecDepth 100000 in
theorem c_P_asked_E {l : Launch} (hl : l.stackTraces = false) (G : hG) (f : hM) (xo ez eo bu nw0 na0 nq0 nr0 nw1 na1 nq1 nr1 bs bp bh bf bl bg : Nat) (S0 : ES) (S1 : ES) (gw0 : Nat → Int32) (ga0 : Nat → Int32) (gw1 : Nat → Int32) (ga1 : Nat → Int32) (n : Nat) (a : Nat) (cg : Nat) (x : Nat) (sa : Nat → Nat) (pk : Nat → Nat) (fl : Nat → Nat) (gv : Nat → Nat) (gh : Nat → Int32) (gl : Nat → Int32) (hC : CXW G f xo ez eo bu nw0 na0 nq0 nr0 nw1 na1 nq1 nr1 bs bp bh bf bl bg S0 S1 gw0 ga0 gw1 ga1 n a cg x sa pk fl gv gh gl) (hL0 : S0.2.2.2.2.2.2.2.2.length < 3000) (hL1 : S1.2.2.2.2.2.2.2.2.length < 3000) (i o : Int32) (hi : ¬ sE i) : CT l yX4_asked (.code yX4_asked cX4_asked 4 (some .int)) 7 103 1 6 G [.ref xo, .int i, .int o] f (fun v f1 => False) (fun E f1 => E = eI ∧ CXW G f1 xo ez eo bu nw0 na0 nq0 nr0 nw1 na1 nq1 nr1 bs bp bh bf bl bg S0 S1 gw0 ga0 gw1 ga1 n a cg x sa pk fl gv gh gl ∧ hKn [xo, ez, eo, bu, nw0, na0, nq0, nr0, nw1, na1, nq1, nr1, bs, bp, bh, bf, bl, bg] f f1) := by
  refine hp_start hl (own := RX4) (by decide) rfl (Nat.le_of_ble_eq_true rfl) ?_
  intro p e s m args below meth c B0 hr hnm hout hw hS ls hl9
  have hx := B0.1
  have hb := B0.2.1
  have hl9 : lv_has ls 4 [(0, .ref xo), (1, .int i), (2, .int o)] := hl9
  obtain ⟨Q0, Q1, hq⟩ := id hC
  have h1 : f xo = some (.inr (4, [.ref ez, .ref eo, .ref bu])) := hq.1
  have h2 : f ez = some (.inr (1, [.ref nw0, .ref na0, .ref nq0, .ref nr0, .int (num S0.2.2.2.2.2.2.1), .int S0.1, .int S0.2.2.2.1, .int S0.2.2.1, .int S0.2.1, .int S0.2.2.2.2.1, .int S0.2.2.2.2.2.1])) := (hq.2.1).1
  have h3 : f eo = some (.inr (1, [.ref nw1, .ref na1, .ref nq1, .ref nr1, .int (num S1.2.2.2.2.2.2.1), .int S1.1, .int S1.2.2.2.1, .int S1.2.2.1, .int S1.2.1, .int S1.2.2.2.2.1, .int S1.2.2.2.2.2.1])) := (hq.2.2.1).1
  refine lv_aload_n hx hb dX4_asked_0 rfl (lv_at hl9 0 rfl) ?_
  refine lv_iload_n hx hb dX4_asked_1 rfl (lv_at hl9 1 rfl) ?_
  refine hp_V (ci := 4) (As := [.int i]) (rest := []) B0 hw hS (c_X4_endAt hl G f xo ez eo bu h1 i) mV_X4_endAt qM_X4_28 rfl h1 rfl rfl hl9.1 (Nat.le_of_ble_eq_true rfl) ⟨⟨Nat.le_of_ble_eq_true rfl, Nat.le_of_ble_eq_true rfl⟩, Nat.le_of_ble_eq_true rfl, Nat.le_of_ble_eq_true rfl⟩ dX4_asked_2 (fun E ce q9 f4 H locs hPX hw hS hce hcv hcl => ?_) (fun v f4 H locs hP hw hS => ?_)
  · obtain ⟨ef9, eE9, hE9⟩ := hPX
    rw [ef9] at hw
    subst eE9
    exact hp_out B0 hw hS hout hce hcv hcl ⟨Nat.le_of_ble_eq_true rfl, Nat.le_of_ble_eq_true rfl⟩ (⟨rfl, ⟨_, _, hq⟩, hKn.rf⟩)
  · obtain ⟨ef9, hv9⟩ := hP
    rw [ef9] at hw
    exact absurd (hv9.imp And.left And.left) hi

set_option maxHeartbeats 4000000 in
set_option maxRecDepth 100000 in
theorem c_P_pass_A {l : Launch} (hl : l.stackTraces = false) (G : hG) (f : hM) (xo ez eo bu nw0 na0 nq0 nr0 nw1 na1 nq1 nr1 bs bp bh bf bl bg : Nat) (S0 : ES) (S1 : ES) (gw0 : Nat → Int32) (ga0 : Nat → Int32) (gw1 : Nat → Int32) (ga1 : Nat → Int32) (n : Nat) (a : Nat) (cg : Nat) (x : Nat) (sa : Nat → Nat) (pk : Nat → Nat) (fl : Nat → Nat) (gv : Nat → Nat) (gh : Nat → Int32) (gl : Nat → Int32) (hC : CXW G f xo ez eo bu nw0 na0 nq0 nr0 nw1 na1 nq1 nr1 bs bp bh bf bl bg S0 S1 gw0 ga0 gw1 ga1 n a cg x sa pk fl gv gh gl) (hL0 : S0.2.2.2.2.2.2.2.2.length < 3000) (hL1 : S1.2.2.2.2.2.2.2.2.length < 3000) (xv : Int32) (hv : ¬ (1 ≤ xv.toInt ∧ xv.toInt ≤ 50)) : CT l yX4_pass (.code yX4_pass cX4_pass 4 (some .int)) 6 82 1 6 G [.ref xo, .int xv] f (fun v f1 => False) (fun E f1 => E = eA ∧ CXW G f1 xo ez eo bu nw0 na0 nq0 nr0 nw1 na1 nq1 nr1 bs bp bh bf bl bg S0 S1 gw0 ga0 gw1 ga1 n a cg x sa pk fl gv gh gl ∧ hKn [xo, ez, eo, bu, nw0, na0, nq0, nr0, nw1, na1, nq1, nr1, bs, bp, bh, bf, bl, bg] f f1) := by
  refine hp_start hl (own := RX4) (by decide) rfl (Nat.le_of_ble_eq_true rfl) ?_
  intro p e s m args below meth c B0 hr hnm hout hw hS ls hl9
  have hx := B0.1
  have hb := B0.2.1
  have hl9 : lv_has ls 4 [(0, .ref xo), (1, .int xv)] := hl9
  obtain ⟨Q0, Q1, hq⟩ := id hC
  have h1 : f xo = some (.inr (4, [.ref ez, .ref eo, .ref bu])) := hq.1
  have h2 : f ez = some (.inr (1, [.ref nw0, .ref na0, .ref nq0, .ref nr0, .int (num S0.2.2.2.2.2.2.1), .int S0.1, .int S0.2.2.2.1, .int S0.2.2.1, .int S0.2.1, .int S0.2.2.2.2.1, .int S0.2.2.2.2.2.1])) := (hq.2.1).1
  have h3 : f eo = some (.inr (1, [.ref nw1, .ref na1, .ref nq1, .ref nr1, .int (num S1.2.2.2.2.2.2.1), .int S1.1, .int S1.2.2.2.1, .int S1.2.2.1, .int S1.2.1, .int S1.2.2.2.2.1, .int S1.2.2.2.2.2.1])) := (hq.2.2.1).1
  refine lv_iload_n hx hb dX4_pass_0 rfl (lv_at hl9 1 rfl) ?_
  refine lv_iconst (v := 1) hx hb dX4_pass_1 (by decide) ?_
  refine lv_icmp_lt (tgt := 11) hx hb dX4_pass_2 (by decide) (fun c4 => ?_) (fun c4 => ?_)
  · exact hp_throw (cls := eA) (names := tNm) B0 hw hS hout tF_eA qC_X4_35 qN_java_lang_IllegalArgumentException sR_X4_89 tA_eA tB_eA tG_eA hl9.1 dX4_pass_11 dX4_pass_14 dX4_pass_15 dX4_pass_17 dX4_pass_20 ⟨⟨Nat.le_of_ble_eq_true rfl, Nat.le_of_ble_eq_true rfl⟩, Nat.le_of_ble_eq_true rfl, Nat.le_of_ble_eq_true rfl⟩ ⟨Nat.le_of_ble_eq_true rfl, Nat.le_of_ble_eq_true rfl⟩ (⟨rfl, ⟨_, _, hq⟩, hKn.rf⟩)
  · refine lv_iload_n hx hb dX4_pass_5 rfl (lv_at hl9 1 rfl) ?_
    refine lv_bipush (v := 50) hx hb dX4_pass_6 (by decide) ?_
    refine lv_icmp_le (tgt := 21) hx hb dX4_pass_8 (by decide) (fun c9 => absurd c9 (fun h9 => hv (by have h1 := c4; have h2 := h9; simp only [jlt, jle, tq0, tq1, tq3, tq4, tq6, tq9, tq50, tq60, tq1023, tqm1] at h1 h2; exact ⟨by omega, by omega⟩))) (fun _ => ?_)
    exact hp_throw (cls := eA) (names := tNm) B0 hw hS hout tF_eA qC_X4_35 qN_java_lang_IllegalArgumentException sR_X4_89 tA_eA tB_eA tG_eA hl9.1 dX4_pass_11 dX4_pass_14 dX4_pass_15 dX4_pass_17 dX4_pass_20 ⟨⟨Nat.le_of_ble_eq_true rfl, Nat.le_of_ble_eq_true rfl⟩, Nat.le_of_ble_eq_true rfl, Nat.le_of_ble_eq_true rfl⟩ ⟨Nat.le_of_ble_eq_true rfl, Nat.le_of_ble_eq_true rfl⟩ (⟨rfl, ⟨_, _, hq⟩, hKn.rf⟩)

set_option maxHeartbeats 4000000 in
set_option maxRecDepth 100000 in
theorem c_P_pass_ok {l : Launch} (hl : l.stackTraces = false) (G : hG) (f : hM) (xo ez eo bu nw0 na0 nq0 nr0 nw1 na1 nq1 nr1 bs bp bh bf bl bg : Nat) (S0 : ES) (S1 : ES) (gw0 : Nat → Int32) (ga0 : Nat → Int32) (gw1 : Nat → Int32) (ga1 : Nat → Int32) (n : Nat) (a : Nat) (cg : Nat) (x : Nat) (sa : Nat → Nat) (pk : Nat → Nat) (fl : Nat → Nat) (gv : Nat → Nat) (gh : Nat → Int32) (gl : Nat → Int32) (hC : CXW G f xo ez eo bu nw0 na0 nq0 nr0 nw1 na1 nq1 nr1 bs bp bh bf bl bg S0 S1 gw0 ga0 gw1 ga1 n a cg x sa pk fl gv gh gl) (hL0 : S0.2.2.2.2.2.2.2.2.length < 3000) (hL1 : S1.2.2.2.2.2.2.2.2.length < 3000) (T : Nat) (hT1 : 1 ≤ T) (hT2 : T ≤ 50) : CT l yX4_pass (.code yX4_pass cX4_pass 4 (some .int)) 4 77 200 1100 G [.ref xo, .int (nI T)] f (fun v f1 => v = some (.int ((passF T (S0, S1, 0)).2.2)) ∧ CXW G f1 xo ez eo bu nw0 na0 nq0 nr0 nw1 na1 nq1 nr1 bs bp bh bf bl bg ((passF T (S0, S1, 0)).1) ((passF T (S0, S1, 0)).2.1) gw0 ga0 gw1 ga1 n a cg x sa pk fl gv gh gl ∧ hKn [xo, ez, eo, bu, nw0, na0, nq0, nr0, nw1, na1, nq1, nr1, bs, bp, bh, bf, bl, bg] f f1) (fun E f1 => False) := by
  refine hp_start hl (own := RX4) (by decide) rfl (Nat.le_of_ble_eq_true rfl) ?_
  intro p e s m args below meth c B0 hr hnm hout hw hS ls hl9
  have hx := B0.1
  have hb := B0.2.1
  have hl9 : lv_has ls 4 [(0, .ref xo), (1, .int (nI T))] := hl9
  obtain ⟨Q0, Q1, hq⟩ := id hC
  have h1 : f xo = some (.inr (4, [.ref ez, .ref eo, .ref bu])) := hq.1
  have h2 : f ez = some (.inr (1, [.ref nw0, .ref na0, .ref nq0, .ref nr0, .int (num S0.2.2.2.2.2.2.1), .int S0.1, .int S0.2.2.2.1, .int S0.2.2.1, .int S0.2.1, .int S0.2.2.2.2.1, .int S0.2.2.2.2.2.1])) := (hq.2.1).1
  have h3 : f eo = some (.inr (1, [.ref nw1, .ref na1, .ref nq1, .ref nr1, .int (num S1.2.2.2.2.2.2.1), .int S1.1, .int S1.2.2.2.1, .int S1.2.2.1, .int S1.2.1, .int S1.2.2.2.2.1, .int S1.2.2.2.2.2.1])) := (hq.2.2.1).1
  refine lv_iload_n hx hb dX4_pass_0 rfl (lv_at hl9 1 rfl) ?_
  refine lv_iconst (v := 1) hx hb dX4_pass_1 (by decide) ?_
  refine lv_icmp_lt (tgt := 11) hx hb dX4_pass_2 (by decide) (fun c9 => absurd c9 (show ¬ nI T < nI 1 from nI_nlt hT1 (by omega))) (fun _ => ?_)
  refine lv_iload_n hx hb dX4_pass_5 rfl (lv_at hl9 1 rfl) ?_
  refine lv_bipush (v := 50) hx hb dX4_pass_6 (by decide) ?_
  refine lv_icmp_le (tgt := 21) hx hb dX4_pass_8 (by decide) (fun _ => ?_) (fun c9 => absurd (show nI T ≤ nI 50 from nI_le hT2 (by omega)) c9)
  refine lv_iconst (v := 0) hx hb dX4_pass_21 (by decide) ?_
  refine lv_istore_n (lv' := [(2, .int 0), (0, .ref xo), (1, .int (nI T))]) hx hb dX4_pass_22 rfl hl9 (by decide) rfl (fun ls hl9 => ?_)
  refine lv_iconst (v := 0) hx hb dX4_pass_23 (by decide) ?_
  refine lv_istore_n (lv' := [(3, .int 0), (2, .int 0), (0, .ref xo), (1, .int (nI T))]) hx hb dX4_pass_24 rfl hl9 (by decide) rfl (fun ls hl9 => ?_)
  refine hp_cs (c2 := 0 + 0 * 4) (s2 := 0 + 0 * 22) rfl rfl ?_
  refine hp_forC (nL := 4) (pc := 25) (fun j f9 lv9 => ∃ (S2 S3 : ES) (k9 : Int32), passF (T - j) (S2, S3, k9) = passF T (S0, S1, 0) ∧ CXW G f9 xo ez eo bu nw0 na0 nq0 nr0 nw1 na1 nq1 nr1 bs bp bh bf bl bg S2 S3 gw0 ga0 gw1 ga1 n a cg x sa pk fl gv gh gl ∧ hKn [xo, ez, eo, bu, nw0, na0, nq0, nr0, nw1, na1, nq1, nr1, bs, bp, bh, bf, bl, bg] f f9 ∧ S2.2.2.2.2.2.2.2.2.length < 3000 + j ∧ S3.2.2.2.2.2.2.2.2.length < 3000 + j ∧ lv9 = [(3, .int (nI j)), (0, .ref xo), (1, .int (nI T)), (2, .int k9)]) T 0 0 4 22 (fun j f9 lv9 H locs ls hj hI hw hS hl9 ih => ?_) (fun f9 lv9 H locs ls hI hw hS hl9 => ?_) T 0 (Nat.zero_add T) f _ _ _ ls ⟨S0, S1, 0, rfl, hC, hKn.rf, hL0, hL1, rfl⟩ hw hS (lv_sub hl9 [0, 2, 3, 1] rfl)
  · obtain ⟨S2, S3, k9, hp9, ⟨Q0, Q1, hq⟩, hk9, hm0, hm1, el9⟩ := hI
    rw [el9] at hl9
    have h4 : f9 xo = some (.inr (4, [.ref ez, .ref eo, .ref bu])) := hq.1
    have h5 : f9 ez = some (.inr (1, [.ref nw0, .ref na0, .ref nq0, .ref nr0, .int (num S2.2.2.2.2.2.2.1), .int S2.1, .int S2.2.2.2.1, .int S2.2.2.1, .int S2.2.1, .int S2.2.2.2.2.1, .int S2.2.2.2.2.2.1])) := (hq.2.1).1
    have h6 : f9 eo = some (.inr (1, [.ref nw1, .ref na1, .ref nq1, .ref nr1, .int (num S3.2.2.2.2.2.2.1), .int S3.1, .int S3.2.2.2.1, .int S3.2.2.1, .int S3.2.1, .int S3.2.2.2.2.1, .int S3.2.2.2.2.2.1])) := (hq.2.2.1).1
    refine lv_iload_n hx hb dX4_pass_25 rfl (lv_at hl9 0 rfl) ?_
    refine lv_iload_n hx hb dX4_pass_26 rfl (lv_at hl9 2 rfl) ?_
    refine lv_icmp_ge (tgt := 72) hx hb dX4_pass_27 (by decide) (fun c9 => absurd c9 (nI_ge hj (by omega))) (fun _ => ?_)
    refine lv_iload_n hx hb dX4_pass_30 rfl (lv_at hl9 3 rfl) ?_
    refine lv_aload_n hx hb dX4_pass_31 rfl (lv_at hl9 1 rfl) ?_
    refine hp_get B0 hw 4 rfl in_X4 h4 0 (by decide) qF_X4_12 rfl dX4_pass_32 ?_
    refine hp_V (ci := 1) (As := []) (rest := [.int k9]) B0 hw hS (c_X1_tickX hl G f9 ez nw0 na0 nq0 nr0 S2.1 S2.2.1 S2.2.2.1 S2.2.2.2.1 S2.2.2.2.2.1 S2.2.2.2.2.2.1 S2.2.2.2.2.2.2.1 S2.2.2.2.2.2.2.2.1 S2.2.2.2.2.2.2.2.2 Q0 (hq.2.1) (lenT (EX.len (hq.2.1)) hm0 (by omega))) mV_X1_tick qM_X4_91 rfl h5 rfl rfl hl9.1 (Nat.le_of_ble_eq_true rfl) ⟨⟨Nat.le_of_ble_eq_true rfl, Nat.le_of_ble_eq_true rfl⟩, (by first | omega | (dsimp only; omega)), (by first | omega | (dsimp only; omega))⟩ dX4_pass_35 (fun E ce q9 f7 H locs hPX hw hS hce hcv hcl => ?_) (fun v f7 H locs hP hw hS => ?_)
    · exact hPX.elim
    · obtain ⟨ev9, N8, hN10, hE11, hk12⟩ := hP
      have hq13 : CXQ G f7 xo ez eo bu nw0 na0 nq0 nr0 nw1 na1 nq1 nr1 bs bp bh bf bl bg (Q0 ++ N8) Q1 (tickS S2) S3 gw0 ga0 gw1 ga1 n a cg x sa pk fl gv gh gl := CXQ.u0 hq hE11 hk12 (fun c9 h9 => (List.mem_append.mp h9).imp id (hN10 c9))
      have h14 : f7 xo = some (.inr (4, [.ref ez, .ref eo, .ref bu])) := hq13.1
      have h15 : f7 ez = some (.inr (1, [.ref nw0, .ref na0, .ref nq0, .ref nr0, .int (num ((tickS S2).2.2.2.2.2.2.1)), .int ((tickS S2).1), .int ((tickS S2).2.2.2.1), .int ((tickS S2).2.2.1), .int ((tickS S2).2.1), .int ((tickS S2).2.2.2.2.1), .int ((tickS S2).2.2.2.2.2.1)])) := (hq13.2.1).1
      have h16 : f7 eo = some (.inr (1, [.ref nw1, .ref na1, .ref nq1, .ref nr1, .int (num S3.2.2.2.2.2.2.1), .int S3.1, .int S3.2.2.2.1, .int S3.2.2.1, .int S3.2.1, .int S3.2.2.2.2.1, .int S3.2.2.2.2.2.1])) := (hq13.2.2.1).1
      rcases tickV_01 S2 with tv17 | tv17
      · have ev9 : v = some (.int 0) := by rw [ev9]; exact congrArg (fun z9 => some (Value.int z9)) tv17
        subst ev9
        refine W.eq (g2 := F0 m 38 ls [.int 0, .int k9]) rfl ?_
        refine lv_if_eq (tgt := 45) hx hb dX4_pass_38 (by decide) (fun _ => ?_) (fun c9 => absurd (by decide) c9)
        refine lv_iconst (v := 0) hx hb dX4_pass_45 (by decide) ?_
        refine lv_iadd hx hb dX4_pass_46 ?_
        refine hp_c (v := (k9 + (tickV S2))) (by rw [tv17]) ?_
        refine lv_istore_n (lv' := [(2, .int (k9 + (tickV S2))), (3, .int (nI j)), (0, .ref xo), (1, .int (nI T))]) hx hb dX4_pass_47 rfl hl9 (by decide) rfl (fun ls hl9 => ?_)
        refine lv_iload_n hx hb dX4_pass_48 rfl (lv_at hl9 0 rfl) ?_
        refine lv_aload_n hx hb dX4_pass_49 rfl (lv_at hl9 2 rfl) ?_
        refine hp_get B0 hw 4 rfl in_X4 h14 1 (by decide) qF_X4_18 rfl dX4_pass_50 ?_
        refine hp_V (ci := 1) (As := []) (rest := [.int (k9 + (tickV S2))]) B0 hw hS (c_X1_tickX hl G f7 eo nw1 na1 nq1 nr1 S3.1 S3.2.1 S3.2.2.1 S3.2.2.2.1 S3.2.2.2.2.1 S3.2.2.2.2.2.1 S3.2.2.2.2.2.2.1 S3.2.2.2.2.2.2.2.1 S3.2.2.2.2.2.2.2.2 Q1 (hq13.2.2.1) (lenT (EX.len (hq13.2.2.1)) hm1 (by omega))) mV_X1_tick qM_X4_91 rfl h16 rfl rfl hl9.1 (Nat.le_of_ble_eq_true rfl) ⟨⟨Nat.le_of_ble_eq_true rfl, Nat.le_of_ble_eq_true rfl⟩, (by first | omega | (dsimp only; omega)), (by first | omega | (dsimp only; omega))⟩ dX4_pass_53 (fun E ce q9 f18 H locs hPX hw hS hce hcv hcl => ?_) (fun v f18 H locs hP hw hS => ?_)
        · exact hPX.elim
        · obtain ⟨ev9, N19, hN20, hE21, hk22⟩ := hP
          have hq23 : CXQ G f18 xo ez eo bu nw0 na0 nq0 nr0 nw1 na1 nq1 nr1 bs bp bh bf bl bg (Q0 ++ N8) (Q1 ++ N19) (tickS S2) (tickS S3) gw0 ga0 gw1 ga1 n a cg x sa pk fl gv gh gl := CXQ.u1 hq13 hE21 hk22 (fun c9 h9 => (List.mem_append.mp h9).imp id (hN20 c9))
          have h24 : f18 xo = some (.inr (4, [.ref ez, .ref eo, .ref bu])) := hq23.1
          have h25 : f18 ez = some (.inr (1, [.ref nw0, .ref na0, .ref nq0, .ref nr0, .int (num ((tickS S2).2.2.2.2.2.2.1)), .int ((tickS S2).1), .int ((tickS S2).2.2.2.1), .int ((tickS S2).2.2.1), .int ((tickS S2).2.1), .int ((tickS S2).2.2.2.2.1), .int ((tickS S2).2.2.2.2.2.1)])) := (hq23.2.1).1
          have h26 : f18 eo = some (.inr (1, [.ref nw1, .ref na1, .ref nq1, .ref nr1, .int (num ((tickS S3).2.2.2.2.2.2.1)), .int ((tickS S3).1), .int ((tickS S3).2.2.2.1), .int ((tickS S3).2.2.1), .int ((tickS S3).2.1), .int ((tickS S3).2.2.2.2.1), .int ((tickS S3).2.2.2.2.2.1)])) := (hq23.2.2.1).1
          rcases tickV_01 S3 with tv27 | tv27
          · have ev9 : v = some (.int 0) := by rw [ev9]; exact congrArg (fun z9 => some (Value.int z9)) tv27
            subst ev9
            refine W.eq (g2 := F0 m 56 ls [.int 0, .int (k9 + (tickV S2))]) rfl ?_
            refine lv_if_eq (tgt := 63) hx hb dX4_pass_56 (by decide) (fun _ => ?_) (fun c9 => absurd (by decide) c9)
            refine lv_iconst (v := 0) hx hb dX4_pass_63 (by decide) ?_
            refine lv_iadd hx hb dX4_pass_64 ?_
            refine hp_c (v := ((k9 + (tickV S2)) + (tickV S3))) (by rw [tv27]) ?_
            refine lv_istore_n (lv' := [(2, .int ((k9 + (tickV S2)) + (tickV S3))), (3, .int (nI j)), (0, .ref xo), (1, .int (nI T))]) hx hb dX4_pass_65 rfl hl9 (by decide) rfl (fun ls hl9 => ?_)
            refine lv_iinc (v := (nI (j + 1))) (lv' := [(3, .int (nI (j + 1))), (2, .int ((k9 + (tickV S2)) + (tickV S3))), (0, .ref xo), (1, .int (nI T))]) hx hb dX4_pass_66 hl9 (k := 1) rfl (nI_1 j) (by decide) rfl (fun ls hl9 => ?_)
            refine lv_goto (tgt := 25) hx hb dX4_pass_69 (by decide) ?_
            exact hp_cs (by omega) (by omega) (ih _ _ H locs ls ⟨tickS S2, tickS S3, _, (by rw [← hp9, show T - j = (T - (j + 1)) + 1 by omega]; rfl), ⟨_, _, hq23⟩, ((show hKn [xo, ez, eo, bu, nw0, na0, nq0, nr0, nw1, na1, nq1, nr1, bs, bp, bh, bf, bl, bg] f f9 from (hKn.mono hk9 (fun _ h9 => h9))).tr ((show hKn [xo, ez, eo, bu, nw0, na0, nq0, nr0, nw1, na1, nq1, nr1, bs, bp, bh, bf, bl, bg] f9 f7 from (hKn.mono (hK2.n hk12) (sub_cons (List.mem_cons_of_mem _ List.mem_cons_self) (sub_cons (List.mem_cons_of_mem _ (List.mem_cons_of_mem _ (List.mem_cons_of_mem _ (List.mem_cons_of_mem _ (List.mem_cons_of_mem _ (List.mem_cons_of_mem _ List.mem_cons_self)))))) (sub_cons (List.mem_cons_of_mem _ (List.mem_cons_of_mem _ (List.mem_cons_of_mem _ (List.mem_cons_of_mem _ (List.mem_cons_of_mem _ (List.mem_cons_of_mem _ (List.mem_cons_of_mem _ List.mem_cons_self))))))) sub_nil))))).tr (show hKn [xo, ez, eo, bu, nw0, na0, nq0, nr0, nw1, na1, nq1, nr1, bs, bp, bh, bf, bl, bg] f7 f18 from (hKn.mono (hK2.n hk22) (sub_cons (List.mem_cons_of_mem _ (List.mem_cons_of_mem _ List.mem_cons_self)) (sub_cons (List.mem_cons_of_mem _ (List.mem_cons_of_mem _ (List.mem_cons_of_mem _ (List.mem_cons_of_mem _ (List.mem_cons_of_mem _ (List.mem_cons_of_mem _ (List.mem_cons_of_mem _ (List.mem_cons_of_mem _ (List.mem_cons_of_mem _ (List.mem_cons_of_mem _ List.mem_cons_self)))))))))) (sub_cons (List.mem_cons_of_mem _ (List.mem_cons_of_mem _ (List.mem_cons_of_mem _ (List.mem_cons_of_mem _ (List.mem_cons_of_mem _ (List.mem_cons_of_mem _ (List.mem_cons_of_mem _ (List.mem_cons_of_mem _ (List.mem_cons_of_mem _ (List.mem_cons_of_mem _ (List.mem_cons_of_mem _ List.mem_cons_self))))))))))) sub_nil))))))), Nat.lt_of_le_of_lt (tickS_len S2) (by omega), Nat.lt_of_le_of_lt (tickS_len S3) (by omega), rfl⟩ hw hS (lv_sub hl9 [0, 2, 3, 1] rfl))
          · have ev9 : v = some (.int 1) := by rw [ev9]; exact congrArg (fun z9 => some (Value.int z9)) tv27
            subst ev9
            refine W.eq (g2 := F0 m 56 ls [.int 1, .int (k9 + (tickV S2))]) rfl ?_
            refine lv_if_eq (tgt := 63) hx hb dX4_pass_56 (by decide) (fun c9 => absurd c9 (by decide)) (fun _ => ?_)
            refine lv_iconst (v := 1) hx hb dX4_pass_59 (by decide) ?_
            refine lv_goto (tgt := 64) hx hb dX4_pass_60 (by decide) ?_
            refine lv_iadd hx hb dX4_pass_64 ?_
            refine hp_c (v := ((k9 + (tickV S2)) + (tickV S3))) (by rw [tv27]) ?_
            refine lv_istore_n (lv' := [(2, .int ((k9 + (tickV S2)) + (tickV S3))), (3, .int (nI j)), (0, .ref xo), (1, .int (nI T))]) hx hb dX4_pass_65 rfl hl9 (by decide) rfl (fun ls hl9 => ?_)
            refine lv_iinc (v := (nI (j + 1))) (lv' := [(3, .int (nI (j + 1))), (2, .int ((k9 + (tickV S2)) + (tickV S3))), (0, .ref xo), (1, .int (nI T))]) hx hb dX4_pass_66 hl9 (k := 1) rfl (nI_1 j) (by decide) rfl (fun ls hl9 => ?_)
            refine lv_goto (tgt := 25) hx hb dX4_pass_69 (by decide) ?_
            exact hp_cs (by omega) (by omega) (ih _ _ H locs ls ⟨tickS S2, tickS S3, _, (by rw [← hp9, show T - j = (T - (j + 1)) + 1 by omega]; rfl), ⟨_, _, hq23⟩, ((show hKn [xo, ez, eo, bu, nw0, na0, nq0, nr0, nw1, na1, nq1, nr1, bs, bp, bh, bf, bl, bg] f f9 from (hKn.mono hk9 (fun _ h9 => h9))).tr ((show hKn [xo, ez, eo, bu, nw0, na0, nq0, nr0, nw1, na1, nq1, nr1, bs, bp, bh, bf, bl, bg] f9 f7 from (hKn.mono (hK2.n hk12) (sub_cons (List.mem_cons_of_mem _ List.mem_cons_self) (sub_cons (List.mem_cons_of_mem _ (List.mem_cons_of_mem _ (List.mem_cons_of_mem _ (List.mem_cons_of_mem _ (List.mem_cons_of_mem _ (List.mem_cons_of_mem _ List.mem_cons_self)))))) (sub_cons (List.mem_cons_of_mem _ (List.mem_cons_of_mem _ (List.mem_cons_of_mem _ (List.mem_cons_of_mem _ (List.mem_cons_of_mem _ (List.mem_cons_of_mem _ (List.mem_cons_of_mem _ List.mem_cons_self))))))) sub_nil))))).tr (show hKn [xo, ez, eo, bu, nw0, na0, nq0, nr0, nw1, na1, nq1, nr1, bs, bp, bh, bf, bl, bg] f7 f18 from (hKn.mono (hK2.n hk22) (sub_cons (List.mem_cons_of_mem _ (List.mem_cons_of_mem _ List.mem_cons_self)) (sub_cons (List.mem_cons_of_mem _ (List.mem_cons_of_mem _ (List.mem_cons_of_mem _ (List.mem_cons_of_mem _ (List.mem_cons_of_mem _ (List.mem_cons_of_mem _ (List.mem_cons_of_mem _ (List.mem_cons_of_mem _ (List.mem_cons_of_mem _ (List.mem_cons_of_mem _ List.mem_cons_self)))))))))) (sub_cons (List.mem_cons_of_mem _ (List.mem_cons_of_mem _ (List.mem_cons_of_mem _ (List.mem_cons_of_mem _ (List.mem_cons_of_mem _ (List.mem_cons_of_mem _ (List.mem_cons_of_mem _ (List.mem_cons_of_mem _ (List.mem_cons_of_mem _ (List.mem_cons_of_mem _ (List.mem_cons_of_mem _ List.mem_cons_self))))))))))) sub_nil))))))), Nat.lt_of_le_of_lt (tickS_len S2) (by omega), Nat.lt_of_le_of_lt (tickS_len S3) (by omega), rfl⟩ hw hS (lv_sub hl9 [0, 2, 3, 1] rfl))
      · have ev9 : v = some (.int 1) := by rw [ev9]; exact congrArg (fun z9 => some (Value.int z9)) tv17
        subst ev9
        refine W.eq (g2 := F0 m 38 ls [.int 1, .int k9]) rfl ?_
        refine lv_if_eq (tgt := 45) hx hb dX4_pass_38 (by decide) (fun c9 => absurd c9 (by decide)) (fun _ => ?_)
        refine lv_iconst (v := 1) hx hb dX4_pass_41 (by decide) ?_
        refine lv_goto (tgt := 46) hx hb dX4_pass_42 (by decide) ?_
        refine lv_iadd hx hb dX4_pass_46 ?_
        refine hp_c (v := (k9 + (tickV S2))) (by rw [tv17]) ?_
        refine lv_istore_n (lv' := [(2, .int (k9 + (tickV S2))), (3, .int (nI j)), (0, .ref xo), (1, .int (nI T))]) hx hb dX4_pass_47 rfl hl9 (by decide) rfl (fun ls hl9 => ?_)
        refine lv_iload_n hx hb dX4_pass_48 rfl (lv_at hl9 0 rfl) ?_
        refine lv_aload_n hx hb dX4_pass_49 rfl (lv_at hl9 2 rfl) ?_
        refine hp_get B0 hw 4 rfl in_X4 h14 1 (by decide) qF_X4_18 rfl dX4_pass_50 ?_
        refine hp_V (ci := 1) (As := []) (rest := [.int (k9 + (tickV S2))]) B0 hw hS (c_X1_tickX hl G f7 eo nw1 na1 nq1 nr1 S3.1 S3.2.1 S3.2.2.1 S3.2.2.2.1 S3.2.2.2.2.1 S3.2.2.2.2.2.1 S3.2.2.2.2.2.2.1 S3.2.2.2.2.2.2.2.1 S3.2.2.2.2.2.2.2.2 Q1 (hq13.2.2.1) (lenT (EX.len (hq13.2.2.1)) hm1 (by omega))) mV_X1_tick qM_X4_91 rfl h16 rfl rfl hl9.1 (Nat.le_of_ble_eq_true rfl) ⟨⟨Nat.le_of_ble_eq_true rfl, Nat.le_of_ble_eq_true rfl⟩, (by first | omega | (dsimp only; omega)), (by first | omega | (dsimp only; omega))⟩ dX4_pass_53 (fun E ce q9 f28 H locs hPX hw hS hce hcv hcl => ?_) (fun v f28 H locs hP hw hS => ?_)
        · exact hPX.elim
        · obtain ⟨ev9, N29, hN30, hE31, hk32⟩ := hP
          have hq33 : CXQ G f28 xo ez eo bu nw0 na0 nq0 nr0 nw1 na1 nq1 nr1 bs bp bh bf bl bg (Q0 ++ N8) (Q1 ++ N29) (tickS S2) (tickS S3) gw0 ga0 gw1 ga1 n a cg x sa pk fl gv gh gl := CXQ.u1 hq13 hE31 hk32 (fun c9 h9 => (List.mem_append.mp h9).imp id (hN30 c9))
          have h34 : f28 xo = some (.inr (4, [.ref ez, .ref eo, .ref bu])) := hq33.1
          have h35 : f28 ez = some (.inr (1, [.ref nw0, .ref na0, .ref nq0, .ref nr0, .int (num ((tickS S2).2.2.2.2.2.2.1)), .int ((tickS S2).1), .int ((tickS S2).2.2.2.1), .int ((tickS S2).2.2.1), .int ((tickS S2).2.1), .int ((tickS S2).2.2.2.2.1), .int ((tickS S2).2.2.2.2.2.1)])) := (hq33.2.1).1
          have h36 : f28 eo = some (.inr (1, [.ref nw1, .ref na1, .ref nq1, .ref nr1, .int (num ((tickS S3).2.2.2.2.2.2.1)), .int ((tickS S3).1), .int ((tickS S3).2.2.2.1), .int ((tickS S3).2.2.1), .int ((tickS S3).2.1), .int ((tickS S3).2.2.2.2.1), .int ((tickS S3).2.2.2.2.2.1)])) := (hq33.2.2.1).1
          rcases tickV_01 S3 with tv37 | tv37
          · have ev9 : v = some (.int 0) := by rw [ev9]; exact congrArg (fun z9 => some (Value.int z9)) tv37
            subst ev9
            refine W.eq (g2 := F0 m 56 ls [.int 0, .int (k9 + (tickV S2))]) rfl ?_
            refine lv_if_eq (tgt := 63) hx hb dX4_pass_56 (by decide) (fun _ => ?_) (fun c9 => absurd (by decide) c9)
            refine lv_iconst (v := 0) hx hb dX4_pass_63 (by decide) ?_
            refine lv_iadd hx hb dX4_pass_64 ?_
            refine hp_c (v := ((k9 + (tickV S2)) + (tickV S3))) (by rw [tv37]) ?_
            refine lv_istore_n (lv' := [(2, .int ((k9 + (tickV S2)) + (tickV S3))), (3, .int (nI j)), (0, .ref xo), (1, .int (nI T))]) hx hb dX4_pass_65 rfl hl9 (by decide) rfl (fun ls hl9 => ?_)
            refine lv_iinc (v := (nI (j + 1))) (lv' := [(3, .int (nI (j + 1))), (2, .int ((k9 + (tickV S2)) + (tickV S3))), (0, .ref xo), (1, .int (nI T))]) hx hb dX4_pass_66 hl9 (k := 1) rfl (nI_1 j) (by decide) rfl (fun ls hl9 => ?_)
            refine lv_goto (tgt := 25) hx hb dX4_pass_69 (by decide) ?_
            exact hp_cs (by omega) (by omega) (ih _ _ H locs ls ⟨tickS S2, tickS S3, _, (by rw [← hp9, show T - j = (T - (j + 1)) + 1 by omega]; rfl), ⟨_, _, hq33⟩, ((show hKn [xo, ez, eo, bu, nw0, na0, nq0, nr0, nw1, na1, nq1, nr1, bs, bp, bh, bf, bl, bg] f f9 from (hKn.mono hk9 (fun _ h9 => h9))).tr ((show hKn [xo, ez, eo, bu, nw0, na0, nq0, nr0, nw1, na1, nq1, nr1, bs, bp, bh, bf, bl, bg] f9 f7 from (hKn.mono (hK2.n hk12) (sub_cons (List.mem_cons_of_mem _ List.mem_cons_self) (sub_cons (List.mem_cons_of_mem _ (List.mem_cons_of_mem _ (List.mem_cons_of_mem _ (List.mem_cons_of_mem _ (List.mem_cons_of_mem _ (List.mem_cons_of_mem _ List.mem_cons_self)))))) (sub_cons (List.mem_cons_of_mem _ (List.mem_cons_of_mem _ (List.mem_cons_of_mem _ (List.mem_cons_of_mem _ (List.mem_cons_of_mem _ (List.mem_cons_of_mem _ (List.mem_cons_of_mem _ List.mem_cons_self))))))) sub_nil))))).tr (show hKn [xo, ez, eo, bu, nw0, na0, nq0, nr0, nw1, na1, nq1, nr1, bs, bp, bh, bf, bl, bg] f7 f28 from (hKn.mono (hK2.n hk32) (sub_cons (List.mem_cons_of_mem _ (List.mem_cons_of_mem _ List.mem_cons_self)) (sub_cons (List.mem_cons_of_mem _ (List.mem_cons_of_mem _ (List.mem_cons_of_mem _ (List.mem_cons_of_mem _ (List.mem_cons_of_mem _ (List.mem_cons_of_mem _ (List.mem_cons_of_mem _ (List.mem_cons_of_mem _ (List.mem_cons_of_mem _ (List.mem_cons_of_mem _ List.mem_cons_self)))))))))) (sub_cons (List.mem_cons_of_mem _ (List.mem_cons_of_mem _ (List.mem_cons_of_mem _ (List.mem_cons_of_mem _ (List.mem_cons_of_mem _ (List.mem_cons_of_mem _ (List.mem_cons_of_mem _ (List.mem_cons_of_mem _ (List.mem_cons_of_mem _ (List.mem_cons_of_mem _ (List.mem_cons_of_mem _ List.mem_cons_self))))))))))) sub_nil))))))), Nat.lt_of_le_of_lt (tickS_len S2) (by omega), Nat.lt_of_le_of_lt (tickS_len S3) (by omega), rfl⟩ hw hS (lv_sub hl9 [0, 2, 3, 1] rfl))
          · have ev9 : v = some (.int 1) := by rw [ev9]; exact congrArg (fun z9 => some (Value.int z9)) tv37
            subst ev9
            refine W.eq (g2 := F0 m 56 ls [.int 1, .int (k9 + (tickV S2))]) rfl ?_
            refine lv_if_eq (tgt := 63) hx hb dX4_pass_56 (by decide) (fun c9 => absurd c9 (by decide)) (fun _ => ?_)
            refine lv_iconst (v := 1) hx hb dX4_pass_59 (by decide) ?_
            refine lv_goto (tgt := 64) hx hb dX4_pass_60 (by decide) ?_
            refine lv_iadd hx hb dX4_pass_64 ?_
            refine hp_c (v := ((k9 + (tickV S2)) + (tickV S3))) (by rw [tv37]) ?_
            refine lv_istore_n (lv' := [(2, .int ((k9 + (tickV S2)) + (tickV S3))), (3, .int (nI j)), (0, .ref xo), (1, .int (nI T))]) hx hb dX4_pass_65 rfl hl9 (by decide) rfl (fun ls hl9 => ?_)
            refine lv_iinc (v := (nI (j + 1))) (lv' := [(3, .int (nI (j + 1))), (2, .int ((k9 + (tickV S2)) + (tickV S3))), (0, .ref xo), (1, .int (nI T))]) hx hb dX4_pass_66 hl9 (k := 1) rfl (nI_1 j) (by decide) rfl (fun ls hl9 => ?_)
            refine lv_goto (tgt := 25) hx hb dX4_pass_69 (by decide) ?_
            exact hp_cs (by omega) (by omega) (ih _ _ H locs ls ⟨tickS S2, tickS S3, _, (by rw [← hp9, show T - j = (T - (j + 1)) + 1 by omega]; rfl), ⟨_, _, hq33⟩, ((show hKn [xo, ez, eo, bu, nw0, na0, nq0, nr0, nw1, na1, nq1, nr1, bs, bp, bh, bf, bl, bg] f f9 from (hKn.mono hk9 (fun _ h9 => h9))).tr ((show hKn [xo, ez, eo, bu, nw0, na0, nq0, nr0, nw1, na1, nq1, nr1, bs, bp, bh, bf, bl, bg] f9 f7 from (hKn.mono (hK2.n hk12) (sub_cons (List.mem_cons_of_mem _ List.mem_cons_self) (sub_cons (List.mem_cons_of_mem _ (List.mem_cons_of_mem _ (List.mem_cons_of_mem _ (List.mem_cons_of_mem _ (List.mem_cons_of_mem _ (List.mem_cons_of_mem _ List.mem_cons_self)))))) (sub_cons (List.mem_cons_of_mem _ (List.mem_cons_of_mem _ (List.mem_cons_of_mem _ (List.mem_cons_of_mem _ (List.mem_cons_of_mem _ (List.mem_cons_of_mem _ (List.mem_cons_of_mem _ List.mem_cons_self))))))) sub_nil))))).tr (show hKn [xo, ez, eo, bu, nw0, na0, nq0, nr0, nw1, na1, nq1, nr1, bs, bp, bh, bf, bl, bg] f7 f28 from (hKn.mono (hK2.n hk32) (sub_cons (List.mem_cons_of_mem _ (List.mem_cons_of_mem _ List.mem_cons_self)) (sub_cons (List.mem_cons_of_mem _ (List.mem_cons_of_mem _ (List.mem_cons_of_mem _ (List.mem_cons_of_mem _ (List.mem_cons_of_mem _ (List.mem_cons_of_mem _ (List.mem_cons_of_mem _ (List.mem_cons_of_mem _ (List.mem_cons_of_mem _ (List.mem_cons_of_mem _ List.mem_cons_self)))))))))) (sub_cons (List.mem_cons_of_mem _ (List.mem_cons_of_mem _ (List.mem_cons_of_mem _ (List.mem_cons_of_mem _ (List.mem_cons_of_mem _ (List.mem_cons_of_mem _ (List.mem_cons_of_mem _ (List.mem_cons_of_mem _ (List.mem_cons_of_mem _ (List.mem_cons_of_mem _ (List.mem_cons_of_mem _ List.mem_cons_self))))))))))) sub_nil))))))), Nat.lt_of_le_of_lt (tickS_len S2) (by omega), Nat.lt_of_le_of_lt (tickS_len S3) (by omega), rfl⟩ hw hS (lv_sub hl9 [0, 2, 3, 1] rfl))
  · obtain ⟨S2, S3, k9, hp9, ⟨Q0, Q1, hq⟩, hk9, hm0, hm1, el9⟩ := hI
    rw [el9] at hl9
    have h38 : f9 xo = some (.inr (4, [.ref ez, .ref eo, .ref bu])) := hq.1
    have h39 : f9 ez = some (.inr (1, [.ref nw0, .ref na0, .ref nq0, .ref nr0, .int (num S2.2.2.2.2.2.2.1), .int S2.1, .int S2.2.2.2.1, .int S2.2.2.1, .int S2.2.1, .int S2.2.2.2.2.1, .int S2.2.2.2.2.2.1])) := (hq.2.1).1
    have h40 : f9 eo = some (.inr (1, [.ref nw1, .ref na1, .ref nq1, .ref nr1, .int (num S3.2.2.2.2.2.2.1), .int S3.1, .int S3.2.2.2.1, .int S3.2.2.1, .int S3.2.1, .int S3.2.2.2.2.1, .int S3.2.2.2.2.2.1])) := (hq.2.2.1).1
    refine lv_iload_n hx hb dX4_pass_25 rfl (lv_at hl9 0 rfl) ?_
    refine lv_iload_n hx hb dX4_pass_26 rfl (lv_at hl9 2 rfl) ?_
    refine lv_icmp_ge (tgt := 72) hx hb dX4_pass_27 (by decide) (fun _ => ?_) (fun c9 => absurd (nI_le (Nat.le_refl _) (by omega)) c9)
    refine lv_iload_n hx hb dX4_pass_72 rfl (lv_at hl9 3 rfl) ?_
    rw [Nat.sub_self] at hp9
    exact hp_iret (v := k9) B0 hw hS hr ⟨(by first | omega | (dsimp only; omega)), (by first | omega | (dsimp only; omega))⟩ dX4_pass_73 (⟨(by rw [← hp9]; rfl), (by rw [← hp9]; exact ⟨_, _, hq⟩), hk9⟩)

set_option maxHeartbeats 4000000 in
set_option maxRecDepth 100000 in
theorem c_P_send_ok {l : Launch} (hl : l.stackTraces = false) (G : hG) (f : hM) (xo ez eo bu nw0 na0 nq0 nr0 nw1 na1 nq1 nr1 bs bp bh bf bl bg : Nat) (S0 : ES) (S1 : ES) (gw0 : Nat → Int32) (ga0 : Nat → Int32) (gw1 : Nat → Int32) (ga1 : Nat → Int32) (n : Nat) (a : Nat) (cg : Nat) (x : Nat) (sa : Nat → Nat) (pk : Nat → Nat) (fl : Nat → Nat) (gv : Nat → Nat) (gh : Nat → Int32) (gl : Nat → Int32) (hC : CXW G f xo ez eo bu nw0 na0 nq0 nr0 nw1 na1 nq1 nr1 bs bp bh bf bl bg S0 S1 gw0 ga0 gw1 ga1 n a cg x sa pk fl gv gh gl) (hL0 : S0.2.2.2.2.2.2.2.2.length < 3000) (hL1 : S1.2.2.2.2.2.2.2.2.length < 3000) (k : Nat) (hk1 : 1 ≤ k) (hk4 : k ≤ 4) (hn : n < 60) : CT l yX4_send (.code yX4_send cX4_send 2 (some .int)) 1 23 0 0 G [.ref xo, .int (nI k)] f (fun v f1 => v = some (.int (nI a)) ∧ CXW G f1 xo ez eo bu nw0 na0 nq0 nr0 nw1 na1 nq1 nr1 bs bp bh bf bl bg S0 S1 gw0 ga0 gw1 ga1 (n + 1) (a + k) cg x (va_up sa (n + 1) (a + k)) (pkA pk n a k) fl gv gh gl ∧ hKn [xo, ez, eo, bu, nw0, na0, nq0, nr0, nw1, na1, nq1, nr1, bs, bp, bh, bf, bl, bg] f f1) (fun E f1 => False) := by
  refine hp_start hl (own := RX4) (by decide) rfl (Nat.le_of_ble_eq_true rfl) ?_
  intro p e s m args below meth c B0 hr hnm hout hw hS ls hl9
  have hx := B0.1
  have hb := B0.2.1
  have hl9 : lv_has ls 2 [(0, .ref xo), (1, .int (nI k))] := hl9
  obtain ⟨Q0, Q1, hq⟩ := id hC
  have h1 : f xo = some (.inr (4, [.ref ez, .ref eo, .ref bu])) := hq.1
  have h2 : f ez = some (.inr (1, [.ref nw0, .ref na0, .ref nq0, .ref nr0, .int (num S0.2.2.2.2.2.2.1), .int S0.1, .int S0.2.2.2.1, .int S0.2.2.1, .int S0.2.1, .int S0.2.2.2.2.1, .int S0.2.2.2.2.2.1])) := (hq.2.1).1
  have h3 : f eo = some (.inr (1, [.ref nw1, .ref na1, .ref nq1, .ref nr1, .int (num S1.2.2.2.2.2.2.1), .int S1.1, .int S1.2.2.2.1, .int S1.2.2.1, .int S1.2.1, .int S1.2.2.2.2.1, .int S1.2.2.2.2.2.1])) := (hq.2.2.1).1
  have h4 : f bu = some (.inr (0, [.ref bs, .ref bp, .ref bh, .ref bf, .ref bl, .ref bg, .int (nI n), .int (nI cg), .int (nI x)])) := hq.2.2.2.2.2.2.2.1
  refine lv_iload_n hx hb dX4_send_0 rfl (lv_at hl9 1 rfl) ?_
  refine lv_iconst (v := 1) hx hb dX4_send_1 (by decide) ?_
  refine lv_icmp_lt (tgt := 10) hx hb dX4_send_2 (by decide) (fun c9 => absurd c9 (show ¬ nI k < nI 1 from nI_nlt hk1 (by omega))) (fun _ => ?_)
  refine lv_iload_n hx hb dX4_send_5 rfl (lv_at hl9 1 rfl) ?_
  refine lv_iconst (v := 4) hx hb dX4_send_6 (by decide) ?_
  refine lv_icmp_le (tgt := 20) hx hb dX4_send_7 (by decide) (fun _ => ?_) (fun c9 => absurd (show nI k ≤ nI 4 from nI_le hk4 (by omega)) c9)
  refine lv_aload_n hx hb dX4_send_20 rfl (lv_at hl9 0 rfl) ?_
  refine hp_get B0 hw 4 rfl in_X4 h1 2 (by decide) qF_X4_24 rfl dX4_send_21 ?_
  refine hp_getN B0 hw 0 rfl in_X0 h4 6 (by decide) oF_X4_117 rfl dX4_send_24 ?_
  refine lv_bipush (v := 60) hx hb dX4_send_27 (by decide) ?_
  refine lv_icmp_lt (tgt := 42) hx hb dX4_send_29 (by decide) (fun _ => ?_) (fun c9 => absurd (show nI n < nI 60 from nI_lt hn (by omega)) c9)
  refine lv_aload_n hx hb dX4_send_42 rfl (lv_at hl9 0 rfl) ?_
  refine hp_get B0 hw 4 rfl in_X4 h1 2 (by decide) qF_X4_24 rfl dX4_send_43 ?_
  refine lv_iload_n hx hb dX4_send_46 rfl (lv_at hl9 1 rfl) ?_
  have h5 : f bs = some (.inl (cI G, 61, .inl (nf sa))) := hq.2.2.2.2.2.2.2.2.1
  have h6 : f bp = some (.inl (cI G, 240, .inl (nf pk))) := hq.2.2.2.2.2.2.2.2.2.1
  refine hp_V (ci := 0) (As := [.int (nI k)]) (rest := []) B0 hw hS (c_X0_addPacket hl G f bu bs bp bh bf bl bg n a cg x sa pk fl gv gh gl h4 h5 h6  (hq.2.2.2.2.2.2.2.2.2.2.2.2.2.2.1) hn k hk1 hk4) mV_X0_addPacket qM_X4_122 rfl h4 rfl rfl hl9.1 (Nat.le_of_ble_eq_true rfl) ⟨⟨Nat.le_of_ble_eq_true rfl, Nat.le_of_ble_eq_true rfl⟩, Nat.le_of_ble_eq_true rfl, Nat.le_of_ble_eq_true rfl⟩ dX4_send_47 (fun E ce q9 f7 H locs hPX hw hS hce hcv hcl => ?_) (fun v f7 H locs hP hw hS => ?_)
  · exact hPX.elim
  · obtain ⟨ev9, h8, h10, h11, k12⟩ := hP
    subst ev9
    have hq13 : CXQ G f7 xo ez eo bu nw0 na0 nq0 nr0 nw1 na1 nq1 nr1 bs bp bh bf bl bg Q0 Q1 S0 S1 gw0 ga0 gw1 ga1 (n + 1) (a + k) cg x (va_up sa (n + 1) (a + k)) (pkA pk n a k) fl gv gh gl := CXQ.s hq (show hK2 [bu, bp, bs] [] f f7 from ((hK2.of k12 (fun b9 hb9 => by
        simp only [List.mem_cons, List.not_mem_nil, or_false] at hb9
        rcases hb9 with hb9 | hb9 | hb9
        · rw [hb9]; exact ⟨_, h8⟩
        · rw [hb9]; exact ⟨_, h10⟩
        · rw [hb9]; exact ⟨_, h11⟩)).mono (fun _ h9 => h9))) h8 h10 h11 ((hq.2.2.2.2.2.2.2.2.2.2.2.2.2.2.1).add hn hk1 hk4) (hq.2.2.2.2.2.2.2.2.2.2.2.2.2.2.2.1)
    have h14 : f7 xo = some (.inr (4, [.ref ez, .ref eo, .ref bu])) := hq13.1
    have h15 : f7 ez = some (.inr (1, [.ref nw0, .ref na0, .ref nq0, .ref nr0, .int (num S0.2.2.2.2.2.2.1), .int S0.1, .int S0.2.2.2.1, .int S0.2.2.1, .int S0.2.1, .int S0.2.2.2.2.1, .int S0.2.2.2.2.2.1])) := (hq13.2.1).1
    have h16 : f7 eo = some (.inr (1, [.ref nw1, .ref na1, .ref nq1, .ref nr1, .int (num S1.2.2.2.2.2.2.1), .int S1.1, .int S1.2.2.2.1, .int S1.2.2.1, .int S1.2.1, .int S1.2.2.2.2.1, .int S1.2.2.2.2.2.1])) := (hq13.2.2.1).1
    refine W.eq (g2 := F0 m 50 ls [.int (nI a)]) rfl ?_
    exact hp_iret (v := (nI a)) B0 hw hS hr ⟨Nat.le_of_ble_eq_true rfl, Nat.le_of_ble_eq_true rfl⟩ dX4_send_50 (⟨rfl, ⟨_, _, hq13⟩, (show hKn [xo, ez, eo, bu, nw0, na0, nq0, nr0, nw1, na1, nq1, nr1, bs, bp, bh, bf, bl, bg] f f7 from (hKn.mono (hKn.eq k12) (sub_cons (List.mem_cons_of_mem _ (List.mem_cons_of_mem _ (List.mem_cons_of_mem _ List.mem_cons_self))) (sub_cons (List.mem_cons_of_mem _ (List.mem_cons_of_mem _ (List.mem_cons_of_mem _ (List.mem_cons_of_mem _ (List.mem_cons_of_mem _ (List.mem_cons_of_mem _ (List.mem_cons_of_mem _ (List.mem_cons_of_mem _ (List.mem_cons_of_mem _ (List.mem_cons_of_mem _ (List.mem_cons_of_mem _ (List.mem_cons_of_mem _ (List.mem_cons_of_mem _ List.mem_cons_self))))))))))))) (sub_cons (List.mem_cons_of_mem _ (List.mem_cons_of_mem _ (List.mem_cons_of_mem _ (List.mem_cons_of_mem _ (List.mem_cons_of_mem _ (List.mem_cons_of_mem _ (List.mem_cons_of_mem _ (List.mem_cons_of_mem _ (List.mem_cons_of_mem _ (List.mem_cons_of_mem _ (List.mem_cons_of_mem _ (List.mem_cons_of_mem _ List.mem_cons_self)))))))))))) sub_nil)))))⟩)

set_option maxHeartbeats 4000000 in
set_option maxRecDepth 100000 in
theorem c_P_send_A {l : Launch} (hl : l.stackTraces = false) (G : hG) (f : hM) (xo ez eo bu nw0 na0 nq0 nr0 nw1 na1 nq1 nr1 bs bp bh bf bl bg : Nat) (S0 : ES) (S1 : ES) (gw0 : Nat → Int32) (ga0 : Nat → Int32) (gw1 : Nat → Int32) (ga1 : Nat → Int32) (n : Nat) (a : Nat) (cg : Nat) (x : Nat) (sa : Nat → Nat) (pk : Nat → Nat) (fl : Nat → Nat) (gv : Nat → Nat) (gh : Nat → Int32) (gl : Nat → Int32) (hC : CXW G f xo ez eo bu nw0 na0 nq0 nr0 nw1 na1 nq1 nr1 bs bp bh bf bl bg S0 S1 gw0 ga0 gw1 ga1 n a cg x sa pk fl gv gh gl) (hL0 : S0.2.2.2.2.2.2.2.2.length < 3000) (hL1 : S1.2.2.2.2.2.2.2.2.length < 3000) (xv : Int32) (hv : ¬ (1 ≤ xv.toInt ∧ xv.toInt ≤ 4)) : CT l yX4_send (.code yX4_send cX4_send 2 (some .int)) 6 82 1 6 G [.ref xo, .int xv] f (fun v f1 => False) (fun E f1 => E = eA ∧ CXW G f1 xo ez eo bu nw0 na0 nq0 nr0 nw1 na1 nq1 nr1 bs bp bh bf bl bg S0 S1 gw0 ga0 gw1 ga1 n a cg x sa pk fl gv gh gl ∧ hKn [xo, ez, eo, bu, nw0, na0, nq0, nr0, nw1, na1, nq1, nr1, bs, bp, bh, bf, bl, bg] f f1) := by
  refine hp_start hl (own := RX4) (by decide) rfl (Nat.le_of_ble_eq_true rfl) ?_
  intro p e s m args below meth c B0 hr hnm hout hw hS ls hl9
  have hx := B0.1
  have hb := B0.2.1
  have hl9 : lv_has ls 2 [(0, .ref xo), (1, .int xv)] := hl9
  obtain ⟨Q0, Q1, hq⟩ := id hC
  have h1 : f xo = some (.inr (4, [.ref ez, .ref eo, .ref bu])) := hq.1
  have h2 : f ez = some (.inr (1, [.ref nw0, .ref na0, .ref nq0, .ref nr0, .int (num S0.2.2.2.2.2.2.1), .int S0.1, .int S0.2.2.2.1, .int S0.2.2.1, .int S0.2.1, .int S0.2.2.2.2.1, .int S0.2.2.2.2.2.1])) := (hq.2.1).1
  have h3 : f eo = some (.inr (1, [.ref nw1, .ref na1, .ref nq1, .ref nr1, .int (num S1.2.2.2.2.2.2.1), .int S1.1, .int S1.2.2.2.1, .int S1.2.2.1, .int S1.2.1, .int S1.2.2.2.2.1, .int S1.2.2.2.2.2.1])) := (hq.2.2.1).1
  refine lv_iload_n hx hb dX4_send_0 rfl (lv_at hl9 1 rfl) ?_
  refine lv_iconst (v := 1) hx hb dX4_send_1 (by decide) ?_
  refine lv_icmp_lt (tgt := 10) hx hb dX4_send_2 (by decide) (fun c4 => ?_) (fun c4 => ?_)
  · exact hp_throw (cls := eA) (names := tNm) B0 hw hS hout tF_eA qC_X4_35 qN_java_lang_IllegalArgumentException sR_X4_115 tA_eA tB_eA tG_eA hl9.1 dX4_send_10 dX4_send_13 dX4_send_14 dX4_send_16 dX4_send_19 ⟨⟨Nat.le_of_ble_eq_true rfl, Nat.le_of_ble_eq_true rfl⟩, Nat.le_of_ble_eq_true rfl, Nat.le_of_ble_eq_true rfl⟩ ⟨Nat.le_of_ble_eq_true rfl, Nat.le_of_ble_eq_true rfl⟩ (⟨rfl, ⟨_, _, hq⟩, hKn.rf⟩)
  · refine lv_iload_n hx hb dX4_send_5 rfl (lv_at hl9 1 rfl) ?_
    refine lv_iconst (v := 4) hx hb dX4_send_6 (by decide) ?_
    refine lv_icmp_le (tgt := 20) hx hb dX4_send_7 (by decide) (fun c9 => absurd c9 (fun h9 => hv (by have h1 := c4; have h2 := h9; simp only [jlt, jle, tq0, tq1, tq3, tq4, tq6, tq9, tq50, tq60, tq1023, tqm1] at h1 h2; exact ⟨by omega, by omega⟩))) (fun _ => ?_)
    exact hp_throw (cls := eA) (names := tNm) B0 hw hS hout tF_eA qC_X4_35 qN_java_lang_IllegalArgumentException sR_X4_115 tA_eA tB_eA tG_eA hl9.1 dX4_send_10 dX4_send_13 dX4_send_14 dX4_send_16 dX4_send_19 ⟨⟨Nat.le_of_ble_eq_true rfl, Nat.le_of_ble_eq_true rfl⟩, Nat.le_of_ble_eq_true rfl, Nat.le_of_ble_eq_true rfl⟩ ⟨Nat.le_of_ble_eq_true rfl, Nat.le_of_ble_eq_true rfl⟩ (⟨rfl, ⟨_, _, hq⟩, hKn.rf⟩)

set_option maxHeartbeats 4000000 in
set_option maxRecDepth 100000 in
theorem c_P_refuse_ok {l : Launch} (hl : l.stackTraces = false) (G : hG) (f : hM) (xo ez eo bu nw0 na0 nq0 nr0 nw1 na1 nq1 nr1 bs bp bh bf bl bg : Nat) (S0 : ES) (S1 : ES) (gw0 : Nat → Int32) (ga0 : Nat → Int32) (gw1 : Nat → Int32) (ga1 : Nat → Int32) (n : Nat) (a : Nat) (cg : Nat) (x : Nat) (sa : Nat → Nat) (pk : Nat → Nat) (fl : Nat → Nat) (gv : Nat → Nat) (gh : Nat → Int32) (gl : Nat → Int32) (hC : CXW G f xo ez eo bu nw0 na0 nq0 nr0 nw1 na1 nq1 nr1 bs bp bh bf bl bg S0 S1 gw0 ga0 gw1 ga1 n a cg x sa pk fl gv gh gl) (hL0 : S0.2.2.2.2.2.2.2.2.length < 3000) (hL1 : S1.2.2.2.2.2.2.2.2.length < 3000) (j : Nat) (hj : j < 3) (hpl : fl j < a) : CT l yX4_refuseEmptyLine (.code yX4_refuseEmptyLine cX4_refuseEmptyLine 2 none) 1 21 0 0 G [.ref xo, .int (nI j)] f (fun v f1 => v = none ∧ f1 = f) (fun E f1 => False) := by
  refine hp_start hl (own := RX4) (by decide) rfl (Nat.le_of_ble_eq_true rfl) ?_
  intro p e s m args below meth c B0 hr hnm hout hw hS ls hl9
  have hx := B0.1
  have hb := B0.2.1
  have hl9 : lv_has ls 2 [(0, .ref xo), (1, .int (nI j))] := hl9
  obtain ⟨Q0, Q1, hq⟩ := id hC
  have h1 : f xo = some (.inr (4, [.ref ez, .ref eo, .ref bu])) := hq.1
  have h2 : f ez = some (.inr (1, [.ref nw0, .ref na0, .ref nq0, .ref nr0, .int (num S0.2.2.2.2.2.2.1), .int S0.1, .int S0.2.2.2.1, .int S0.2.2.1, .int S0.2.1, .int S0.2.2.2.2.1, .int S0.2.2.2.2.2.1])) := (hq.2.1).1
  have h3 : f eo = some (.inr (1, [.ref nw1, .ref na1, .ref nq1, .ref nr1, .int (num S1.2.2.2.2.2.2.1), .int S1.1, .int S1.2.2.2.1, .int S1.2.2.1, .int S1.2.1, .int S1.2.2.2.2.1, .int S1.2.2.2.2.2.1])) := (hq.2.2.1).1
  refine lv_iload_n hx hb dX4_refuseEmptyLine_0 rfl (lv_at hl9 1 rfl) ?_
  refine lv_if_lt (tgt := 9) hx hb dX4_refuseEmptyLine_1 (by decide) (fun c9 => absurd c9 (nI_pos (by omega))) (fun _ => ?_)
  refine lv_iload_n hx hb dX4_refuseEmptyLine_4 rfl (lv_at hl9 1 rfl) ?_
  refine lv_iconst (v := 3) hx hb dX4_refuseEmptyLine_5 (by decide) ?_
  refine lv_icmp_lt (tgt := 19) hx hb dX4_refuseEmptyLine_6 (by decide) (fun _ => ?_) (fun c9 => absurd (show nI j < nI 3 from nI_lt hj (by omega)) c9)
  refine lv_aload_n hx hb dX4_refuseEmptyLine_19 rfl (lv_at hl9 0 rfl) ?_
  refine hp_get B0 hw 4 rfl in_X4 h1 2 (by decide) qF_X4_24 rfl dX4_refuseEmptyLine_20 ?_
  refine lv_iload_n hx hb dX4_refuseEmptyLine_23 rfl (lv_at hl9 1 rfl) ?_
  have h4 : f bu = some (.inr (0, [.ref bs, .ref bp, .ref bh, .ref bf, .ref bl, .ref bg, .int (nI n), .int (nI cg), .int (nI x)])) := hq.2.2.2.2.2.2.2.1
  have h5 : f bs = some (.inl (cI G, 61, .inl (nf sa))) := hq.2.2.2.2.2.2.2.2.1
  have h6 : f bf = some (.inl (cI G, 3, .inl (nf fl))) := hq.2.2.2.2.2.2.2.2.2.2.2.1
  refine hp_V (ci := 0) (As := [.int (nI j)]) (rest := []) B0 hw hS (c_X0_hasPieceOn hl G f bu bs bp bh bf bl bg n a cg x sa pk fl gv gh gl h4 h5 h6  (hq.2.2.2.2.2.2.2.2.2.2.2.2.2.2.1) (nI j) (vp_in_nI hj (by omega)) (by rw [nI_clamp (by omega)]; exact Nat.lt_trans ((hq.2.2.2.2.2.2.2.2.2.2.2.2.2.2.2.1) j hj) (by decide))) mV_X0_hasPieceOn qM_X4_160 rfl h4 rfl rfl hl9.1 (Nat.le_of_ble_eq_true rfl) ⟨⟨Nat.le_of_ble_eq_true rfl, Nat.le_of_ble_eq_true rfl⟩, Nat.le_of_ble_eq_true rfl, Nat.le_of_ble_eq_true rfl⟩ dX4_refuseEmptyLine_24 (fun E ce q9 f7 H locs hPX hw hS hce hcv hcl => ?_) (fun v f7 H locs hP hw hS => ?_)
  · exact hPX.elim
  · obtain ⟨ef9, hv9⟩ := hP
    rw [ef9] at hw
    rw [show (nI j).toNatClampNeg = j from nI_clamp (by omega)] at hv9
    rcases hv9 with ⟨ev9, hpl9⟩ | ⟨ev9, hpl9⟩
    · subst ev9
      refine W.eq (g2 := F0 m 27 ls [.int 1]) rfl ?_
      refine lv_if_ne (tgt := 40) hx hb dX4_refuseEmptyLine_27 (by decide) (fun _ => ?_) (fun c9 => absurd c9 (by decide))
      exact hp_vret B0 hw hS hr ⟨Nat.le_of_ble_eq_true rfl, Nat.le_of_ble_eq_true rfl⟩ dX4_refuseEmptyLine_40 (⟨rfl, rfl⟩)
    · exact absurd hpl hpl9

set_option maxHeartbeats 4000000 in
set_option maxRecDepth 100000 in
theorem c_P_refuse_S {l : Launch} (hl : l.stackTraces = false) (G : hG) (f : hM) (xo ez eo bu nw0 na0 nq0 nr0 nw1 na1 nq1 nr1 bs bp bh bf bl bg : Nat) (S0 : ES) (S1 : ES) (gw0 : Nat → Int32) (ga0 : Nat → Int32) (gw1 : Nat → Int32) (ga1 : Nat → Int32) (n : Nat) (a : Nat) (cg : Nat) (x : Nat) (sa : Nat → Nat) (pk : Nat → Nat) (fl : Nat → Nat) (gv : Nat → Nat) (gh : Nat → Int32) (gl : Nat → Int32) (hC : CXW G f xo ez eo bu nw0 na0 nq0 nr0 nw1 na1 nq1 nr1 bs bp bh bf bl bg S0 S1 gw0 ga0 gw1 ga1 n a cg x sa pk fl gv gh gl) (hL0 : S0.2.2.2.2.2.2.2.2.length < 3000) (hL1 : S1.2.2.2.2.2.2.2.2.length < 3000) (j : Nat) (hj : j < 3) (hpl : ¬ fl j < a) : CT l yX4_refuseEmptyLine (.code yX4_refuseEmptyLine cX4_refuseEmptyLine 2 none) 6 82 1 6 G [.ref xo, .int (nI j)] f (fun v f1 => False) (fun E f1 => E = eS ∧ f1 = f) := by
  refine hp_start hl (own := RX4) (by decide) rfl (Nat.le_of_ble_eq_true rfl) ?_
  intro p e s m args below meth c B0 hr hnm hout hw hS ls hl9
  have hx := B0.1
  have hb := B0.2.1
  have hl9 : lv_has ls 2 [(0, .ref xo), (1, .int (nI j))] := hl9
  obtain ⟨Q0, Q1, hq⟩ := id hC
  have h1 : f xo = some (.inr (4, [.ref ez, .ref eo, .ref bu])) := hq.1
  have h2 : f ez = some (.inr (1, [.ref nw0, .ref na0, .ref nq0, .ref nr0, .int (num S0.2.2.2.2.2.2.1), .int S0.1, .int S0.2.2.2.1, .int S0.2.2.1, .int S0.2.1, .int S0.2.2.2.2.1, .int S0.2.2.2.2.2.1])) := (hq.2.1).1
  have h3 : f eo = some (.inr (1, [.ref nw1, .ref na1, .ref nq1, .ref nr1, .int (num S1.2.2.2.2.2.2.1), .int S1.1, .int S1.2.2.2.1, .int S1.2.2.1, .int S1.2.1, .int S1.2.2.2.2.1, .int S1.2.2.2.2.2.1])) := (hq.2.2.1).1
  refine lv_iload_n hx hb dX4_refuseEmptyLine_0 rfl (lv_at hl9 1 rfl) ?_
  refine lv_if_lt (tgt := 9) hx hb dX4_refuseEmptyLine_1 (by decide) (fun c9 => absurd c9 (nI_pos (by omega))) (fun _ => ?_)
  refine lv_iload_n hx hb dX4_refuseEmptyLine_4 rfl (lv_at hl9 1 rfl) ?_
  refine lv_iconst (v := 3) hx hb dX4_refuseEmptyLine_5 (by decide) ?_
  refine lv_icmp_lt (tgt := 19) hx hb dX4_refuseEmptyLine_6 (by decide) (fun _ => ?_) (fun c9 => absurd (show nI j < nI 3 from nI_lt hj (by omega)) c9)
  refine lv_aload_n hx hb dX4_refuseEmptyLine_19 rfl (lv_at hl9 0 rfl) ?_
  refine hp_get B0 hw 4 rfl in_X4 h1 2 (by decide) qF_X4_24 rfl dX4_refuseEmptyLine_20 ?_
  refine lv_iload_n hx hb dX4_refuseEmptyLine_23 rfl (lv_at hl9 1 rfl) ?_
  have h4 : f bu = some (.inr (0, [.ref bs, .ref bp, .ref bh, .ref bf, .ref bl, .ref bg, .int (nI n), .int (nI cg), .int (nI x)])) := hq.2.2.2.2.2.2.2.1
  have h5 : f bs = some (.inl (cI G, 61, .inl (nf sa))) := hq.2.2.2.2.2.2.2.2.1
  have h6 : f bf = some (.inl (cI G, 3, .inl (nf fl))) := hq.2.2.2.2.2.2.2.2.2.2.2.1
  refine hp_V (ci := 0) (As := [.int (nI j)]) (rest := []) B0 hw hS (c_X0_hasPieceOn hl G f bu bs bp bh bf bl bg n a cg x sa pk fl gv gh gl h4 h5 h6  (hq.2.2.2.2.2.2.2.2.2.2.2.2.2.2.1) (nI j) (vp_in_nI hj (by omega)) (by rw [nI_clamp (by omega)]; exact Nat.lt_trans ((hq.2.2.2.2.2.2.2.2.2.2.2.2.2.2.2.1) j hj) (by decide))) mV_X0_hasPieceOn qM_X4_160 rfl h4 rfl rfl hl9.1 (Nat.le_of_ble_eq_true rfl) ⟨⟨Nat.le_of_ble_eq_true rfl, Nat.le_of_ble_eq_true rfl⟩, Nat.le_of_ble_eq_true rfl, Nat.le_of_ble_eq_true rfl⟩ dX4_refuseEmptyLine_24 (fun E ce q9 f7 H locs hPX hw hS hce hcv hcl => ?_) (fun v f7 H locs hP hw hS => ?_)
  · exact hPX.elim
  · obtain ⟨ef9, hv9⟩ := hP
    rw [ef9] at hw
    rw [show (nI j).toNatClampNeg = j from nI_clamp (by omega)] at hv9
    rcases hv9 with ⟨ev9, hpl9⟩ | ⟨ev9, hpl9⟩
    · exact absurd hpl9 hpl
    · subst ev9
      refine W.eq (g2 := F0 m 27 ls [.int 0]) rfl ?_
      refine lv_if_ne (tgt := 40) hx hb dX4_refuseEmptyLine_27 (by decide) (fun c9 => absurd (by decide) c9) (fun _ => ?_)
      exact hp_throw (cls := eS) (names := tNm) B0 hw hS hout tF_eS qC_X4_59 qN_java_lang_IllegalStateException sR_X4_164 tA_eS tB_eS tG_eS hl9.1 dX4_refuseEmptyLine_30 dX4_refuseEmptyLine_33 dX4_refuseEmptyLine_34 dX4_refuseEmptyLine_36 dX4_refuseEmptyLine_39 ⟨⟨Nat.le_of_ble_eq_true rfl, Nat.le_of_ble_eq_true rfl⟩, Nat.le_of_ble_eq_true rfl, Nat.le_of_ble_eq_true rfl⟩ ⟨Nat.le_of_ble_eq_true rfl, Nat.le_of_ble_eq_true rfl⟩ (⟨rfl, rfl⟩)

set_option maxHeartbeats 4000000 in
set_option maxRecDepth 100000 in
theorem c_P_refuse_L {l : Launch} (hl : l.stackTraces = false) (G : hG) (f : hM) (xo ez eo bu nw0 na0 nq0 nr0 nw1 na1 nq1 nr1 bs bp bh bf bl bg : Nat) (S0 : ES) (S1 : ES) (gw0 : Nat → Int32) (ga0 : Nat → Int32) (gw1 : Nat → Int32) (ga1 : Nat → Int32) (n : Nat) (a : Nat) (cg : Nat) (x : Nat) (sa : Nat → Nat) (pk : Nat → Nat) (fl : Nat → Nat) (gv : Nat → Nat) (gh : Nat → Int32) (gl : Nat → Int32) (hC : CXW G f xo ez eo bu nw0 na0 nq0 nr0 nw1 na1 nq1 nr1 bs bp bh bf bl bg S0 S1 gw0 ga0 gw1 ga1 n a cg x sa pk fl gv gh gl) (hL0 : S0.2.2.2.2.2.2.2.2.length < 3000) (hL1 : S1.2.2.2.2.2.2.2.2.length < 3000) (xv : Int32) (hv : ¬ sL xv) : CT l yX4_refuseEmptyLine (.code yX4_refuseEmptyLine cX4_refuseEmptyLine 2 none) 6 82 1 6 G [.ref xo, .int xv] f (fun v f1 => False) (fun E f1 => E = eI ∧ f1 = f) := by
  refine hp_start hl (own := RX4) (by decide) rfl (Nat.le_of_ble_eq_true rfl) ?_
  intro p e s m args below meth c B0 hr hnm hout hw hS ls hl9
  have hx := B0.1
  have hb := B0.2.1
  have hl9 : lv_has ls 2 [(0, .ref xo), (1, .int xv)] := hl9
  obtain ⟨Q0, Q1, hq⟩ := id hC
  have h1 : f xo = some (.inr (4, [.ref ez, .ref eo, .ref bu])) := hq.1
  have h2 : f ez = some (.inr (1, [.ref nw0, .ref na0, .ref nq0, .ref nr0, .int (num S0.2.2.2.2.2.2.1), .int S0.1, .int S0.2.2.2.1, .int S0.2.2.1, .int S0.2.1, .int S0.2.2.2.2.1, .int S0.2.2.2.2.2.1])) := (hq.2.1).1
  have h3 : f eo = some (.inr (1, [.ref nw1, .ref na1, .ref nq1, .ref nr1, .int (num S1.2.2.2.2.2.2.1), .int S1.1, .int S1.2.2.2.1, .int S1.2.2.1, .int S1.2.1, .int S1.2.2.2.2.1, .int S1.2.2.2.2.2.1])) := (hq.2.2.1).1
  refine lv_iload_n hx hb dX4_refuseEmptyLine_0 rfl (lv_at hl9 1 rfl) ?_
  refine lv_if_lt (tgt := 9) hx hb dX4_refuseEmptyLine_1 (by decide) (fun c4 => ?_) (fun c4 => ?_)
  · exact hp_throw (cls := eI) (names := tNm) B0 hw hS hout tF_eI qC_X4_137 qN_java_lang_IndexOutOfBoundsException sR_X4_158 tA_eI tB_eI tG_eI hl9.1 dX4_refuseEmptyLine_9 dX4_refuseEmptyLine_12 dX4_refuseEmptyLine_13 dX4_refuseEmptyLine_15 dX4_refuseEmptyLine_18 ⟨⟨Nat.le_of_ble_eq_true rfl, Nat.le_of_ble_eq_true rfl⟩, Nat.le_of_ble_eq_true rfl, Nat.le_of_ble_eq_true rfl⟩ ⟨Nat.le_of_ble_eq_true rfl, Nat.le_of_ble_eq_true rfl⟩ (⟨rfl, rfl⟩)
  · refine lv_iload_n hx hb dX4_refuseEmptyLine_4 rfl (lv_at hl9 1 rfl) ?_
    refine lv_iconst (v := 3) hx hb dX4_refuseEmptyLine_5 (by decide) ?_
    refine lv_icmp_lt (tgt := 19) hx hb dX4_refuseEmptyLine_6 (by decide) (fun c9 => absurd c9 (fun h9 => hv (by have h1 := c4; have h2 := h9; simp only [jlt, jle, tq0, tq1, tq3, tq4, tq6, tq9, tq50, tq60, tq1023, tqm1] at h1 h2; exact ⟨by omega, by omega⟩))) (fun _ => ?_)
    exact hp_throw (cls := eI) (names := tNm) B0 hw hS hout tF_eI qC_X4_137 qN_java_lang_IndexOutOfBoundsException sR_X4_158 tA_eI tB_eI tG_eI hl9.1 dX4_refuseEmptyLine_9 dX4_refuseEmptyLine_12 dX4_refuseEmptyLine_13 dX4_refuseEmptyLine_15 dX4_refuseEmptyLine_18 ⟨⟨Nat.le_of_ble_eq_true rfl, Nat.le_of_ble_eq_true rfl⟩, Nat.le_of_ble_eq_true rfl, Nat.le_of_ble_eq_true rfl⟩ ⟨Nat.le_of_ble_eq_true rfl, Nat.le_of_ble_eq_true rfl⟩ (⟨rfl, rfl⟩)

theorem fl_up {fl : Nat → Nat} {k : Nat} (h : ∀ j, j < 3 → fl j < 243) (hk : fl k < 240) : ∀ j, j < 3 → va_up fl k (fl k + 3) j < 243 := by
  intro j hj
  by_cases z : j = k
  · rw [z, va_up_self]; omega
  · rw [va_up_ne _ _ z]; exact h j hj
set_option maxHeartbeats 4000000 in
set_option maxRecDepth 100000 in
theorem c_P_come_ok {l : Launch} (hl : l.stackTraces = false) (G : hG) (f : hM) (xo ez eo bu nw0 na0 nq0 nr0 nw1 na1 nq1 nr1 bs bp bh bf bl bg : Nat) (S0 : ES) (S1 : ES) (gw0 : Nat → Int32) (ga0 : Nat → Int32) (gw1 : Nat → Int32) (ga1 : Nat → Int32) (n : Nat) (a : Nat) (cg : Nat) (x : Nat) (sa : Nat → Nat) (pk : Nat → Nat) (fl : Nat → Nat) (gv : Nat → Nat) (gh : Nat → Int32) (gl : Nat → Int32) (hC : CXW G f xo ez eo bu nw0 na0 nq0 nr0 nw1 na1 nq1 nr1 bs bp bh bf bl bg S0 S1 gw0 ga0 gw1 ga1 n a cg x sa pk fl gv gh gl) (hL0 : S0.2.2.2.2.2.2.2.2.length < 3000) (hL1 : S1.2.2.2.2.2.2.2.2.length < 3000) (j : Nat) (hj : j < 3) (hpl : fl j < a) : CT l yX4_come (.code yX4_come cX4_come 2 (some .int)) 5 105 0 0 G [.ref xo, .int (nI j)] f (fun v f1 => v = some (.int (nI (bRun a sa pk (upd gh (fl j) 1) (bnd (upd gl j (nI (fl j)))) 240 cg x gv).1 - nI cg)) ∧ CXW G f1 xo ez eo bu nw0 na0 nq0 nr0 nw1 na1 nq1 nr1 bs bp bh bf bl bg S0 S1 gw0 ga0 gw1 ga1 n a ((bRun a sa pk (upd gh (fl j) 1) (bnd (upd gl j (nI (fl j)))) 240 cg x gv).1) ((bRun a sa pk (upd gh (fl j) 1) (bnd (upd gl j (nI (fl j)))) 240 cg x gv).2.1) sa pk (va_up fl j (fl j + 3)) ((bRun a sa pk (upd gh (fl j) 1) (bnd (upd gl j (nI (fl j)))) 240 cg x gv).2.2) (upd gh (fl j) 1) (upd gl j (nI (fl j))) ∧ hKn [xo, ez, eo, bu, nw0, na0, nq0, nr0, nw1, na1, nq1, nr1, bs, bp, bh, bf, bl, bg] f f1) (fun E f1 => False) := by
  refine hp_start hl (own := RX4) (by decide) rfl (Nat.le_of_ble_eq_true rfl) ?_
  intro p e s m args below meth c B0 hr hnm hout hw hS ls hl9
  have hx := B0.1
  have hb := B0.2.1
  have hl9 : lv_has ls 2 [(0, .ref xo), (1, .int (nI j))] := hl9
  obtain ⟨Q0, Q1, hq⟩ := id hC
  have h1 : f xo = some (.inr (4, [.ref ez, .ref eo, .ref bu])) := hq.1
  have h2 : f ez = some (.inr (1, [.ref nw0, .ref na0, .ref nq0, .ref nr0, .int (num S0.2.2.2.2.2.2.1), .int S0.1, .int S0.2.2.2.1, .int S0.2.2.1, .int S0.2.1, .int S0.2.2.2.2.1, .int S0.2.2.2.2.2.1])) := (hq.2.1).1
  have h3 : f eo = some (.inr (1, [.ref nw1, .ref na1, .ref nq1, .ref nr1, .int (num S1.2.2.2.2.2.2.1), .int S1.1, .int S1.2.2.2.1, .int S1.2.2.1, .int S1.2.1, .int S1.2.2.2.2.1, .int S1.2.2.2.2.2.1])) := (hq.2.2.1).1
  refine lv_aload_n hx hb dX4_come_0 rfl (lv_at hl9 0 rfl) ?_
  refine lv_iload_n hx hb dX4_come_1 rfl (lv_at hl9 1 rfl) ?_
  refine hp_V (ci := 4) (As := [.int (nI j)]) (rest := []) B0 hw hS (c_P_refuse_ok hl G f xo ez eo bu nw0 na0 nq0 nr0 nw1 na1 nq1 nr1 bs bp bh bf bl bg S0 S1 gw0 ga0 gw1 ga1 n a cg x sa pk fl gv gh gl hC hL0 hL1 j hj hpl) mV_X4_refuseEmptyLine qM_X4_125 rfl h1 rfl rfl hl9.1 (Nat.le_of_ble_eq_true rfl) ⟨⟨Nat.le_of_ble_eq_true rfl, Nat.le_of_ble_eq_true rfl⟩, Nat.le_of_ble_eq_true rfl, Nat.le_of_ble_eq_true rfl⟩ dX4_come_2 (fun E ce q9 f4 H locs hPX hw hS hce hcv hcl => ?_) (fun v f4 H locs hP hw hS => ?_)
  · exact hPX.elim
  · obtain ⟨ev9, ef9⟩ := hP
    rw [ef9] at hw
    subst ev9
    refine W.eq (g2 := F0 m 5 ls []) rfl ?_
    refine lv_aload_n hx hb dX4_come_5 rfl (lv_at hl9 0 rfl) ?_
    refine hp_get B0 hw 4 rfl in_X4 h1 2 (by decide) qF_X4_24 rfl dX4_come_6 ?_
    refine lv_iload_n hx hb dX4_come_9 rfl (lv_at hl9 1 rfl) ?_
    have h5 : f bu = some (.inr (0, [.ref bs, .ref bp, .ref bh, .ref bf, .ref bl, .ref bg, .int (nI n), .int (nI cg), .int (nI x)])) := hq.2.2.2.2.2.2.2.1
    have h6 : f bs = some (.inl (cI G, 61, .inl (nf sa))) := hq.2.2.2.2.2.2.2.2.1
    have h7 : f bp = some (.inl (cI G, 240, .inl (nf pk))) := hq.2.2.2.2.2.2.2.2.2.1
    have h8 : f bh = some (.inl (cZ G, 240, .inl gh)) := hq.2.2.2.2.2.2.2.2.2.2.1
    have h10 : f bf = some (.inl (cI G, 3, .inl (nf fl))) := hq.2.2.2.2.2.2.2.2.2.2.2.1
    have h11 : f bl = some (.inl (cI G, 3, .inl gl)) := hq.2.2.2.2.2.2.2.2.2.2.2.2.1
    have h12 : f bg = some (.inl (cI G, 60, .inl (nf gv))) := hq.2.2.2.2.2.2.2.2.2.2.2.2.2.1
    refine hp_V (ci := 0) (As := [.int (nI j)]) (rest := []) B0 hw hS (c_X0_bring hl G f bu bs bp bh bf bl bg n a cg x sa pk fl gv gh gl h5 h6 h7 h8 h10 h11 h12  (hq.2.2.2.2.2.2.2.2.2.2.2.2.2.2.1) (hq.2.2.2.2.2.2.2.2.2.2.2.2.2.2.2.2.2.2.2.2.2.2.2.2.2.2.2.2.2.2.2.2.2.1) (hq.2.2.2.2.2.2.2.2.2.2.2.2.2.2.2.2.2.2.2.2.2.2.2.2.2.2.2.2.2.2.2.2.2.2.1) (nI j) (vp_in_nI hj (by omega)) (by rw [nI_clamp (by omega)]; exact hpl)) mV_X0_bring qM_X4_128 rfl h5 rfl rfl hl9.1 (Nat.le_of_ble_eq_true rfl) ⟨⟨Nat.le_of_ble_eq_true rfl, Nat.le_of_ble_eq_true rfl⟩, Nat.le_of_ble_eq_true rfl, Nat.le_of_ble_eq_true rfl⟩ dX4_come_10 (fun E ce q9 f13 H locs hPX hw hS hce hcv hcl => ?_) (fun v f13 H locs hP hw hS => ?_)
    · exact hPX.elim
    · obtain ⟨c1, x1, gv1, hR1, hB1, ev9, h14, h15, h16, h17, h18, k19⟩ := hP
      rw [show (nI j).toNatClampNeg = j from nI_clamp (by omega)] at hR1 h16 h17 h18
      subst ev9
      have hq20 : CXQ G f13 xo ez eo bu nw0 na0 nq0 nr0 nw1 na1 nq1 nr1 bs bp bh bf bl bg Q0 Q1 S0 S1 gw0 ga0 gw1 ga1 n a c1 x1 sa pk (va_up fl j (fl j + 3)) gv1 (upd gh (fl j) 1) (upd gl j (nI (fl j))) := CXQ.b hq (show hK2 [bu, bg, bh, bl, bf] [] f f13 from ((hK2.of k19 (fun b9 hb9 => by
          simp only [List.mem_cons, List.not_mem_nil, or_false] at hb9
          rcases hb9 with hb9 | hb9 | hb9 | hb9 | hb9
          · rw [hb9]; exact ⟨_, h14⟩
          · rw [hb9]; exact ⟨_, h15⟩
          · rw [hb9]; exact ⟨_, h16⟩
          · rw [hb9]; exact ⟨_, h17⟩
          · rw [hb9]; exact ⟨_, h18⟩)).mono (fun _ h9 => h9))) h14 h15 h16 h17 h18 hB1 (fl_up (hq.2.2.2.2.2.2.2.2.2.2.2.2.2.2.2.1) (Nat.lt_of_lt_of_le hpl (hq.2.2.2.2.2.2.2.2.2.2.2.2.2.2.1).a240))
      have h21 : f13 xo = some (.inr (4, [.ref ez, .ref eo, .ref bu])) := hq20.1
      have h22 : f13 ez = some (.inr (1, [.ref nw0, .ref na0, .ref nq0, .ref nr0, .int (num S0.2.2.2.2.2.2.1), .int S0.1, .int S0.2.2.2.1, .int S0.2.2.1, .int S0.2.1, .int S0.2.2.2.2.1, .int S0.2.2.2.2.2.1])) := (hq20.2.1).1
      have h23 : f13 eo = some (.inr (1, [.ref nw1, .ref na1, .ref nq1, .ref nr1, .int (num S1.2.2.2.2.2.2.1), .int S1.1, .int S1.2.2.2.1, .int S1.2.2.1, .int S1.2.1, .int S1.2.2.2.2.1, .int S1.2.2.2.2.2.1])) := (hq20.2.2.1).1
      refine W.eq (g2 := F0 m 13 ls [.int ((nI c1) - (nI cg))]) rfl ?_
      exact hp_iret (v := ((nI c1) - (nI cg))) B0 hw hS hr ⟨Nat.le_of_ble_eq_true rfl, Nat.le_of_ble_eq_true rfl⟩ dX4_come_13 (⟨(by rw [hR1]), (by rw [hR1]; exact ⟨_, _, hq20⟩), (show hKn [xo, ez, eo, bu, nw0, na0, nq0, nr0, nw1, na1, nq1, nr1, bs, bp, bh, bf, bl, bg] f f13 from (hKn.mono (hKn.eq k19) (sub_cons (List.mem_cons_of_mem _ (List.mem_cons_of_mem _ (List.mem_cons_of_mem _ List.mem_cons_self))) (sub_cons (List.mem_cons_of_mem _ (List.mem_cons_of_mem _ (List.mem_cons_of_mem _ (List.mem_cons_of_mem _ (List.mem_cons_of_mem _ (List.mem_cons_of_mem _ (List.mem_cons_of_mem _ (List.mem_cons_of_mem _ (List.mem_cons_of_mem _ (List.mem_cons_of_mem _ (List.mem_cons_of_mem _ (List.mem_cons_of_mem _ (List.mem_cons_of_mem _ (List.mem_cons_of_mem _ (List.mem_cons_of_mem _ (List.mem_cons_of_mem _ (List.mem_cons_of_mem _ List.mem_cons_self))))))))))))))))) (sub_cons (List.mem_cons_of_mem _ (List.mem_cons_of_mem _ (List.mem_cons_of_mem _ (List.mem_cons_of_mem _ (List.mem_cons_of_mem _ (List.mem_cons_of_mem _ (List.mem_cons_of_mem _ (List.mem_cons_of_mem _ (List.mem_cons_of_mem _ (List.mem_cons_of_mem _ (List.mem_cons_of_mem _ (List.mem_cons_of_mem _ (List.mem_cons_of_mem _ (List.mem_cons_of_mem _ List.mem_cons_self)))))))))))))) (sub_cons (List.mem_cons_of_mem _ (List.mem_cons_of_mem _ (List.mem_cons_of_mem _ (List.mem_cons_of_mem _ (List.mem_cons_of_mem _ (List.mem_cons_of_mem _ (List.mem_cons_of_mem _ (List.mem_cons_of_mem _ (List.mem_cons_of_mem _ (List.mem_cons_of_mem _ (List.mem_cons_of_mem _ (List.mem_cons_of_mem _ (List.mem_cons_of_mem _ (List.mem_cons_of_mem _ (List.mem_cons_of_mem _ (List.mem_cons_of_mem _ List.mem_cons_self)))))))))))))))) (sub_cons (List.mem_cons_of_mem _ (List.mem_cons_of_mem _ (List.mem_cons_of_mem _ (List.mem_cons_of_mem _ (List.mem_cons_of_mem _ (List.mem_cons_of_mem _ (List.mem_cons_of_mem _ (List.mem_cons_of_mem _ (List.mem_cons_of_mem _ (List.mem_cons_of_mem _ (List.mem_cons_of_mem _ (List.mem_cons_of_mem _ (List.mem_cons_of_mem _ (List.mem_cons_of_mem _ (List.mem_cons_of_mem _ List.mem_cons_self))))))))))))))) sub_nil)))))))⟩)

set_option maxHeartbeats 4000000 in
set_option maxRecDepth 100000 in
theorem c_P_drop_ok {l : Launch} (hl : l.stackTraces = false) (G : hG) (f : hM) (xo ez eo bu nw0 na0 nq0 nr0 nw1 na1 nq1 nr1 bs bp bh bf bl bg : Nat) (S0 : ES) (S1 : ES) (gw0 : Nat → Int32) (ga0 : Nat → Int32) (gw1 : Nat → Int32) (ga1 : Nat → Int32) (n : Nat) (a : Nat) (cg : Nat) (x : Nat) (sa : Nat → Nat) (pk : Nat → Nat) (fl : Nat → Nat) (gv : Nat → Nat) (gh : Nat → Int32) (gl : Nat → Int32) (hC : CXW G f xo ez eo bu nw0 na0 nq0 nr0 nw1 na1 nq1 nr1 bs bp bh bf bl bg S0 S1 gw0 ga0 gw1 ga1 n a cg x sa pk fl gv gh gl) (hL0 : S0.2.2.2.2.2.2.2.2.length < 3000) (hL1 : S1.2.2.2.2.2.2.2.2.length < 3000) (j : Nat) (hj : j < 3) (hpl : fl j < a) : CT l yX4_drop (.code yX4_drop cX4_drop 2 (some .int)) 2 42 0 0 G [.ref xo, .int (nI j)] f (fun v f1 => v = some (.int (nI (fl j))) ∧ CXW G f1 xo ez eo bu nw0 na0 nq0 nr0 nw1 na1 nq1 nr1 bs bp bh bf bl bg S0 S1 gw0 ga0 gw1 ga1 n a cg x sa pk (va_up fl j (fl j + 3)) gv gh gl ∧ hKn [xo, ez, eo, bu, nw0, na0, nq0, nr0, nw1, na1, nq1, nr1, bs, bp, bh, bf, bl, bg] f f1) (fun E f1 => False) := by
  refine hp_start hl (own := RX4) (by decide) rfl (Nat.le_of_ble_eq_true rfl) ?_
  intro p e s m args below meth c B0 hr hnm hout hw hS ls hl9
  have hx := B0.1
  have hb := B0.2.1
  have hl9 : lv_has ls 2 [(0, .ref xo), (1, .int (nI j))] := hl9
  obtain ⟨Q0, Q1, hq⟩ := id hC
  have h1 : f xo = some (.inr (4, [.ref ez, .ref eo, .ref bu])) := hq.1
  have h2 : f ez = some (.inr (1, [.ref nw0, .ref na0, .ref nq0, .ref nr0, .int (num S0.2.2.2.2.2.2.1), .int S0.1, .int S0.2.2.2.1, .int S0.2.2.1, .int S0.2.1, .int S0.2.2.2.2.1, .int S0.2.2.2.2.2.1])) := (hq.2.1).1
  have h3 : f eo = some (.inr (1, [.ref nw1, .ref na1, .ref nq1, .ref nr1, .int (num S1.2.2.2.2.2.2.1), .int S1.1, .int S1.2.2.2.1, .int S1.2.2.1, .int S1.2.1, .int S1.2.2.2.2.1, .int S1.2.2.2.2.2.1])) := (hq.2.2.1).1
  refine lv_aload_n hx hb dX4_drop_0 rfl (lv_at hl9 0 rfl) ?_
  refine lv_iload_n hx hb dX4_drop_1 rfl (lv_at hl9 1 rfl) ?_
  refine hp_V (ci := 4) (As := [.int (nI j)]) (rest := []) B0 hw hS (c_P_refuse_ok hl G f xo ez eo bu nw0 na0 nq0 nr0 nw1 na1 nq1 nr1 bs bp bh bf bl bg S0 S1 gw0 ga0 gw1 ga1 n a cg x sa pk fl gv gh gl hC hL0 hL1 j hj hpl) mV_X4_refuseEmptyLine qM_X4_125 rfl h1 rfl rfl hl9.1 (Nat.le_of_ble_eq_true rfl) ⟨⟨Nat.le_of_ble_eq_true rfl, Nat.le_of_ble_eq_true rfl⟩, Nat.le_of_ble_eq_true rfl, Nat.le_of_ble_eq_true rfl⟩ dX4_drop_2 (fun E ce q9 f4 H locs hPX hw hS hce hcv hcl => ?_) (fun v f4 H locs hP hw hS => ?_)
  · exact hPX.elim
  · obtain ⟨ev9, ef9⟩ := hP
    rw [ef9] at hw
    subst ev9
    refine W.eq (g2 := F0 m 5 ls []) rfl ?_
    refine lv_aload_n hx hb dX4_drop_5 rfl (lv_at hl9 0 rfl) ?_
    refine hp_get B0 hw 4 rfl in_X4 h1 2 (by decide) qF_X4_24 rfl dX4_drop_6 ?_
    refine lv_iload_n hx hb dX4_drop_9 rfl (lv_at hl9 1 rfl) ?_
    have h5 : f bu = some (.inr (0, [.ref bs, .ref bp, .ref bh, .ref bf, .ref bl, .ref bg, .int (nI n), .int (nI cg), .int (nI x)])) := hq.2.2.2.2.2.2.2.1
    have h6 : f bf = some (.inl (cI G, 3, .inl (nf fl))) := hq.2.2.2.2.2.2.2.2.2.2.2.1
    refine hp_V (ci := 0) (As := [.int (nI j)]) (rest := []) B0 hw hS (c_X0_takePiece hl G f bu bs bp bh bf bl bg n a cg x sa pk fl gv gh gl h5 h6  (nI j) (vp_in_nI hj (by omega))) mV_X0_takePiece qM_X4_131 rfl h5 rfl rfl hl9.1 (Nat.le_of_ble_eq_true rfl) ⟨⟨Nat.le_of_ble_eq_true rfl, Nat.le_of_ble_eq_true rfl⟩, Nat.le_of_ble_eq_true rfl, Nat.le_of_ble_eq_true rfl⟩ dX4_drop_10 (fun E ce q9 f7 H locs hPX hw hS hce hcv hcl => ?_) (fun v f7 H locs hP hw hS => ?_)
    · exact hPX.elim
    · obtain ⟨ev9, h8, k10⟩ := hP
      rw [show (nI j).toNatClampNeg = j from nI_clamp (by omega)] at ev9 h8
      subst ev9
      have hq11 : CXQ G f7 xo ez eo bu nw0 na0 nq0 nr0 nw1 na1 nq1 nr1 bs bp bh bf bl bg Q0 Q1 S0 S1 gw0 ga0 gw1 ga1 n a cg x sa pk (va_up fl j (fl j + 3)) gv gh gl := CXQ.d hq (show hK2 [bf] [] f f7 from ((hK2.of k10 (fun b9 hb9 => by
          simp only [List.mem_cons, List.not_mem_nil, or_false] at hb9
          rcases hb9 with hb9
          · rw [hb9]; exact ⟨_, h8⟩)).mono (fun _ h9 => h9))) h8 (hq.2.2.2.2.2.2.2.2.2.2.2.2.2.2.1) (fl_up (hq.2.2.2.2.2.2.2.2.2.2.2.2.2.2.2.1) (Nat.lt_of_lt_of_le hpl (hq.2.2.2.2.2.2.2.2.2.2.2.2.2.2.1).a240))
      have h12 : f7 xo = some (.inr (4, [.ref ez, .ref eo, .ref bu])) := hq11.1
      have h13 : f7 ez = some (.inr (1, [.ref nw0, .ref na0, .ref nq0, .ref nr0, .int (num S0.2.2.2.2.2.2.1), .int S0.1, .int S0.2.2.2.1, .int S0.2.2.1, .int S0.2.1, .int S0.2.2.2.2.1, .int S0.2.2.2.2.2.1])) := (hq11.2.1).1
      have h14 : f7 eo = some (.inr (1, [.ref nw1, .ref na1, .ref nq1, .ref nr1, .int (num S1.2.2.2.2.2.2.1), .int S1.1, .int S1.2.2.2.1, .int S1.2.2.1, .int S1.2.1, .int S1.2.2.2.2.1, .int S1.2.2.2.2.2.1])) := (hq11.2.2.1).1
      refine W.eq (g2 := F0 m 13 ls [.int (nI (fl j))]) rfl ?_
      exact hp_iret (v := (nI (fl j))) B0 hw hS hr ⟨Nat.le_of_ble_eq_true rfl, Nat.le_of_ble_eq_true rfl⟩ dX4_drop_13 (⟨rfl, ⟨_, _, hq11⟩, (show hKn [xo, ez, eo, bu, nw0, na0, nq0, nr0, nw1, na1, nq1, nr1, bs, bp, bh, bf, bl, bg] f f7 from (hKn.mono (hKn.eq k10) (sub_cons (List.mem_cons_of_mem _ (List.mem_cons_of_mem _ (List.mem_cons_of_mem _ (List.mem_cons_of_mem _ (List.mem_cons_of_mem _ (List.mem_cons_of_mem _ (List.mem_cons_of_mem _ (List.mem_cons_of_mem _ (List.mem_cons_of_mem _ (List.mem_cons_of_mem _ (List.mem_cons_of_mem _ (List.mem_cons_of_mem _ (List.mem_cons_of_mem _ (List.mem_cons_of_mem _ (List.mem_cons_of_mem _ List.mem_cons_self))))))))))))))) sub_nil)))⟩)

set_option maxHeartbeats 4000000 in
set_option maxRecDepth 100000 in
theorem c_P_come_S {l : Launch} (hl : l.stackTraces = false) (G : hG) (f : hM) (xo ez eo bu nw0 na0 nq0 nr0 nw1 na1 nq1 nr1 bs bp bh bf bl bg : Nat) (S0 : ES) (S1 : ES) (gw0 : Nat → Int32) (ga0 : Nat → Int32) (gw1 : Nat → Int32) (ga1 : Nat → Int32) (n : Nat) (a : Nat) (cg : Nat) (x : Nat) (sa : Nat → Nat) (pk : Nat → Nat) (fl : Nat → Nat) (gv : Nat → Nat) (gh : Nat → Int32) (gl : Nat → Int32) (hC : CXW G f xo ez eo bu nw0 na0 nq0 nr0 nw1 na1 nq1 nr1 bs bp bh bf bl bg S0 S1 gw0 ga0 gw1 ga1 n a cg x sa pk fl gv gh gl) (hL0 : S0.2.2.2.2.2.2.2.2.length < 3000) (hL1 : S1.2.2.2.2.2.2.2.2.length < 3000) (j : Nat) (hj : j < 3) (hpl : ¬ fl j < a) : CT l yX4_come (.code yX4_come cX4_come 2 (some .int)) 7 103 1 6 G [.ref xo, .int (nI j)] f (fun v f1 => False) (fun E f1 => E = eS ∧ CXW G f1 xo ez eo bu nw0 na0 nq0 nr0 nw1 na1 nq1 nr1 bs bp bh bf bl bg S0 S1 gw0 ga0 gw1 ga1 n a cg x sa pk fl gv gh gl ∧ hKn [xo, ez, eo, bu, nw0, na0, nq0, nr0, nw1, na1, nq1, nr1, bs, bp, bh, bf, bl, bg] f f1) := by
  refine hp_start hl (own := RX4) (by decide) rfl (Nat.le_of_ble_eq_true rfl) ?_
  intro p e s m args below meth c B0 hr hnm hout hw hS ls hl9
  have hx := B0.1
  have hb := B0.2.1
  have hl9 : lv_has ls 2 [(0, .ref xo), (1, .int (nI j))] := hl9
  obtain ⟨Q0, Q1, hq⟩ := id hC
  have h1 : f xo = some (.inr (4, [.ref ez, .ref eo, .ref bu])) := hq.1
  have h2 : f ez = some (.inr (1, [.ref nw0, .ref na0, .ref nq0, .ref nr0, .int (num S0.2.2.2.2.2.2.1), .int S0.1, .int S0.2.2.2.1, .int S0.2.2.1, .int S0.2.1, .int S0.2.2.2.2.1, .int S0.2.2.2.2.2.1])) := (hq.2.1).1
  have h3 : f eo = some (.inr (1, [.ref nw1, .ref na1, .ref nq1, .ref nr1, .int (num S1.2.2.2.2.2.2.1), .int S1.1, .int S1.2.2.2.1, .int S1.2.2.1, .int S1.2.1, .int S1.2.2.2.2.1, .int S1.2.2.2.2.2.1])) := (hq.2.2.1).1
  refine lv_aload_n hx hb dX4_come_0 rfl (lv_at hl9 0 rfl) ?_
  refine lv_iload_n hx hb dX4_come_1 rfl (lv_at hl9 1 rfl) ?_
  refine hp_V (ci := 4) (As := [.int (nI j)]) (rest := []) B0 hw hS (c_P_refuse_S hl G f xo ez eo bu nw0 na0 nq0 nr0 nw1 na1 nq1 nr1 bs bp bh bf bl bg S0 S1 gw0 ga0 gw1 ga1 n a cg x sa pk fl gv gh gl hC hL0 hL1 j hj hpl) mV_X4_refuseEmptyLine qM_X4_125 rfl h1 rfl rfl hl9.1 (Nat.le_of_ble_eq_true rfl) ⟨⟨Nat.le_of_ble_eq_true rfl, Nat.le_of_ble_eq_true rfl⟩, Nat.le_of_ble_eq_true rfl, Nat.le_of_ble_eq_true rfl⟩ dX4_come_2 (fun E ce q9 f4 H locs hPX hw hS hce hcv hcl => ?_) (fun v f4 H locs hP hw hS => ?_)
  · obtain ⟨eE9, ef9⟩ := hPX
    rw [ef9] at hw
    subst eE9
    exact hp_out B0 hw hS hout hce hcv hcl ⟨Nat.le_of_ble_eq_true rfl, Nat.le_of_ble_eq_true rfl⟩ (⟨rfl, ⟨_, _, hq⟩, hKn.rf⟩)
  · exact hP.elim

set_option maxHeartbeats 4000000 in
set_option maxRecDepth 100000 in
theorem c_P_come_L {l : Launch} (hl : l.stackTraces = false) (G : hG) (f : hM) (xo ez eo bu nw0 na0 nq0 nr0 nw1 na1 nq1 nr1 bs bp bh bf bl bg : Nat) (S0 : ES) (S1 : ES) (gw0 : Nat → Int32) (ga0 : Nat → Int32) (gw1 : Nat → Int32) (ga1 : Nat → Int32) (n : Nat) (a : Nat) (cg : Nat) (x : Nat) (sa : Nat → Nat) (pk : Nat → Nat) (fl : Nat → Nat) (gv : Nat → Nat) (gh : Nat → Int32) (gl : Nat → Int32) (hC : CXW G f xo ez eo bu nw0 na0 nq0 nr0 nw1 na1 nq1 nr1 bs bp bh bf bl bg S0 S1 gw0 ga0 gw1 ga1 n a cg x sa pk fl gv gh gl) (hL0 : S0.2.2.2.2.2.2.2.2.length < 3000) (hL1 : S1.2.2.2.2.2.2.2.2.length < 3000) (xv : Int32) (hv : ¬ sL xv) : CT l yX4_come (.code yX4_come cX4_come 2 (some .int)) 7 103 1 6 G [.ref xo, .int xv] f (fun v f1 => False) (fun E f1 => E = eI ∧ CXW G f1 xo ez eo bu nw0 na0 nq0 nr0 nw1 na1 nq1 nr1 bs bp bh bf bl bg S0 S1 gw0 ga0 gw1 ga1 n a cg x sa pk fl gv gh gl ∧ hKn [xo, ez, eo, bu, nw0, na0, nq0, nr0, nw1, na1, nq1, nr1, bs, bp, bh, bf, bl, bg] f f1) := by
  refine hp_start hl (own := RX4) (by decide) rfl (Nat.le_of_ble_eq_true rfl) ?_
  intro p e s m args below meth c B0 hr hnm hout hw hS ls hl9
  have hx := B0.1
  have hb := B0.2.1
  have hl9 : lv_has ls 2 [(0, .ref xo), (1, .int xv)] := hl9
  obtain ⟨Q0, Q1, hq⟩ := id hC
  have h1 : f xo = some (.inr (4, [.ref ez, .ref eo, .ref bu])) := hq.1
  have h2 : f ez = some (.inr (1, [.ref nw0, .ref na0, .ref nq0, .ref nr0, .int (num S0.2.2.2.2.2.2.1), .int S0.1, .int S0.2.2.2.1, .int S0.2.2.1, .int S0.2.1, .int S0.2.2.2.2.1, .int S0.2.2.2.2.2.1])) := (hq.2.1).1
  have h3 : f eo = some (.inr (1, [.ref nw1, .ref na1, .ref nq1, .ref nr1, .int (num S1.2.2.2.2.2.2.1), .int S1.1, .int S1.2.2.2.1, .int S1.2.2.1, .int S1.2.1, .int S1.2.2.2.2.1, .int S1.2.2.2.2.2.1])) := (hq.2.2.1).1
  refine lv_aload_n hx hb dX4_come_0 rfl (lv_at hl9 0 rfl) ?_
  refine lv_iload_n hx hb dX4_come_1 rfl (lv_at hl9 1 rfl) ?_
  refine hp_V (ci := 4) (As := [.int xv]) (rest := []) B0 hw hS (c_P_refuse_L hl G f xo ez eo bu nw0 na0 nq0 nr0 nw1 na1 nq1 nr1 bs bp bh bf bl bg S0 S1 gw0 ga0 gw1 ga1 n a cg x sa pk fl gv gh gl hC hL0 hL1 xv hv) mV_X4_refuseEmptyLine qM_X4_125 rfl h1 rfl rfl hl9.1 (Nat.le_of_ble_eq_true rfl) ⟨⟨Nat.le_of_ble_eq_true rfl, Nat.le_of_ble_eq_true rfl⟩, Nat.le_of_ble_eq_true rfl, Nat.le_of_ble_eq_true rfl⟩ dX4_come_2 (fun E ce q9 f4 H locs hPX hw hS hce hcv hcl => ?_) (fun v f4 H locs hP hw hS => ?_)
  · obtain ⟨eE9, ef9⟩ := hPX
    rw [ef9] at hw
    subst eE9
    exact hp_out B0 hw hS hout hce hcv hcl ⟨Nat.le_of_ble_eq_true rfl, Nat.le_of_ble_eq_true rfl⟩ (⟨rfl, ⟨_, _, hq⟩, hKn.rf⟩)
  · exact hP.elim

set_option maxHeartbeats 4000000 in
set_option maxRecDepth 100000 in
theorem c_P_drop_S {l : Launch} (hl : l.stackTraces = false) (G : hG) (f : hM) (xo ez eo bu nw0 na0 nq0 nr0 nw1 na1 nq1 nr1 bs bp bh bf bl bg : Nat) (S0 : ES) (S1 : ES) (gw0 : Nat → Int32) (ga0 : Nat → Int32) (gw1 : Nat → Int32) (ga1 : Nat → Int32) (n : Nat) (a : Nat) (cg : Nat) (x : Nat) (sa : Nat → Nat) (pk : Nat → Nat) (fl : Nat → Nat) (gv : Nat → Nat) (gh : Nat → Int32) (gl : Nat → Int32) (hC : CXW G f xo ez eo bu nw0 na0 nq0 nr0 nw1 na1 nq1 nr1 bs bp bh bf bl bg S0 S1 gw0 ga0 gw1 ga1 n a cg x sa pk fl gv gh gl) (hL0 : S0.2.2.2.2.2.2.2.2.length < 3000) (hL1 : S1.2.2.2.2.2.2.2.2.length < 3000) (j : Nat) (hj : j < 3) (hpl : ¬ fl j < a) : CT l yX4_drop (.code yX4_drop cX4_drop 2 (some .int)) 7 103 1 6 G [.ref xo, .int (nI j)] f (fun v f1 => False) (fun E f1 => E = eS ∧ CXW G f1 xo ez eo bu nw0 na0 nq0 nr0 nw1 na1 nq1 nr1 bs bp bh bf bl bg S0 S1 gw0 ga0 gw1 ga1 n a cg x sa pk fl gv gh gl ∧ hKn [xo, ez, eo, bu, nw0, na0, nq0, nr0, nw1, na1, nq1, nr1, bs, bp, bh, bf, bl, bg] f f1) := by
  refine hp_start hl (own := RX4) (by decide) rfl (Nat.le_of_ble_eq_true rfl) ?_
  intro p e s m args below meth c B0 hr hnm hout hw hS ls hl9
  have hx := B0.1
  have hb := B0.2.1
  have hl9 : lv_has ls 2 [(0, .ref xo), (1, .int (nI j))] := hl9
  obtain ⟨Q0, Q1, hq⟩ := id hC
  have h1 : f xo = some (.inr (4, [.ref ez, .ref eo, .ref bu])) := hq.1
  have h2 : f ez = some (.inr (1, [.ref nw0, .ref na0, .ref nq0, .ref nr0, .int (num S0.2.2.2.2.2.2.1), .int S0.1, .int S0.2.2.2.1, .int S0.2.2.1, .int S0.2.1, .int S0.2.2.2.2.1, .int S0.2.2.2.2.2.1])) := (hq.2.1).1
  have h3 : f eo = some (.inr (1, [.ref nw1, .ref na1, .ref nq1, .ref nr1, .int (num S1.2.2.2.2.2.2.1), .int S1.1, .int S1.2.2.2.1, .int S1.2.2.1, .int S1.2.1, .int S1.2.2.2.2.1, .int S1.2.2.2.2.2.1])) := (hq.2.2.1).1
  refine lv_aload_n hx hb dX4_drop_0 rfl (lv_at hl9 0 rfl) ?_
  refine lv_iload_n hx hb dX4_drop_1 rfl (lv_at hl9 1 rfl) ?_
  refine hp_V (ci := 4) (As := [.int (nI j)]) (rest := []) B0 hw hS (c_P_refuse_S hl G f xo ez eo bu nw0 na0 nq0 nr0 nw1 na1 nq1 nr1 bs bp bh bf bl bg S0 S1 gw0 ga0 gw1 ga1 n a cg x sa pk fl gv gh gl hC hL0 hL1 j hj hpl) mV_X4_refuseEmptyLine qM_X4_125 rfl h1 rfl rfl hl9.1 (Nat.le_of_ble_eq_true rfl) ⟨⟨Nat.le_of_ble_eq_true rfl, Nat.le_of_ble_eq_true rfl⟩, Nat.le_of_ble_eq_true rfl, Nat.le_of_ble_eq_true rfl⟩ dX4_drop_2 (fun E ce q9 f4 H locs hPX hw hS hce hcv hcl => ?_) (fun v f4 H locs hP hw hS => ?_)
  · obtain ⟨eE9, ef9⟩ := hPX
    rw [ef9] at hw
    subst eE9
    exact hp_out B0 hw hS hout hce hcv hcl ⟨Nat.le_of_ble_eq_true rfl, Nat.le_of_ble_eq_true rfl⟩ (⟨rfl, ⟨_, _, hq⟩, hKn.rf⟩)
  · exact hP.elim

set_option maxHeartbeats 4000000 in
set_option maxRecDepth 100000 in
theorem c_P_drop_L {l : Launch} (hl : l.stackTraces = false) (G : hG) (f : hM) (xo ez eo bu nw0 na0 nq0 nr0 nw1 na1 nq1 nr1 bs bp bh bf bl bg : Nat) (S0 : ES) (S1 : ES) (gw0 : Nat → Int32) (ga0 : Nat → Int32) (gw1 : Nat → Int32) (ga1 : Nat → Int32) (n : Nat) (a : Nat) (cg : Nat) (x : Nat) (sa : Nat → Nat) (pk : Nat → Nat) (fl : Nat → Nat) (gv : Nat → Nat) (gh : Nat → Int32) (gl : Nat → Int32) (hC : CXW G f xo ez eo bu nw0 na0 nq0 nr0 nw1 na1 nq1 nr1 bs bp bh bf bl bg S0 S1 gw0 ga0 gw1 ga1 n a cg x sa pk fl gv gh gl) (hL0 : S0.2.2.2.2.2.2.2.2.length < 3000) (hL1 : S1.2.2.2.2.2.2.2.2.length < 3000) (xv : Int32) (hv : ¬ sL xv) : CT l yX4_drop (.code yX4_drop cX4_drop 2 (some .int)) 7 103 1 6 G [.ref xo, .int xv] f (fun v f1 => False) (fun E f1 => E = eI ∧ CXW G f1 xo ez eo bu nw0 na0 nq0 nr0 nw1 na1 nq1 nr1 bs bp bh bf bl bg S0 S1 gw0 ga0 gw1 ga1 n a cg x sa pk fl gv gh gl ∧ hKn [xo, ez, eo, bu, nw0, na0, nq0, nr0, nw1, na1, nq1, nr1, bs, bp, bh, bf, bl, bg] f f1) := by
  refine hp_start hl (own := RX4) (by decide) rfl (Nat.le_of_ble_eq_true rfl) ?_
  intro p e s m args below meth c B0 hr hnm hout hw hS ls hl9
  have hx := B0.1
  have hb := B0.2.1
  have hl9 : lv_has ls 2 [(0, .ref xo), (1, .int xv)] := hl9
  obtain ⟨Q0, Q1, hq⟩ := id hC
  have h1 : f xo = some (.inr (4, [.ref ez, .ref eo, .ref bu])) := hq.1
  have h2 : f ez = some (.inr (1, [.ref nw0, .ref na0, .ref nq0, .ref nr0, .int (num S0.2.2.2.2.2.2.1), .int S0.1, .int S0.2.2.2.1, .int S0.2.2.1, .int S0.2.1, .int S0.2.2.2.2.1, .int S0.2.2.2.2.2.1])) := (hq.2.1).1
  have h3 : f eo = some (.inr (1, [.ref nw1, .ref na1, .ref nq1, .ref nr1, .int (num S1.2.2.2.2.2.2.1), .int S1.1, .int S1.2.2.2.1, .int S1.2.2.1, .int S1.2.1, .int S1.2.2.2.2.1, .int S1.2.2.2.2.2.1])) := (hq.2.2.1).1
  refine lv_aload_n hx hb dX4_drop_0 rfl (lv_at hl9 0 rfl) ?_
  refine lv_iload_n hx hb dX4_drop_1 rfl (lv_at hl9 1 rfl) ?_
  refine hp_V (ci := 4) (As := [.int xv]) (rest := []) B0 hw hS (c_P_refuse_L hl G f xo ez eo bu nw0 na0 nq0 nr0 nw1 na1 nq1 nr1 bs bp bh bf bl bg S0 S1 gw0 ga0 gw1 ga1 n a cg x sa pk fl gv gh gl hC hL0 hL1 xv hv) mV_X4_refuseEmptyLine qM_X4_125 rfl h1 rfl rfl hl9.1 (Nat.le_of_ble_eq_true rfl) ⟨⟨Nat.le_of_ble_eq_true rfl, Nat.le_of_ble_eq_true rfl⟩, Nat.le_of_ble_eq_true rfl, Nat.le_of_ble_eq_true rfl⟩ dX4_drop_2 (fun E ce q9 f4 H locs hPX hw hS hce hcv hcl => ?_) (fun v f4 H locs hP hw hS => ?_)
  · obtain ⟨eE9, ef9⟩ := hPX
    rw [ef9] at hw
    subst eE9
    exact hp_out B0 hw hS hout hce hcv hcl ⟨Nat.le_of_ble_eq_true rfl, Nat.le_of_ble_eq_true rfl⟩ (⟨rfl, ⟨_, _, hq⟩, hKn.rf⟩)
  · exact hP.elim

set_option maxHeartbeats 4000000 in
set_option maxRecDepth 100000 in
theorem c_P_given_ok {l : Launch} (hl : l.stackTraces = false) (G : hG) (f : hM) (xo ez eo bu nw0 na0 nq0 nr0 nw1 na1 nq1 nr1 bs bp bh bf bl bg : Nat) (S0 : ES) (S1 : ES) (gw0 : Nat → Int32) (ga0 : Nat → Int32) (gw1 : Nat → Int32) (ga1 : Nat → Int32) (n : Nat) (a : Nat) (cg : Nat) (x : Nat) (sa : Nat → Nat) (pk : Nat → Nat) (fl : Nat → Nat) (gv : Nat → Nat) (gh : Nat → Int32) (gl : Nat → Int32) (hC : CXW G f xo ez eo bu nw0 na0 nq0 nr0 nw1 na1 nq1 nr1 bs bp bh bf bl bg S0 S1 gw0 ga0 gw1 ga1 n a cg x sa pk fl gv gh gl) (hL0 : S0.2.2.2.2.2.2.2.2.length < 3000) (hL1 : S1.2.2.2.2.2.2.2.2.length < 3000)  : CT l yX4_given (.code yX4_given cX4_given 1 (some .int)) 0 0 0 0 G [.ref xo] f (fun v f1 => v = some (.int (nI cg)) ∧ CXW G f1 xo ez eo bu nw0 na0 nq0 nr0 nw1 na1 nq1 nr1 bs bp bh bf bl bg S0 S1 gw0 ga0 gw1 ga1 n a cg x sa pk fl gv gh gl ∧ hKn [xo, ez, eo, bu, nw0, na0, nq0, nr0, nw1, na1, nq1, nr1, bs, bp, bh, bf, bl, bg] f f1) (fun E f1 => False) := by
  refine hp_start hl (own := RX4) (by decide) rfl (Nat.le_of_ble_eq_true rfl) ?_
  intro p e s m args below meth c B0 hr hnm hout hw hS ls hl9
  have hx := B0.1
  have hb := B0.2.1
  have hl9 : lv_has ls 1 [(0, .ref xo)] := hl9
  obtain ⟨Q0, Q1, hq⟩ := id hC
  have h1 : f xo = some (.inr (4, [.ref ez, .ref eo, .ref bu])) := hq.1
  have h2 : f ez = some (.inr (1, [.ref nw0, .ref na0, .ref nq0, .ref nr0, .int (num S0.2.2.2.2.2.2.1), .int S0.1, .int S0.2.2.2.1, .int S0.2.2.1, .int S0.2.1, .int S0.2.2.2.2.1, .int S0.2.2.2.2.2.1])) := (hq.2.1).1
  have h3 : f eo = some (.inr (1, [.ref nw1, .ref na1, .ref nq1, .ref nr1, .int (num S1.2.2.2.2.2.2.1), .int S1.1, .int S1.2.2.2.1, .int S1.2.2.1, .int S1.2.1, .int S1.2.2.2.2.1, .int S1.2.2.2.2.2.1])) := (hq.2.2.1).1
  have h4 : f bu = some (.inr (0, [.ref bs, .ref bp, .ref bh, .ref bf, .ref bl, .ref bg, .int (nI n), .int (nI cg), .int (nI x)])) := hq.2.2.2.2.2.2.2.1
  refine lv_aload_n hx hb dX4_given_0 rfl (lv_at hl9 0 rfl) ?_
  refine hp_get B0 hw 4 rfl in_X4 h1 2 (by decide) qF_X4_24 rfl dX4_given_1 ?_
  refine hp_getN B0 hw 0 rfl in_X0 h4 7 (by decide) oF_X4_134 rfl dX4_given_4 ?_
  exact hp_iret (v := (nI cg)) B0 hw hS hr ⟨Nat.le_of_ble_eq_true rfl, Nat.le_of_ble_eq_true rfl⟩ dX4_given_7 (⟨rfl, ⟨_, _, hq⟩, hKn.rf⟩)

set_option maxHeartbeats 4000000 in
set_option maxRecDepth 100000 in
theorem c_P_next_ok {l : Launch} (hl : l.stackTraces = false) (G : hG) (f : hM) (xo ez eo bu nw0 na0 nq0 nr0 nw1 na1 nq1 nr1 bs bp bh bf bl bg : Nat) (S0 : ES) (S1 : ES) (gw0 : Nat → Int32) (ga0 : Nat → Int32) (gw1 : Nat → Int32) (ga1 : Nat → Int32) (n : Nat) (a : Nat) (cg : Nat) (x : Nat) (sa : Nat → Nat) (pk : Nat → Nat) (fl : Nat → Nat) (gv : Nat → Nat) (gh : Nat → Int32) (gl : Nat → Int32) (hC : CXW G f xo ez eo bu nw0 na0 nq0 nr0 nw1 na1 nq1 nr1 bs bp bh bf bl bg S0 S1 gw0 ga0 gw1 ga1 n a cg x sa pk fl gv gh gl) (hL0 : S0.2.2.2.2.2.2.2.2.length < 3000) (hL1 : S1.2.2.2.2.2.2.2.2.length < 3000)  : CT l yX4_next (.code yX4_next cX4_next 1 (some .int)) 0 0 0 0 G [.ref xo] f (fun v f1 => v = some (.int (nI x)) ∧ CXW G f1 xo ez eo bu nw0 na0 nq0 nr0 nw1 na1 nq1 nr1 bs bp bh bf bl bg S0 S1 gw0 ga0 gw1 ga1 n a cg x sa pk fl gv gh gl ∧ hKn [xo, ez, eo, bu, nw0, na0, nq0, nr0, nw1, na1, nq1, nr1, bs, bp, bh, bf, bl, bg] f f1) (fun E f1 => False) := by
  refine hp_start hl (own := RX4) (by decide) rfl (Nat.le_of_ble_eq_true rfl) ?_
  intro p e s m args below meth c B0 hr hnm hout hw hS ls hl9
  have hx := B0.1
  have hb := B0.2.1
  have hl9 : lv_has ls 1 [(0, .ref xo)] := hl9
  obtain ⟨Q0, Q1, hq⟩ := id hC
  have h1 : f xo = some (.inr (4, [.ref ez, .ref eo, .ref bu])) := hq.1
  have h2 : f ez = some (.inr (1, [.ref nw0, .ref na0, .ref nq0, .ref nr0, .int (num S0.2.2.2.2.2.2.1), .int S0.1, .int S0.2.2.2.1, .int S0.2.2.1, .int S0.2.1, .int S0.2.2.2.2.1, .int S0.2.2.2.2.2.1])) := (hq.2.1).1
  have h3 : f eo = some (.inr (1, [.ref nw1, .ref na1, .ref nq1, .ref nr1, .int (num S1.2.2.2.2.2.2.1), .int S1.1, .int S1.2.2.2.1, .int S1.2.2.1, .int S1.2.1, .int S1.2.2.2.2.1, .int S1.2.2.2.2.2.1])) := (hq.2.2.1).1
  have h4 : f bu = some (.inr (0, [.ref bs, .ref bp, .ref bh, .ref bf, .ref bl, .ref bg, .int (nI n), .int (nI cg), .int (nI x)])) := hq.2.2.2.2.2.2.2.1
  refine lv_aload_n hx hb dX4_next_0 rfl (lv_at hl9 0 rfl) ?_
  refine hp_get B0 hw 4 rfl in_X4 h1 2 (by decide) qF_X4_24 rfl dX4_next_1 ?_
  refine hp_getN B0 hw 0 rfl in_X0 h4 8 (by decide) oF_X4_145 rfl dX4_next_4 ?_
  exact hp_iret (v := (nI x)) B0 hw hS hr ⟨Nat.le_of_ble_eq_true rfl, Nat.le_of_ble_eq_true rfl⟩ dX4_next_7 (⟨rfl, ⟨_, _, hq⟩, hKn.rf⟩)

theorem BOK.cc {n a c x : Nat} {s pk : Nat → Nat} (h : BOK n a c x s pk) : c ≤ 60 := by
  obtain ⟨q, h1, h2, h3⟩ := h.2.2.2.2.2.2
  have h4 := h.1
  omega
set_option maxHeartbeats 4000000 in
set_option maxRecDepth 100000 in
theorem c_P_givenAt_ok {l : Launch} (hl : l.stackTraces = false) (G : hG) (f : hM) (xo ez eo bu nw0 na0 nq0 nr0 nw1 na1 nq1 nr1 bs bp bh bf bl bg : Nat) (S0 : ES) (S1 : ES) (gw0 : Nat → Int32) (ga0 : Nat → Int32) (gw1 : Nat → Int32) (ga1 : Nat → Int32) (n : Nat) (a : Nat) (cg : Nat) (x : Nat) (sa : Nat → Nat) (pk : Nat → Nat) (fl : Nat → Nat) (gv : Nat → Nat) (gh : Nat → Int32) (gl : Nat → Int32) (hC : CXW G f xo ez eo bu nw0 na0 nq0 nr0 nw1 na1 nq1 nr1 bs bp bh bf bl bg S0 S1 gw0 ga0 gw1 ga1 n a cg x sa pk fl gv gh gl) (hL0 : S0.2.2.2.2.2.2.2.2.length < 3000) (hL1 : S1.2.2.2.2.2.2.2.2.length < 3000) (j : Nat) (hj : j < cg) : CT l yX4_givenAt (.code yX4_givenAt cX4_givenAt 2 (some .int)) 0 0 0 0 G [.ref xo, .int (nI j)] f (fun v f1 => v = some (.int (nI (gv j))) ∧ CXW G f1 xo ez eo bu nw0 na0 nq0 nr0 nw1 na1 nq1 nr1 bs bp bh bf bl bg S0 S1 gw0 ga0 gw1 ga1 n a cg x sa pk fl gv gh gl ∧ hKn [xo, ez, eo, bu, nw0, na0, nq0, nr0, nw1, na1, nq1, nr1, bs, bp, bh, bf, bl, bg] f f1) (fun E f1 => False) := by
  refine hp_start hl (own := RX4) (by decide) rfl (Nat.le_of_ble_eq_true rfl) ?_
  intro p e s m args below meth c B0 hr hnm hout hw hS ls hl9
  have hx := B0.1
  have hb := B0.2.1
  have hl9 : lv_has ls 2 [(0, .ref xo), (1, .int (nI j))] := hl9
  obtain ⟨Q0, Q1, hq⟩ := id hC
  have h1 : f xo = some (.inr (4, [.ref ez, .ref eo, .ref bu])) := hq.1
  have h2 : f ez = some (.inr (1, [.ref nw0, .ref na0, .ref nq0, .ref nr0, .int (num S0.2.2.2.2.2.2.1), .int S0.1, .int S0.2.2.2.1, .int S0.2.2.1, .int S0.2.1, .int S0.2.2.2.2.1, .int S0.2.2.2.2.2.1])) := (hq.2.1).1
  have h3 : f eo = some (.inr (1, [.ref nw1, .ref na1, .ref nq1, .ref nr1, .int (num S1.2.2.2.2.2.2.1), .int S1.1, .int S1.2.2.2.1, .int S1.2.2.1, .int S1.2.1, .int S1.2.2.2.2.1, .int S1.2.2.2.2.2.1])) := (hq.2.2.1).1
  have h4 : f bu = some (.inr (0, [.ref bs, .ref bp, .ref bh, .ref bf, .ref bl, .ref bg, .int (nI n), .int (nI cg), .int (nI x)])) := hq.2.2.2.2.2.2.2.1
  have h5 : f bg = some (.inl (cI G, 60, .inl (nf gv))) := hq.2.2.2.2.2.2.2.2.2.2.2.2.2.1
  have hc60 := (hq.2.2.2.2.2.2.2.2.2.2.2.2.2.2.1).cc
  refine lv_iload_n hx hb dX4_givenAt_0 rfl (lv_at hl9 1 rfl) ?_
  refine lv_if_lt (tgt := 15) hx hb dX4_givenAt_1 (by decide) (fun c9 => absurd c9 (nI_pos (by omega))) (fun _ => ?_)
  refine lv_iload_n hx hb dX4_givenAt_4 rfl (lv_at hl9 1 rfl) ?_
  refine lv_aload_n hx hb dX4_givenAt_5 rfl (lv_at hl9 0 rfl) ?_
  refine hp_get B0 hw 4 rfl in_X4 h1 2 (by decide) qF_X4_24 rfl dX4_givenAt_6 ?_
  refine hp_getN B0 hw 0 rfl in_X0 h4 7 (by decide) oF_X4_134 rfl dX4_givenAt_9 ?_
  refine lv_icmp_lt (tgt := 25) hx hb dX4_givenAt_12 (by decide) (fun _ => ?_) (fun c9 => absurd (nI_lt hj (by omega)) c9)
  refine lv_aload_n hx hb dX4_givenAt_25 rfl (lv_at hl9 0 rfl) ?_
  refine hp_get B0 hw 4 rfl in_X4 h1 2 (by decide) qF_X4_24 rfl dX4_givenAt_26 ?_
  refine hp_getN B0 hw 0 rfl in_X0 h4 5 (by decide) oF_X4_142 rfl dX4_givenAt_29 ?_
  refine lv_iload_n hx hb dX4_givenAt_32 rfl (lv_at hl9 1 rfl) ?_
  refine hp_iald B0 hw h5 (vp_in_nI (show j < 60 by omega) (by omega)) dX4_givenAt_33 ?_
  refine hp_c (v := (nI (gv j))) (nf_at (nI_clamp (by omega))) ?_
  exact hp_iret (v := (nI (gv j))) B0 hw hS hr ⟨Nat.le_of_ble_eq_true rfl, Nat.le_of_ble_eq_true rfl⟩ dX4_givenAt_34 (⟨rfl, ⟨_, _, hq⟩, hKn.rf⟩)

set_option maxHeartbeats 4000000 in
set_option maxRecDepth 100000 in
theorem c_P_givenAt_I {l : Launch} (hl : l.stackTraces = false) (G : hG) (f : hM) (xo ez eo bu nw0 na0 nq0 nr0 nw1 na1 nq1 nr1 bs bp bh bf bl bg : Nat) (S0 : ES) (S1 : ES) (gw0 : Nat → Int32) (ga0 : Nat → Int32) (gw1 : Nat → Int32) (ga1 : Nat → Int32) (n : Nat) (a : Nat) (cg : Nat) (x : Nat) (sa : Nat → Nat) (pk : Nat → Nat) (fl : Nat → Nat) (gv : Nat → Nat) (gh : Nat → Int32) (gl : Nat → Int32) (hC : CXW G f xo ez eo bu nw0 na0 nq0 nr0 nw1 na1 nq1 nr1 bs bp bh bf bl bg S0 S1 gw0 ga0 gw1 ga1 n a cg x sa pk fl gv gh gl) (hL0 : S0.2.2.2.2.2.2.2.2.length < 3000) (hL1 : S1.2.2.2.2.2.2.2.2.length < 3000) (xv : Int32) (hv : ¬ (0 ≤ xv.toInt ∧ xv.toInt < (cg : Int))) : CT l yX4_givenAt (.code yX4_givenAt cX4_givenAt 2 (some .int)) 6 82 1 6 G [.ref xo, .int xv] f (fun v f1 => False) (fun E f1 => E = eI ∧ CXW G f1 xo ez eo bu nw0 na0 nq0 nr0 nw1 na1 nq1 nr1 bs bp bh bf bl bg S0 S1 gw0 ga0 gw1 ga1 n a cg x sa pk fl gv gh gl ∧ hKn [xo, ez, eo, bu, nw0, na0, nq0, nr0, nw1, na1, nq1, nr1, bs, bp, bh, bf, bl, bg] f f1) := by
  refine hp_start hl (own := RX4) (by decide) rfl (Nat.le_of_ble_eq_true rfl) ?_
  intro p e s m args below meth c B0 hr hnm hout hw hS ls hl9
  have hx := B0.1
  have hb := B0.2.1
  have hl9 : lv_has ls 2 [(0, .ref xo), (1, .int xv)] := hl9
  obtain ⟨Q0, Q1, hq⟩ := id hC
  have h1 : f xo = some (.inr (4, [.ref ez, .ref eo, .ref bu])) := hq.1
  have h2 : f ez = some (.inr (1, [.ref nw0, .ref na0, .ref nq0, .ref nr0, .int (num S0.2.2.2.2.2.2.1), .int S0.1, .int S0.2.2.2.1, .int S0.2.2.1, .int S0.2.1, .int S0.2.2.2.2.1, .int S0.2.2.2.2.2.1])) := (hq.2.1).1
  have h3 : f eo = some (.inr (1, [.ref nw1, .ref na1, .ref nq1, .ref nr1, .int (num S1.2.2.2.2.2.2.1), .int S1.1, .int S1.2.2.2.1, .int S1.2.2.1, .int S1.2.1, .int S1.2.2.2.2.1, .int S1.2.2.2.2.2.1])) := (hq.2.2.1).1
  have h4 : f bu = some (.inr (0, [.ref bs, .ref bp, .ref bh, .ref bf, .ref bl, .ref bg, .int (nI n), .int (nI cg), .int (nI x)])) := hq.2.2.2.2.2.2.2.1
  have h5 : f bg = some (.inl (cI G, 60, .inl (nf gv))) := hq.2.2.2.2.2.2.2.2.2.2.2.2.2.1
  have hc60 := (hq.2.2.2.2.2.2.2.2.2.2.2.2.2.2.1).cc
  refine lv_iload_n hx hb dX4_givenAt_0 rfl (lv_at hl9 1 rfl) ?_
  refine lv_if_lt (tgt := 15) hx hb dX4_givenAt_1 (by decide) (fun c6 => ?_) (fun c6 => ?_)
  · exact hp_throw (cls := eI) (names := tNm) B0 hw hS hout tF_eI qC_X4_137 qN_java_lang_IndexOutOfBoundsException sR_X4_139 tA_eI tB_eI tG_eI hl9.1 dX4_givenAt_15 dX4_givenAt_18 dX4_givenAt_19 dX4_givenAt_21 dX4_givenAt_24 ⟨⟨Nat.le_of_ble_eq_true rfl, Nat.le_of_ble_eq_true rfl⟩, Nat.le_of_ble_eq_true rfl, Nat.le_of_ble_eq_true rfl⟩ ⟨Nat.le_of_ble_eq_true rfl, Nat.le_of_ble_eq_true rfl⟩ (⟨rfl, ⟨_, _, hq⟩, hKn.rf⟩)
  · refine lv_iload_n hx hb dX4_givenAt_4 rfl (lv_at hl9 1 rfl) ?_
    refine lv_aload_n hx hb dX4_givenAt_5 rfl (lv_at hl9 0 rfl) ?_
    refine hp_get B0 hw 4 rfl in_X4 h1 2 (by decide) qF_X4_24 rfl dX4_givenAt_6 ?_
    refine hp_getN B0 hw 0 rfl in_X0 h4 7 (by decide) oF_X4_134 rfl dX4_givenAt_9 ?_
    refine lv_icmp_lt (tgt := 25) hx hb dX4_givenAt_12 (by decide) (fun c9 => absurd c9 (fun h9 => hv ⟨by have h1 := c6; rw [jlt, tq0] at h1; omega, by rw [jlt, nI_toInt (by omega)] at h9; exact h9⟩)) (fun _ => ?_)
    exact hp_throw (cls := eI) (names := tNm) B0 hw hS hout tF_eI qC_X4_137 qN_java_lang_IndexOutOfBoundsException sR_X4_139 tA_eI tB_eI tG_eI hl9.1 dX4_givenAt_15 dX4_givenAt_18 dX4_givenAt_19 dX4_givenAt_21 dX4_givenAt_24 ⟨⟨Nat.le_of_ble_eq_true rfl, Nat.le_of_ble_eq_true rfl⟩, Nat.le_of_ble_eq_true rfl, Nat.le_of_ble_eq_true rfl⟩ ⟨Nat.le_of_ble_eq_true rfl, Nat.le_of_ble_eq_true rfl⟩ (⟨rfl, ⟨_, _, hq⟩, hKn.rf⟩)

