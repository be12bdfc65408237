section HFOR
variable {p : Program} {l : Launch} {e : Env} {R : Room} {s : State} {m : MethodId} {args : Array Value} {below : List Frame} {meth : Method} {c : Code} {cells slots : Nat} {Q : State → Prop}
variable {nL pc : Nat} {G : hG}
/-- a counted loop: its head with what holds there, for each count -/
theorem hp_for (I : Nat → hM → List (Nat × Value) → Prop) (T : Nat)
    (step : ∀ (j : Nat) (f : hM) (lv : List (Nat × Value)) (H : Heap) (locs : List Loc) (ls : Array Slot), j < T → I j f lv → hW G f H → va_S (hFr G) s.heap H locs → lv_has ls nL lv →
      (∀ (f : hM) (lv : List (Nat × Value)) (H : Heap) (locs : List Loc) (ls : Array Slot), I (j + 1) f lv → hW G f H → va_S (hFr G) s.heap H locs → lv_has ls nL lv → W p l e R s m args below meth c H locs cells slots Q (F0 m pc ls [])) → W p l e R s m args below meth c H locs cells slots Q (F0 m pc ls []))
    (exit : ∀ (f : hM) (lv : List (Nat × Value)) (H : Heap) (locs : List Loc) (ls : Array Slot), I T f lv → hW G f H → va_S (hFr G) s.heap H locs → lv_has ls nL lv → W p l e R s m args below meth c H locs cells slots Q (F0 m pc ls [])) :
    ∀ (n j : Nat), j + n = T → ∀ (f : hM) (lv : List (Nat × Value)) (H : Heap) (locs : List Loc) (ls : Array Slot), I j f lv → hW G f H → va_S (hFr G) s.heap H locs → lv_has ls nL lv → W p l e R s m args below meth c H locs cells slots Q (F0 m pc ls []) := by
  intro n
  induction n with
  | zero =>
    intro j hj f lv H locs ls hI hw hS hl
    have e9 : j = T := by omega
    subst e9
    exact exit f lv H locs ls hI hw hS hl
  | succ n ih =>
    intro j hj f lv H locs ls hI hw hS hl
    exact step j f lv H locs ls (by omega) hI hw hS hl (fun f2 lv2 H2 locs2 ls2 h1 h2 h3 h4 => ih (j + 1) (by omega) f2 lv2 H2 locs2 ls2 h1 h2 h3 h4)
end HFOR
theorem cn_lt {x : Int32} {n : Nat} (h : vp_in x n) : x.toNatClampNeg < n := Nat.not_le.mp (fun q => h (Or.inr q))
theorem vin3 {o : Int32} (h : sL o) : vp_in o 3 := vp_in_iff.mpr ⟨h.1, h.2⟩
theorem F3_ge : ∀ j, j < 3 → (0 : Int32) ≤ (upd (upd (upd (fun _ => 0) (0 : Int32).toNatClampNeg 0) (1 : Int32).toNatClampNeg 1) (2 : Int32).toNatClampNeg 2) j := by decide
/-! Frames: any number of them, each with its row of six; what holds of all of them at once. -/
def FRef (f : hM) (v : Value) : Prop := v = .null ∨ ∃ (b : Nat) (k : List Value), v = .ref b ∧ f b = some (.inr (2, k))
def PoolX (G : hG) (S : List Nat) (f : hM) : Prop := ∀ (a : Nat) (k : List Value), f a = some (.inr (2, k)) → a ∉ S → ∃ (x1 x2 x3 : Int32) (v : Nat) (bh : Value) (g : Nat → Int32), k = [.int x1, .int x2, .int x3, .ref v, bh] ∧ f v = some (.inl (cI G, 6, .inl g)) ∧ FRef f bh
/-- cells that are no frames and not in S stay; frames stay frames -/
def hKp (S : List Nat) (f f1 : hM) : Prop := (∀ a e, f a = some e → hTag e ≠ 3 → a ∉ S → f1 a = some e) ∧ ∀ a k, f a = some (.inr (2, k)) → ∃ k1, f1 a = some (.inr (2, k1))
theorem hKp.rf {S : List Nat} {f : hM} : hKp S f f := ⟨fun _ _ h _ _ => h, fun _ k h => ⟨k, h⟩⟩
theorem hKp.tr {S : List Nat} {f f1 f2 : hM} (h : hKp S f f1) (h2 : hKp S f1 f2) : hKp S f f2 :=
  ⟨fun a e q t n => h2.1 a e (h.1 a e q t n) t n, fun a k q => by obtain ⟨k1, q1⟩ := h.2 a k q; exact h2.2 a k1 q1⟩
theorem hKp.mono {S T : List Nat} {f f1 : hM} (h : hKp S f f1) (hs : ∀ a, a ∈ S → a ∈ T) : hKp T f f1 := ⟨fun a e q t n => h.1 a e q t (fun z => n (hs a z)), h.2⟩
theorem hTag3 {e : va_E} (h : hTag e = 3) : ∃ k, e = .inr (2, k) := by
  cases e with
  | inl x => exact absurd h (by show (0 : Nat) ≠ 3; decide)
  | inr o => obtain ⟨c, k⟩ := o; have h9 : c + 1 = 3 := h; exact ⟨k, by rw [show c = 2 by omega]⟩
theorem hKp.of {S : List Nat} {f f1 : hM} (h : hKeep S f f1) (hS : ∀ a ∈ S, ∀ k, f a ≠ some (.inr (2, k))) : hKp S f f1 :=
  ⟨fun a e q _ n => h a e q n, fun a k q => ⟨k, h a _ q (fun n => hS a n k q)⟩⟩
/-- one cell of S is written, no frame before and after -/
theorem hKp.up {S : List Nat} {f : hM} {a : Nat} {e0 e1 : va_E} (ha : f a = some e0) (h0 : hTag e0 ≠ 3) (hS : a ∈ S) : hKp S f (va_up f a (some e1)) := by
  refine ⟨fun b e q _ n => ?_, fun b k q => ⟨k, ?_⟩⟩
  · rw [va_up_ne _ _ (fun z => n (by rw [z]; exact hS))]; exact q
  · rw [va_up_ne _ _ (fun z => by rw [z, ha] at q; cases q; exact h0 rfl)]; exact q
/-- a frame is written, and stays one -/
theorem hKp.fr {S : List Nat} {f : hM} {a : Nat} {k0 k1 : List Value} (ha : f a = some (.inr (2, k0))) : hKp S f (va_up f a (some (.inr (2, k1)))) := by
  refine ⟨fun b e q t _ => ?_, fun b k q => ?_⟩
  · rw [va_up_ne _ _ (fun z => by rw [z, ha] at q; cases q; exact t rfl)]; exact q
  · by_cases z : b = a
    · rw [z, va_up_self]; exact ⟨k1, rfl⟩
    · rw [va_up_ne _ _ z]; exact ⟨k, q⟩
theorem hKp.new {S : List Nat} {f : hM} {q : Nat} {e : va_E} (hq : f q = none) : hKp S f (va_up f q (some e)) := by
  refine ⟨fun b x h _ _ => ?_, fun b k h => ⟨k, ?_⟩⟩ <;> (rw [va_up_ne _ _ (fun z => by rw [z, hq] at h; cases h)]; exact h)
/-- what was made anew may be written too -/
theorem hKp.trn {S : List Nat} {f f2 : hM} {q : Nat} (hq : f q = none) (h2 : hKp (q :: S) f f2) : hKp S f f2 := ⟨fun a e h t n => h2.1 a e h t (ninc (fun z => by rw [z, hq] at h; cases h) n), h2.2⟩
theorem FRef.kp {S : List Nat} {f f1 : hM} {v : Value} (h : FRef f v) (k : hKp S f f1) : FRef f1 v := by
  rcases h with h | ⟨b, x, h1, h2⟩
  · exact Or.inl h
  · obtain ⟨x1, h3⟩ := k.2 b x h2
    exact Or.inr ⟨b, x1, h1, h3⟩
theorem FRef.nul {f : hM} : FRef f .null := Or.inl rfl
theorem FRef.ref {f : hM} {b : Nat} {k : List Value} (h : f b = some (.inr (2, k))) : FRef f (.ref b) := Or.inr ⟨b, k, rfl, h⟩
theorem px_upd {G : hG} {S : List Nat} {f : hM} {a : Nat} {e0 e1 : va_E} (h : PoolX G S f) (ha : f a = some e0) (h0 : hTag e0 ≠ 3) (h1 : hTag e1 ≠ 3) (hr : ∀ g, e0 = .inl (cI G, 6, .inl g) → ∃ g', e1 = .inl (cI G, 6, .inl g')) : PoolX G S (va_up f a (some e1)) := by
  intro b k hb hn
  have hba : b ≠ a := fun z => by rw [z, va_up_self] at hb; cases hb; exact h1 rfl
  rw [va_up_ne _ _ hba] at hb
  obtain ⟨x1, x2, x3, v, bh, g, h2, h3, h4⟩ := h b k hb hn
  have h5 := h4.kp (hKp.up (S := [a]) (e1 := e1) ha h0 List.mem_cons_self)
  by_cases z : v = a
  · rw [z, ha] at h3
    cases h3
    obtain ⟨g', hg⟩ := hr g rfl
    exact ⟨x1, x2, x3, v, bh, g', h2, by rw [z, va_up_self, hg], h5⟩
  · exact ⟨x1, x2, x3, v, bh, g, h2, by rw [va_up_ne _ _ z]; exact h3, h5⟩
theorem px_new {G : hG} {S : List Nat} {f : hM} {q : Nat} {e : va_E} (h : PoolX G S f) (hq : f q = none) (h1 : hTag e ≠ 3) : PoolX G S (va_up f q (some e)) := by
  intro b k hb hn
  have hba : b ≠ q := fun z => by rw [z, va_up_self] at hb; cases hb; exact h1 rfl
  rw [va_up_ne _ _ hba] at hb
  obtain ⟨x1, x2, x3, v, bh, g, h2, h3, h4⟩ := h b k hb hn
  exact ⟨x1, x2, x3, v, bh, g, h2, by rw [va_up_ne _ _ (fun z => by rw [z, hq] at h3; cases h3)]; exact h3, h4.kp (hKp.new (S := []) hq)⟩
theorem px_newF {G : hG} {S : List Nat} {f : hM} {q : Nat} {k9 : List Value} (h : PoolX G S f) (hq : f q = none) : PoolX G (q :: S) (va_up f q (some (.inr (2, k9)))) := by
  intro b k hb hn
  have hba : b ≠ q := fun z => hn (by rw [z]; exact List.mem_cons_self)
  rw [va_up_ne _ _ hba] at hb
  obtain ⟨x1, x2, x3, v, bh, g, h2, h3, h4⟩ := h b k hb (fun z => hn (List.mem_cons_of_mem _ z))
  exact ⟨x1, x2, x3, v, bh, g, h2, by rw [va_up_ne _ _ (fun z => by rw [z, hq] at h3; cases h3)]; exact h3, h4.kp (hKp.new (S := []) hq)⟩
theorem px_frame {G : hG} {S S1 : List Nat} {f : hM} {a : Nat} {k0 : List Value} {x1 x2 x3 : Int32} {v : Nat} {bh : Value} {g : Nat → Int32} (h : PoolX G S f) (ha : f a = some (.inr (2, k0))) (hv : f v = some (.inl (cI G, 6, .inl g))) (hb : FRef f bh) (hS : ∀ b, b ∈ S → b ≠ a → b ∈ S1) : PoolX G S1 (va_up f a (some (.inr (2, [.int x1, .int x2, .int x3, .ref v, bh])))) := by
  have key : ∀ {w : Value}, FRef f w → FRef (va_up f a (some (.inr (2, [.int x1, .int x2, .int x3, .ref v, bh])))) w := fun hw => hw.kp (hKp.fr (S := []) ha)
  have arr : ∀ {z : Nat} {y : Nat → Int32}, f z = some (.inl (cI G, 6, .inl y)) → va_up f a (some (.inr (2, [.int x1, .int x2, .int x3, .ref v, bh]))) z = some (.inl (cI G, 6, .inl y)) := fun hz => by
    rw [va_up_ne _ _ (fun e => by rw [e, ha] at hz; cases hz)]; exact hz
  intro b k hb9 hn
  by_cases z : b = a
  · rw [z, va_up_self] at hb9
    cases hb9
    exact ⟨x1, x2, x3, v, bh, g, rfl, arr hv, key hb⟩
  · rw [va_up_ne _ _ z] at hb9
    obtain ⟨y1, y2, y3, v2, bh2, g2, h2, h3, h4⟩ := h b k hb9 (fun q => hn (hS b q z))
    exact ⟨y1, y2, y3, v2, bh2, g2, h2, arr h3, key h4⟩
section HFORC
variable {p : Program} {l : Launch} {e : Env} {R : Room} {s : State} {m : MethodId} {args : Array Value} {below : List Frame} {meth : Method} {c : Code} {Q : State → Prop}
variable {nL pc : Nat} {G : hG}
/-- a counted loop that makes cells: so many a round -/
theorem hp_forC (I : Nat → hM → List (Nat × Value) → Prop) (T c0 s0 dc ds : Nat)
    (step : ∀ (j : Nat) (f : hM) (lv : List (Nat × Value)) (H : Heap) (locs : List Loc) (ls : Array Slot), j < T → I j f lv → hW G f H → va_S (hFr G) s.heap H locs → lv_has ls nL lv →
      (∀ (f : hM) (lv : List (Nat × Value)) (H : Heap) (locs : List Loc) (ls : Array Slot), I (j + 1) f lv → hW G f H → va_S (hFr G) s.heap H locs → lv_has ls nL lv → W p l e R s m args below meth c H locs (c0 + (j + 1) * dc) (s0 + (j + 1) * ds) Q (F0 m pc ls [])) → W p l e R s m args below meth c H locs (c0 + j * dc) (s0 + j * ds) Q (F0 m pc ls []))
    (exit : ∀ (f : hM) (lv : List (Nat × Value)) (H : Heap) (locs : List Loc) (ls : Array Slot), I T f lv → hW G f H → va_S (hFr G) s.heap H locs → lv_has ls nL lv → W p l e R s m args below meth c H locs (c0 + T * dc) (s0 + T * ds) Q (F0 m pc ls [])) :
    ∀ (n j : Nat), j + n = T → ∀ (f : hM) (lv : List (Nat × Value)) (H : Heap) (locs : List Loc) (ls : Array Slot), I j f lv → hW G f H → va_S (hFr G) s.heap H locs → lv_has ls nL lv → W p l e R s m args below meth c H locs (c0 + j * dc) (s0 + j * ds) Q (F0 m pc ls []) := by
  intro n
  induction n with
  | zero =>
    intro j hj f lv H locs ls hI hw hS hl
    have e9 : j = T := by omega
    subst e9
    exact exit f lv H locs ls hI hw hS hl
  | succ n ih =>
    intro j hj f lv H locs ls hI hw hS hl
    exact step j f lv H locs ls (by omega) hI hw hS hl (fun f2 lv2 H2 locs2 ls2 h1 h2 h3 h4 => ih (j + 1) (by omega) f2 lv2 H2 locs2 ls2 h1 h2 h3 h4)
end HFORC

def hLen (e : va_E) : Nat := match e with
  | .inl a => a.2.1
  | .inr _ => 0
theorem hneL {f : hM} {a b : Nat} {x y : va_E} (ha : f a = some x) (hb : f b = some y) (h : hLen x ≠ hLen y) : a ≠ b := fun e => by
  rw [e, hb] at ha
  cases ha
  exact h rfl
def hEq (S : List Nat) (f f1 : hM) : Prop := ∀ a, a ∉ S → f1 a = f a
theorem sub_nil {S : List Nat} : ∀ x, x ∈ ([] : List Nat) → x ∈ S := fun _ h => nomatch h
theorem sub_cons {a : Nat} {L S : List Nat} (h : a ∈ S) (t : ∀ x, x ∈ L → x ∈ S) : ∀ x, x ∈ a :: L → x ∈ S := fun x hx => by
  rcases List.mem_cons.mp hx with e | e
  · rw [e]; exact h
  · exact t x e
theorem hEq.rf {S : List Nat} {f : hM} : hEq S f f := fun _ _ => rfl
theorem hEq.tr {S : List Nat} {f f1 f2 : hM} (h : hEq S f f1) (h2 : hEq S f1 f2) : hEq S f f2 := fun a n => (h2 a n).trans (h a n)
theorem hEq.mono {S T : List Nat} {f f1 : hM} (h : hEq S f f1) (hs : ∀ a, a ∈ S → a ∈ T) : hEq T f f1 := fun a n => h a (fun z => n (hs a z))
theorem hEq.up {S : List Nat} {f : hM} {a : Nat} {e : Option va_E} (h : a ∈ S) : hEq S f (va_up f a e) := fun b n => va_up_ne _ _ (fun z => n (by rw [z]; exact h))
theorem hEq.k {S : List Nat} {f f1 : hM} (h : hEq S f f1) : hKeep S f f1 := fun a e q n => (h a n).trans q
theorem px_eq {G : hG} {S T : List Nat} {f f1 : hM} (h : PoolX G T f) (he : hEq S f f1) (hS : ∀ b, b ∈ S → ∃ e0 e1, f b = some e0 ∧ f1 b = some e1 ∧ hTag e0 ≠ 3 ∧ hTag e1 ≠ 3 ∧ hLen e0 ≠ 6) : PoolX G T f1 := by
  intro b k hb hn
  have hb0 : b ∉ S := fun z => by
    obtain ⟨e0, e1, q0, q1, t0, t1, l0⟩ := hS b z
    rw [hb] at q1; cases q1; exact t1 rfl
  rw [he b hb0] at hb
  obtain ⟨x1, x2, x3, v, bh, g, h2, h3, h4⟩ := h b k hb hn
  have hv0 : v ∉ S := fun z => by
    obtain ⟨e0, e1, q0, q1, t0, t1, l0⟩ := hS v z
    rw [h3] at q0; cases q0; exact l0 rfl
  refine ⟨x1, x2, x3, v, bh, g, h2, by rw [he v hv0]; exact h3, ?_⟩
  rcases h4 with h4 | ⟨w, k2, h5, h6⟩
  · exact Or.inl h4
  · have hw0 : w ∉ S := fun z => by
      obtain ⟨e0, e1, q0, q1, t0, t1, l0⟩ := hS w z
      rw [h6] at q0; cases q0; exact t0 rfl
    exact Or.inr ⟨w, k2, h5, by rw [he w hw0]; exact h6⟩
/-- an end, but its wishes and sets: some state, a row of six that it asks for, a row of frames -/
def EF (G : hG) (f : hM) (en nw na nq nr : Nat) (mg : Int32) : Prop := ∃ (st tm sr li lp mi cn : Int32) (gq : Nat → Int32) (hd tl : Value), f en = some (.inr (1, [.ref nw, .ref na, .ref nq, .ref nr, .int mg, .int st, .int tm, .int sr, .int li, .int lp, .int mi])) ∧ f nq = some (.inl (cI G, 6, .inl gq)) ∧ f nr = some (.inr (3, [hd, tl, .int cn])) ∧ FRef f hd ∧ FRef f tl ∧ narrow .boolean (.int lp) = .int lp
set_option maxHeartbeats 4000000 in
set_option maxRecDepth 100000 in
theorem c_X2_initE {l : Launch} (hl : l.stackTraces = false) (G : hG) (f : hM) (fr nv : Nat) (k i x : Int32) (k_fr : f fr = some (.inr (2, [.int 0, .int 0, .int 0, .null, .null]))) : CT l yX2_init (.code yX2_init cX2_init 5 none) 1 13 0 0 G [.ref fr, .int k, .int i, .int x, .ref nv] f (fun v f1 => v = none ∧ f1 = va_up f fr (some (.inr (2, [.int k, .int i, .int x, .ref nv, .null])))) (fun E f1 => False) := by
  refine hp_start hl (own := RX2) (by decide) rfl (Nat.le_of_ble_eq_true rfl) ?_
  intro p e s m args below meth c B0 hr hnm hout hw hS ls hl9
  have hx := B0.1
  have hb := B0.2.1
  have hl9 : lv_has ls 5 [(0, .ref fr), (1, .int k), (2, .int i), (3, .int x), (4, .ref nv)] := hl9
  refine lv_aload_n hx hb dX2_init_0 rfl (lv_at hl9 0 rfl) ?_
  refine W.objInit hx hb B0.2.2.2.1 (B0.2.2.2.2.1 _ qM_X2_1) (B0.2.2.2.2.1 _ qi_obj) (B0.2.2.2.2.1 _ qc_obj) rfl (by rw [B0.2.2.1]; exact hl9.1) rfl dX2_init_1 (Nat.le_of_ble_eq_true rfl) (Nat.le_of_ble_eq_true rfl) ?_
  refine W.eq (g2 := F0 m 4 ls []) rfl ?_
  refine lv_aload_n hx hb dX2_init_4 rfl (lv_at hl9 0 rfl) ?_
  refine lv_iload_n hx hb dX2_init_5 rfl (lv_at hl9 1 rfl) ?_
  refine hp_putF (fs1 := [.int k, .int 0, .int 0, .null, .null]) (ty := .int) B0 hw hS 2 rfl in_X2 tyX2 tyX2_ok nmX2 k_fr 0 (by decide) qF_X2_7 rfl hnm rfl (by decide +kernel) rfl rfl (Nat.le_of_ble_eq_true rfl) rfl dX2_init_6 (fun H locs f1 ef1 hw hS => ?_)
  have h2 : f1 fr = some (.inr (2, [.int k, .int 0, .int 0, .null, .null])) := by rw [ef1, va_up_self]
  refine lv_aload_n hx hb dX2_init_9 rfl (lv_at hl9 0 rfl) ?_
  refine lv_iload_n hx hb dX2_init_10 rfl (lv_at hl9 2 rfl) ?_
  refine hp_putF (fs1 := [.int k, .int i, .int 0, .null, .null]) (ty := .int) B0 hw hS 2 rfl in_X2 tyX2 tyX2_ok nmX2 h2 1 (by decide) qF_X2_13 rfl hnm rfl (by decide +kernel) rfl rfl (Nat.le_of_ble_eq_true rfl) rfl dX2_init_11 (fun H locs f3 ef3 hw hS => ?_)
  have e4 : f3 = va_up f fr (some (.inr (2, [.int k, .int i, .int 0, .null, .null]))) := by rw [ef3, ef1, bx_uu]
  have h5 : f3 fr = some (.inr (2, [.int k, .int i, .int 0, .null, .null])) := by rw [ef3, va_up_self]
  refine lv_aload_n hx hb dX2_init_14 rfl (lv_at hl9 0 rfl) ?_
  refine lv_iload_n hx hb dX2_init_15 rfl (lv_at hl9 3 rfl) ?_
  refine hp_putF (fs1 := [.int k, .int i, .int x, .null, .null]) (ty := .int) B0 hw hS 2 rfl in_X2 tyX2 tyX2_ok nmX2 h5 2 (by decide) qF_X2_16 rfl hnm rfl (by decide +kernel) rfl rfl (Nat.le_of_ble_eq_true rfl) rfl dX2_init_16 (fun H locs f6 ef6 hw hS => ?_)
  have e7 : f6 = va_up f fr (some (.inr (2, [.int k, .int i, .int x, .null, .null]))) := by rw [ef6, e4, bx_uu]
  have h8 : f6 fr = some (.inr (2, [.int k, .int i, .int x, .null, .null])) := by rw [ef6, va_up_self]
  refine lv_aload_n hx hb dX2_init_19 rfl (lv_at hl9 0 rfl) ?_
  refine lv_aload hx hb dX2_init_20 (lv_at hl9 4 rfl) ?_
  refine hp_putF (fs1 := [.int k, .int i, .int x, .ref nv, .null]) (ty := .array .int) B0 hw hS 2 rfl in_X2 tyX2 tyX2_ok nmX2 h8 3 (by decide) qF_X2_19 rfl hnm rfl (by decide +kernel) rfl rfl (Nat.le_of_ble_eq_true rfl) rfl dX2_init_22 (fun H locs f9 ef9 hw hS => ?_)
  have e10 : f9 = va_up f fr (some (.inr (2, [.int k, .int i, .int x, .ref nv, .null]))) := by rw [ef9, e7, bx_uu]
  have h11 : f9 fr = some (.inr (2, [.int k, .int i, .int x, .ref nv, .null])) := by rw [ef9, va_up_self]
  exact hp_vret B0 hw hS hr ⟨Nat.le_of_ble_eq_true rfl, Nat.le_of_ble_eq_true rfl⟩ dX2_init_25 (⟨rfl, e10⟩)

set_option maxHeartbeats 4000000 in
set_option maxRecDepth 100000 in
theorem c_J7_copyE {l : Launch} (hl : l.stackTraces = false) (G : hG) (f : hM) (na : Nat) (gx : Nat → Int32) (k_na : f na = some (.inl (cI G, 6, .inl gx))) : CT l yJ7_copyOf_59c91 (.code yJ7_copyOf_59c91 cJ7_copyOf_59c91 3 (some (.array .int))) 1 14 1 6 G [.ref na, .int 6] f (fun v f1 => ∃ q : Nat, v = some (.ref q) ∧ f q = none ∧ f1 = va_up f q (some (.inl (cI G, 6, .inl gx)))) (fun E f1 => False) := by
  refine hp_start hl (own := RJ7) (by decide) rfl (Nat.le_of_ble_eq_true rfl) ?_
  intro p e s m args below meth c B0 hr hnm hout hw hS ls hl9
  have hx := B0.1
  have hb := B0.2.1
  have hl9 : lv_has ls 3 [(0, .ref na), (1, .int 6)] := hl9
  refine lv_iload_n hx hb dJ7_copyOf_59c91_0 rfl (lv_at hl9 1 rfl) ?_
  refine lv_aload_n hx hb dJ7_copyOf_59c91_1 rfl (lv_at hl9 0 rfl) ?_
  refine hp_alenI B0 hw k_na (v := 6) (by decide) dJ7_copyOf_59c91_2 ?_
  refine lv_icmp_ne (tgt := 14) hx hb dJ7_copyOf_59c91_3 (by decide) (fun c9 => absurd (by decide) c9) (fun _ => ?_)
  refine lv_aload_n hx hb dJ7_copyOf_59c91_6 rfl (lv_at hl9 0 rfl) ?_
  refine hp_cloneI B0 hw hS hl9.1 qM_J7_316 qm_clone qV_clone qi_clone ql_clone oC_arr k_na ⟨⟨Nat.le_of_ble_eq_true rfl, Nat.le_of_ble_eq_true rfl⟩, Nat.le_of_ble_eq_true rfl, Nat.le_of_ble_eq_true rfl⟩ dJ7_copyOf_59c91_7 (fun q1 H f3 w2 ef3 hw hS => ?_)
  have h4 : f3 q1 = some (.inl (cI G, 6, .inl gx)) := by rw [ef3, va_up_self]
  refine hp_castI B0 hw qC_J7_317 h4 dJ7_copyOf_59c91_10 ?_
  exact hp_aret (v := .ref q1) B0 hw hS hr (Or.inr ⟨_, rfl⟩) (Or.inr ⟨_, rfl⟩) ⟨Nat.le_of_ble_eq_true rfl, Nat.le_of_ble_eq_true rfl⟩ dJ7_copyOf_59c91_13 (⟨q1, rfl, w2, ef3⟩)

set_option maxHeartbeats 4000000 in
set_option maxRecDepth 100000 in
theorem c_J7_fillE {l : Launch} (hl : l.stackTraces = false) (G : hG) (f : hM) (na : Nat) (gx : Nat → Int32) (k_na : f na = some (.inl (cI G, 6, .inl gx))) (x : Int32) : CT l yJ7_fill_53178 (.code yJ7_fill_53178 cJ7_fill_53178 4 none) 0 0 0 0 G [.ref na, .int x] f (fun v f1 => v = none ∧ f1 = va_up f na (some (.inl (cI G, 6, .inl (fun j => if j < 6 then x else gx j))))) (fun E f1 => False) := by
  refine hp_start hl (own := RJ7) (by decide) rfl (Nat.le_of_ble_eq_true rfl) ?_
  intro p e s m args below meth c B0 hr hnm hout hw hS ls hl9
  have hx := B0.1
  have hb := B0.2.1
  have hl9 : lv_has ls 4 [(0, .ref na), (1, .int x)] := hl9
  refine lv_iconst (v := 0) hx hb dJ7_fill_53178_0 (by decide) ?_
  refine lv_istore_n (lv' := [(2, .int 0), (0, .ref na), (1, .int x)]) hx hb dJ7_fill_53178_1 rfl hl9 (by decide) rfl (fun ls hl9 => ?_)
  refine lv_aload_n hx hb dJ7_fill_53178_2 rfl (lv_at hl9 1 rfl) ?_
  refine hp_alenI B0 hw k_na (v := 6) (by decide) dJ7_fill_53178_3 ?_
  refine lv_istore_n (lv' := [(3, .int 6), (2, .int 0), (0, .ref na), (1, .int x)]) hx hb dJ7_fill_53178_4 rfl hl9 (by decide) rfl (fun ls hl9 => ?_)
  refine lv_iload_n hx hb dJ7_fill_53178_5 rfl (lv_at hl9 1 rfl) ?_
  refine lv_iload_n hx hb dJ7_fill_53178_6 rfl (lv_at hl9 0 rfl) ?_
  refine lv_icmp_ge (tgt := 20) hx hb dJ7_fill_53178_7 (by decide) (fun c9 => absurd c9 (by decide)) (fun _ => ?_)
  refine lv_aload_n hx hb dJ7_fill_53178_10 rfl (lv_at hl9 2 rfl) ?_
  refine lv_iload_n hx hb dJ7_fill_53178_11 rfl (lv_at hl9 1 rfl) ?_
  refine lv_iload_n hx hb dJ7_fill_53178_12 rfl (lv_at hl9 3 rfl) ?_
  refine hp_iast B0 hw hS k_na (by unfold vp_in; decide) dJ7_fill_53178_13 (fun H locs f1 ef1 hw hS => ?_)
  have h2 : f1 na = some (.inl (cI G, 6, .inl (upd gx (0 : Int32).toNatClampNeg x))) := by rw [ef1, va_up_self]
  refine lv_iinc (v := 1) (lv' := [(2, .int 1), (3, .int 6), (0, .ref na), (1, .int x)]) hx hb dJ7_fill_53178_14 hl9 (k := 1) rfl (by decide) (by decide) rfl (fun ls hl9 => ?_)
  refine lv_goto (tgt := 5) hx hb dJ7_fill_53178_17 (by decide) ?_
  refine lv_iload_n hx hb dJ7_fill_53178_5 rfl (lv_at hl9 0 rfl) ?_
  refine lv_iload_n hx hb dJ7_fill_53178_6 rfl (lv_at hl9 1 rfl) ?_
  refine lv_icmp_ge (tgt := 20) hx hb dJ7_fill_53178_7 (by decide) (fun c9 => absurd c9 (by decide)) (fun _ => ?_)
  refine lv_aload_n hx hb dJ7_fill_53178_10 rfl (lv_at hl9 2 rfl) ?_
  refine lv_iload_n hx hb dJ7_fill_53178_11 rfl (lv_at hl9 0 rfl) ?_
  refine lv_iload_n hx hb dJ7_fill_53178_12 rfl (lv_at hl9 3 rfl) ?_
  refine hp_iast B0 hw hS h2 (by unfold vp_in; decide) dJ7_fill_53178_13 (fun H locs f3 ef3 hw hS => ?_)
  have e4 : f3 = va_up f na (some (.inl (cI G, 6, .inl (upd (upd gx (0 : Int32).toNatClampNeg x) (1 : Int32).toNatClampNeg x)))) := by rw [ef3, ef1, bx_uu]
  have h5 : f3 na = some (.inl (cI G, 6, .inl (upd (upd gx (0 : Int32).toNatClampNeg x) (1 : Int32).toNatClampNeg x))) := by rw [ef3, va_up_self]
  refine lv_iinc (v := 2) (lv' := [(2, .int 2), (3, .int 6), (0, .ref na), (1, .int x)]) hx hb dJ7_fill_53178_14 hl9 (k := 0) rfl (by decide) (by decide) rfl (fun ls hl9 => ?_)
  refine lv_goto (tgt := 5) hx hb dJ7_fill_53178_17 (by decide) ?_
  refine lv_iload_n hx hb dJ7_fill_53178_5 rfl (lv_at hl9 0 rfl) ?_
  refine lv_iload_n hx hb dJ7_fill_53178_6 rfl (lv_at hl9 1 rfl) ?_
  refine lv_icmp_ge (tgt := 20) hx hb dJ7_fill_53178_7 (by decide) (fun c9 => absurd c9 (by decide)) (fun _ => ?_)
  refine lv_aload_n hx hb dJ7_fill_53178_10 rfl (lv_at hl9 2 rfl) ?_
  refine lv_iload_n hx hb dJ7_fill_53178_11 rfl (lv_at hl9 0 rfl) ?_
  refine lv_iload_n hx hb dJ7_fill_53178_12 rfl (lv_at hl9 3 rfl) ?_
  refine hp_iast B0 hw hS h5 (by unfold vp_in; decide) dJ7_fill_53178_13 (fun H locs f6 ef6 hw hS => ?_)
  have e7 : f6 = va_up f na (some (.inl (cI G, 6, .inl (upd (upd (upd gx (0 : Int32).toNatClampNeg x) (1 : Int32).toNatClampNeg x) (2 : Int32).toNatClampNeg x)))) := by rw [ef6, e4, bx_uu]
  have h8 : f6 na = some (.inl (cI G, 6, .inl (upd (upd (upd gx (0 : Int32).toNatClampNeg x) (1 : Int32).toNatClampNeg x) (2 : Int32).toNatClampNeg x))) := by rw [ef6, va_up_self]
  refine lv_iinc (v := 3) (lv' := [(2, .int 3), (3, .int 6), (0, .ref na), (1, .int x)]) hx hb dJ7_fill_53178_14 hl9 (k := 0) rfl (by decide) (by decide) rfl (fun ls hl9 => ?_)
  refine lv_goto (tgt := 5) hx hb dJ7_fill_53178_17 (by decide) ?_
  refine lv_iload_n hx hb dJ7_fill_53178_5 rfl (lv_at hl9 0 rfl) ?_
  refine lv_iload_n hx hb dJ7_fill_53178_6 rfl (lv_at hl9 1 rfl) ?_
  refine lv_icmp_ge (tgt := 20) hx hb dJ7_fill_53178_7 (by decide) (fun c9 => absurd c9 (by decide)) (fun _ => ?_)
  refine lv_aload_n hx hb dJ7_fill_53178_10 rfl (lv_at hl9 2 rfl) ?_
  refine lv_iload_n hx hb dJ7_fill_53178_11 rfl (lv_at hl9 0 rfl) ?_
  refine lv_iload_n hx hb dJ7_fill_53178_12 rfl (lv_at hl9 3 rfl) ?_
  refine hp_iast B0 hw hS h8 (by unfold vp_in; decide) dJ7_fill_53178_13 (fun H locs f9 ef9 hw hS => ?_)
  have e10 : f9 = va_up f na (some (.inl (cI G, 6, .inl (upd (upd (upd (upd gx (0 : Int32).toNatClampNeg x) (1 : Int32).toNatClampNeg x) (2 : Int32).toNatClampNeg x) (3 : Int32).toNatClampNeg x)))) := by rw [ef9, e7, bx_uu]
  have h11 : f9 na = some (.inl (cI G, 6, .inl (upd (upd (upd (upd gx (0 : Int32).toNatClampNeg x) (1 : Int32).toNatClampNeg x) (2 : Int32).toNatClampNeg x) (3 : Int32).toNatClampNeg x))) := by rw [ef9, va_up_self]
  refine lv_iinc (v := 4) (lv' := [(2, .int 4), (3, .int 6), (0, .ref na), (1, .int x)]) hx hb dJ7_fill_53178_14 hl9 (k := 0) rfl (by decide) (by decide) rfl (fun ls hl9 => ?_)
  refine lv_goto (tgt := 5) hx hb dJ7_fill_53178_17 (by decide) ?_
  refine lv_iload_n hx hb dJ7_fill_53178_5 rfl (lv_at hl9 0 rfl) ?_
  refine lv_iload_n hx hb dJ7_fill_53178_6 rfl (lv_at hl9 1 rfl) ?_
  refine lv_icmp_ge (tgt := 20) hx hb dJ7_fill_53178_7 (by decide) (fun c9 => absurd c9 (by decide)) (fun _ => ?_)
  refine lv_aload_n hx hb dJ7_fill_53178_10 rfl (lv_at hl9 2 rfl) ?_
  refine lv_iload_n hx hb dJ7_fill_53178_11 rfl (lv_at hl9 0 rfl) ?_
  refine lv_iload_n hx hb dJ7_fill_53178_12 rfl (lv_at hl9 3 rfl) ?_
  refine hp_iast B0 hw hS h11 (by unfold vp_in; decide) dJ7_fill_53178_13 (fun H locs f12 ef12 hw hS => ?_)
  have e13 : f12 = va_up f na (some (.inl (cI G, 6, .inl (upd (upd (upd (upd (upd gx (0 : Int32).toNatClampNeg x) (1 : Int32).toNatClampNeg x) (2 : Int32).toNatClampNeg x) (3 : Int32).toNatClampNeg x) (4 : Int32).toNatClampNeg x)))) := by rw [ef12, e10, bx_uu]
  have h14 : f12 na = some (.inl (cI G, 6, .inl (upd (upd (upd (upd (upd gx (0 : Int32).toNatClampNeg x) (1 : Int32).toNatClampNeg x) (2 : Int32).toNatClampNeg x) (3 : Int32).toNatClampNeg x) (4 : Int32).toNatClampNeg x))) := by rw [ef12, va_up_self]
  refine lv_iinc (v := 5) (lv' := [(2, .int 5), (3, .int 6), (0, .ref na), (1, .int x)]) hx hb dJ7_fill_53178_14 hl9 (k := 0) rfl (by decide) (by decide) rfl (fun ls hl9 => ?_)
  refine lv_goto (tgt := 5) hx hb dJ7_fill_53178_17 (by decide) ?_
  refine lv_iload_n hx hb dJ7_fill_53178_5 rfl (lv_at hl9 0 rfl) ?_
  refine lv_iload_n hx hb dJ7_fill_53178_6 rfl (lv_at hl9 1 rfl) ?_
  refine lv_icmp_ge (tgt := 20) hx hb dJ7_fill_53178_7 (by decide) (fun c9 => absurd c9 (by decide)) (fun _ => ?_)
  refine lv_aload_n hx hb dJ7_fill_53178_10 rfl (lv_at hl9 2 rfl) ?_
  refine lv_iload_n hx hb dJ7_fill_53178_11 rfl (lv_at hl9 0 rfl) ?_
  refine lv_iload_n hx hb dJ7_fill_53178_12 rfl (lv_at hl9 3 rfl) ?_
  refine hp_iast B0 hw hS h14 (by unfold vp_in; decide) dJ7_fill_53178_13 (fun H locs f15 ef15 hw hS => ?_)
  have e16 : f15 = va_up f na (some (.inl (cI G, 6, .inl (upd (upd (upd (upd (upd (upd gx (0 : Int32).toNatClampNeg x) (1 : Int32).toNatClampNeg x) (2 : Int32).toNatClampNeg x) (3 : Int32).toNatClampNeg x) (4 : Int32).toNatClampNeg x) (5 : Int32).toNatClampNeg x)))) := by rw [ef15, e13, bx_uu]
  have h17 : f15 na = some (.inl (cI G, 6, .inl (upd (upd (upd (upd (upd (upd gx (0 : Int32).toNatClampNeg x) (1 : Int32).toNatClampNeg x) (2 : Int32).toNatClampNeg x) (3 : Int32).toNatClampNeg x) (4 : Int32).toNatClampNeg x) (5 : Int32).toNatClampNeg x))) := by rw [ef15, va_up_self]
  refine lv_iinc (v := 6) (lv' := [(2, .int 6), (3, .int 6), (0, .ref na), (1, .int x)]) hx hb dJ7_fill_53178_14 hl9 (k := 0) rfl (by decide) (by decide) rfl (fun ls hl9 => ?_)
  refine lv_goto (tgt := 5) hx hb dJ7_fill_53178_17 (by decide) ?_
  refine lv_iload_n hx hb dJ7_fill_53178_5 rfl (lv_at hl9 0 rfl) ?_
  refine lv_iload_n hx hb dJ7_fill_53178_6 rfl (lv_at hl9 1 rfl) ?_
  refine lv_icmp_ge (tgt := 20) hx hb dJ7_fill_53178_7 (by decide) (fun _ => ?_) (fun c9 => absurd (by decide) c9)
  exact hp_vret B0 hw hS hr ⟨Nat.le_of_ble_eq_true rfl, Nat.le_of_ble_eq_true rfl⟩ dJ7_fill_53178_20 (⟨rfl, by have h9 := e16; rw [fill6] at h9; exact h9⟩)

set_option maxHeartbeats 4000000 in
set_option maxRecDepth 100000 in
theorem c_X1_tell {l : Launch} (hl : l.stackTraces = false) (G : hG) (f : hM)  : CT l yX1_tellNothing (.code yX1_tellNothing cX1_tellNothing 1 (some (.array .int))) 1 23 1 6 G [] f (fun v f1 => ∃ (q : Nat) (gz : Nat → Int32), v = some (.ref q) ∧ f q = none ∧ f1 = va_up f q (some (.inl (cI G, 6, .inl gz)))) (fun E f1 => False) := by
  refine hp_start hl (own := RX1) (by decide) rfl (Nat.le_of_ble_eq_true rfl) ?_
  intro p e s m args below meth c B0 hr hnm hout hw hS ls hl9
  have hx := B0.1
  have hb := B0.2.1
  have hl9 : lv_has ls 1 [] := hl9
  refine lv_bipush (v := 6) hx hb dX1_tellNothing_0 (by decide) ?_
  refine hp_newaI (N' := 6) B0 hw hS qA_int (by decide) (by decide) (Nat.le_of_ble_eq_true rfl) (Nat.le_of_ble_eq_true rfl) (Nat.le_of_ble_eq_true rfl) dX1_tellNothing_2 (fun q1 H f3 w2 ef3 hw hS => ?_)
  have h4 : f3 q1 = some (.inl (cI G, 6, .inl (fun _ => 0))) := by rw [ef3, va_up_self]
  refine lv_astore_n (lv' := [(0, .ref q1)]) hx hb dX1_tellNothing_4 rfl hl9 (by decide) rfl (fun ls hl9 => ?_)
  refine lv_aload_n hx hb dX1_tellNothing_5 rfl (lv_at hl9 0 rfl) ?_
  refine lv_iconst (v := (-1)) hx hb dX1_tellNothing_6 (by decide) ?_
  refine hp_S (As := [.ref q1, .int (-1)]) (rest := []) B0 hw hS (c_J7_fillE hl G f3 q1 (fun _ => 0) h4 (-1)) mS_J7_fill_53178 qM_X1_51 rfl rfl hl9.1 (Nat.le_of_ble_eq_true rfl) ⟨⟨Nat.le_of_ble_eq_true rfl, Nat.le_of_ble_eq_true rfl⟩, Nat.le_of_ble_eq_true rfl, Nat.le_of_ble_eq_true rfl⟩ dX1_tellNothing_7 (fun E ce q9 f5 H locs hPX hw hS hce hcv hcl => ?_) (fun v f5 H locs hP hw hS => ?_)
  · exact hPX.elim
  · obtain ⟨ev9, e6⟩ := hP
    subst ev9
    have e7 : f5 = va_up f q1 (some (.inl (cI G, 6, .inl (fun j => if j < 6 then (-1) else (fun _ => 0) j)))) := by rw [e6, ef3, bx_uu]
    have h8 : f5 q1 = some (.inl (cI G, 6, .inl (fun j => if j < 6 then (-1) else (fun _ => 0) j))) := by rw [e6, va_up_self]
    refine W.eq (g2 := F0 m 10 ls []) rfl ?_
    refine lv_aload_n hx hb dX1_tellNothing_10 rfl (lv_at hl9 0 rfl) ?_
    exact hp_aret (v := .ref q1) B0 hw hS hr (Or.inr ⟨_, rfl⟩) (Or.inr ⟨_, rfl⟩) ⟨Nat.le_of_ble_eq_true rfl, Nat.le_of_ble_eq_true rfl⟩ dX1_tellNothing_11 (⟨q1, _, rfl, w2, e7⟩)

set_option maxHeartbeats 4000000 in
set_option maxRecDepth 100000 in
theorem c_X3_put {l : Launch} (hl : l.stackTraces = false) (G : hG) (f : hM) (nr fr : Nat) (kf : List Value) (k_fr : f fr = some (.inr (2, kf))) (hd tl : Value) (cn : Int32) (k_nr : f nr = some (.inr (3, [hd, tl, .int cn]))) (fhd : FRef f hd) (ftl : FRef f tl) (hPx : PoolX G [] f) : CT l yX3_put (.code yX3_put cX3_put 2 none) 0 0 0 0 G [.ref nr, .ref fr] f (fun v f1 => v = none ∧ (∃ (hd9 tl9 : Value) (cn9 : Int32), f1 nr = some (.inr (3, [hd9, tl9, .int cn9])) ∧ FRef f1 hd9 ∧ FRef f1 tl9) ∧ PoolX G [] f1 ∧ hKp [nr] f f1) (fun E f1 => False) := by
  refine hp_start hl (own := RX3) (by decide) rfl (Nat.le_of_ble_eq_true rfl) ?_
  intro p e s m args below meth c B0 hr hnm hout hw hS ls hl9
  have hx := B0.1
  have hb := B0.2.1
  have hl9 : lv_has ls 2 [(0, .ref nr), (1, .ref fr)] := hl9
  refine lv_aload_n hx hb dX3_put_0 rfl (lv_at hl9 0 rfl) ?_
  refine hp_get B0 hw 3 rfl in_X3 k_nr 2 (by decide) qF_X3_9 rfl dX3_put_1 ?_
  refine lv_sipush (v := 4096) hx hb dX3_put_4 (by decide) ?_
  refine lv_icmp_lt (tgt := 11) hx hb dX3_put_7 (by decide) (fun c1 => ?_) (fun c1 => ?_)
  · refine lv_aload_n hx hb dX3_put_11 rfl (lv_at hl9 0 rfl) ?_
    refine hp_get B0 hw 3 rfl in_X3 k_nr 1 (by decide) qF_X3_15 rfl dX3_put_12 ?_
    rcases ftl with e2 | ⟨t3, k4, e2, h5⟩
    · subst e2
      refine lv_ifnonnullN hx hb dX3_put_15 ?_
      refine lv_aload_n hx hb dX3_put_18 rfl (lv_at hl9 0 rfl) ?_
      refine lv_aload_n hx hb dX3_put_19 rfl (lv_at hl9 1 rfl) ?_
      refine hp_put (fs1 := [.ref fr, .null, .int cn]) (ty := .object "OptionLine$Frame") B0 hw hS 3 rfl in_X3 tyX3 tyX3_ok nmX3 k_nr 0 (by decide) qF_X3_19 rfl (by decide +kernel) rfl rfl (Nat.le_of_ble_eq_true rfl) rfl dX3_put_20 (fun H locs f6 ef6 hw hS => ?_)
      have h7 : f6 nr = some (.inr (3, [.ref fr, .null, .int cn])) := by rw [ef6, va_up_self]
      refine lv_goto (tgt := 34) hx hb dX3_put_23 (by decide) ?_
      refine lv_aload_n hx hb dX3_put_34 rfl (lv_at hl9 0 rfl) ?_
      refine lv_aload_n hx hb dX3_put_35 rfl (lv_at hl9 1 rfl) ?_
      refine hp_put (fs1 := [.ref fr, .ref fr, .int cn]) (ty := .object "OptionLine$Frame") B0 hw hS 3 rfl in_X3 tyX3 tyX3_ok nmX3 h7 1 (by decide) qF_X3_15 rfl (by decide +kernel) rfl rfl (Nat.le_of_ble_eq_true rfl) rfl dX3_put_36 (fun H locs f8 ef8 hw hS => ?_)
      have e9 : f8 = va_up f nr (some (.inr (3, [.ref fr, .ref fr, .int cn]))) := by rw [ef8, ef6, bx_uu]
      have h10 : f8 nr = some (.inr (3, [.ref fr, .ref fr, .int cn])) := by rw [ef8, va_up_self]
      refine lv_aload_n hx hb dX3_put_39 rfl (lv_at hl9 0 rfl) ?_
      refine lv_dup hx hb dX3_put_40 rfl ?_
      refine hp_get B0 hw 3 rfl in_X3 h10 2 (by decide) qF_X3_9 rfl dX3_put_41 ?_
      refine lv_iconst (v := 1) hx hb dX3_put_44 (by decide) ?_
      refine lv_iadd hx hb dX3_put_45 ?_
      refine hp_put (fs1 := [.ref fr, .ref fr, .int (cn + 1)]) (ty := .int) B0 hw hS 3 rfl in_X3 tyX3 tyX3_ok nmX3 h10 2 (by decide) qF_X3_9 rfl (by decide +kernel) rfl rfl (Nat.le_of_ble_eq_true rfl) rfl dX3_put_46 (fun H locs f11 ef11 hw hS => ?_)
      have e12 : f11 = va_up f nr (some (.inr (3, [.ref fr, .ref fr, .int (cn + 1)]))) := by rw [ef11, e9, bx_uu]
      have h13 : f11 nr = some (.inr (3, [.ref fr, .ref fr, .int (cn + 1)])) := by rw [ef11, va_up_self]
      have n15 : fr ≠ nr := hne k_fr k_nr (Nat.ne_of_beq_eq_false rfl)
      have h14 : f11 fr = some (.inr (2, kf)) := by rw [e12, va_up_ne _ _ n15]; exact k_fr
      have p16 : PoolX G [] f11 := by rw [e12]; exact px_upd hPx k_nr (Nat.ne_of_beq_eq_false rfl) (Nat.ne_of_beq_eq_false rfl) (fun g9 h9 => nomatch h9)
      exact hp_vret B0 hw hS hr ⟨Nat.le_of_ble_eq_true rfl, Nat.le_of_ble_eq_true rfl⟩ dX3_put_49 (⟨rfl, ⟨_, _, _, h13, (FRef.ref h14), (FRef.ref h14)⟩, p16, (show hKp [nr] f f11 from (by rw [e12]; exact hKp.up k_nr (Nat.ne_of_beq_eq_false rfl) (by simp)))⟩)
    · subst e2
      refine lv_ifnonnull (tgt := 26) hx hb dX3_put_15 (by decide) ?_
      refine lv_aload_n hx hb dX3_put_26 rfl (lv_at hl9 0 rfl) ?_
      refine hp_get B0 hw 3 rfl in_X3 k_nr 1 (by decide) qF_X3_15 rfl dX3_put_27 ?_
      refine lv_aload_n hx hb dX3_put_30 rfl (lv_at hl9 1 rfl) ?_
      obtain ⟨x17, x18, x19, v20, y21, g22, e23, h24, h25⟩ := hPx _ _ h5 nin0
      rw [e23] at h5
      refine hp_put (fs1 := [.int x17, .int x18, .int x19, .ref v20, .ref fr]) (ty := .object "OptionLine$Frame") B0 hw hS 2 rfl in_X2 tyX2 tyX2_ok nmX2 h5 4 (by decide) qF_X3_22 rfl (by decide +kernel) rfl rfl (Nat.le_of_ble_eq_true rfl) rfl dX3_put_31 (fun H locs f27 ef27 hw hS => ?_)
      have h28 : f27 t3 = some (.inr (2, [.int x17, .int x18, .int x19, .ref v20, .ref fr])) := by rw [ef27, va_up_self]
      refine lv_aload_n hx hb dX3_put_34 rfl (lv_at hl9 0 rfl) ?_
      refine lv_aload_n hx hb dX3_put_35 rfl (lv_at hl9 1 rfl) ?_
      have n30 : nr ≠ t3 := hne k_nr h5 (Nat.ne_of_beq_eq_false rfl)
      have h29 : f27 nr = some (.inr (3, [hd, .ref t3, .int cn])) := by rw [ef27, va_up_ne _ _ n30]; exact k_nr
      refine hp_put (fs1 := [hd, .ref fr, .int cn]) (ty := .object "OptionLine$Frame") B0 hw hS 3 rfl in_X3 tyX3 tyX3_ok nmX3 h29 1 (by decide) qF_X3_15 rfl (by decide +kernel) rfl rfl (Nat.le_of_ble_eq_true rfl) rfl dX3_put_36 (fun H locs f31 ef31 hw hS => ?_)
      have h32 : f31 nr = some (.inr (3, [hd, .ref fr, .int cn])) := by rw [ef31, va_up_self]
      refine lv_aload_n hx hb dX3_put_39 rfl (lv_at hl9 0 rfl) ?_
      refine lv_dup hx hb dX3_put_40 rfl ?_
      refine hp_get B0 hw 3 rfl in_X3 h32 2 (by decide) qF_X3_9 rfl dX3_put_41 ?_
      refine lv_iconst (v := 1) hx hb dX3_put_44 (by decide) ?_
      refine lv_iadd hx hb dX3_put_45 ?_
      refine hp_put (fs1 := [hd, .ref fr, .int (cn + 1)]) (ty := .int) B0 hw hS 3 rfl in_X3 tyX3 tyX3_ok nmX3 h32 2 (by decide) qF_X3_9 rfl (by decide +kernel) rfl rfl (Nat.le_of_ble_eq_true rfl) rfl dX3_put_46 (fun H locs f33 ef33 hw hS => ?_)
      have e34 : f33 = va_up f27 nr (some (.inr (3, [hd, .ref fr, .int (cn + 1)]))) := by rw [ef33, ef31, bx_uu]
      have h35 : f33 nr = some (.inr (3, [hd, .ref fr, .int (cn + 1)])) := by rw [ef33, va_up_self]
      obtain ⟨k36, h37⟩ := (show hKp [] f f27 from (by rw [ef27]; exact hKp.fr h5)).2 _ _ k_fr
      have n39 : fr ≠ nr := hne k_fr k_nr (Nat.ne_of_beq_eq_false rfl)
      have h38 : f33 fr = some (.inr (2, k36)) := by rw [e34, va_up_ne _ _ n39]; exact h37
      have p40 : PoolX G [] f27 := by rw [ef27]; exact px_frame hPx h5 h24 (FRef.ref k_fr) (fun b9 h9 n9 => nomatch h9)
      have p41 : PoolX G [] f33 := by rw [e34]; exact px_upd p40 h29 (Nat.ne_of_beq_eq_false rfl) (Nat.ne_of_beq_eq_false rfl) (fun g9 h9 => nomatch h9)
      exact hp_vret B0 hw hS hr ⟨Nat.le_of_ble_eq_true rfl, Nat.le_of_ble_eq_true rfl⟩ dX3_put_49 (⟨rfl, ⟨_, _, _, h35, (fhd.kp ((show hKp [nr] f f27 from (by rw [ef27]; exact hKp.fr h5)).tr (show hKp [nr] f27 f33 from (by rw [e34]; exact hKp.up h29 (Nat.ne_of_beq_eq_false rfl) (by simp))))), (FRef.ref h38)⟩, p41, ((show hKp [nr] f f27 from (by rw [ef27]; exact hKp.fr h5)).tr (show hKp [nr] f27 f33 from (by rw [e34]; exact hKp.up h29 (Nat.ne_of_beq_eq_false rfl) (by simp))))⟩)
  · exact hp_vret B0 hw hS hr ⟨Nat.le_of_ble_eq_true rfl, Nat.le_of_ble_eq_true rfl⟩ dX3_put_10 (⟨rfl, ⟨_, _, _, k_nr, fhd, ftl⟩, hPx, hKp.rf⟩)

set_option maxHeartbeats 4000000 in
set_option maxRecDepth 100000 in
theorem c_X3_take {l : Launch} (hl : l.stackTraces = false) (G : hG) (f : hM) (nr : Nat) (hd tl : Value) (cn : Int32) (k_nr : f nr = some (.inr (3, [hd, tl, .int cn]))) (fhd : FRef f hd) (ftl : FRef f tl) (hPx : PoolX G [] f) : CT l yX3_takeFirst (.code yX3_takeFirst cX3_takeFirst 2 (some (.object "OptionLine$Frame"))) 0 0 0 0 G [.ref nr] f (fun v f1 => (v = some .null ∨ ∃ (t9 : Nat) (k9 : List Value), v = some (.ref t9) ∧ f1 t9 = some (.inr (2, k9))) ∧ (∃ (hd9 tl9 : Value) (cn9 : Int32), f1 nr = some (.inr (3, [hd9, tl9, .int cn9])) ∧ FRef f1 hd9 ∧ FRef f1 tl9) ∧ PoolX G [] f1 ∧ hKp [nr] f f1) (fun E f1 => False) := by
  refine hp_start hl (own := RX3) (by decide) rfl (Nat.le_of_ble_eq_true rfl) ?_
  intro p e s m args below meth c B0 hr hnm hout hw hS ls hl9
  have hx := B0.1
  have hb := B0.2.1
  have hl9 : lv_has ls 2 [(0, .ref nr)] := hl9
  refine lv_aload_n hx hb dX3_takeFirst_0 rfl (lv_at hl9 0 rfl) ?_
  refine hp_get B0 hw 3 rfl in_X3 k_nr 0 (by decide) qF_X3_19 rfl dX3_takeFirst_1 ?_
  rcases fhd with e1 | ⟨t2, k3, e1, h4⟩
  · subst e1
    refine lv_astore_nN (lv' := [(1, .null), (0, .ref nr)]) hx hb dX3_takeFirst_4 rfl hl9 (by decide) rfl (fun ls hl9 => ?_)
    refine lv_aload_nN hx hb dX3_takeFirst_5 rfl (lv_at hl9 0 rfl) ?_
    refine lv_ifnonnullN hx hb dX3_takeFirst_6 ?_
    refine lv_null hx hb dX3_takeFirst_9 ?_
    exact hp_aret (v := .null) B0 hw hS hr (Or.inl ⟨_, rfl⟩) (Or.inl rfl) ⟨Nat.le_of_ble_eq_true rfl, Nat.le_of_ble_eq_true rfl⟩ dX3_takeFirst_10 (⟨Or.inl rfl, ⟨_, _, _, k_nr, FRef.nul, ftl⟩, hPx, hKp.rf⟩)
  · subst e1
    refine lv_astore_n (lv' := [(1, .ref t2), (0, .ref nr)]) hx hb dX3_takeFirst_4 rfl hl9 (by decide) rfl (fun ls hl9 => ?_)
    refine lv_aload_n hx hb dX3_takeFirst_5 rfl (lv_at hl9 0 rfl) ?_
    refine lv_ifnonnull (tgt := 11) hx hb dX3_takeFirst_6 (by decide) ?_
    refine lv_aload_n hx hb dX3_takeFirst_11 rfl (lv_at hl9 1 rfl) ?_
    refine lv_aload_n hx hb dX3_takeFirst_12 rfl (lv_at hl9 0 rfl) ?_
    obtain ⟨x5, x6, x7, v8, y9, g10, e11, h12, h13⟩ := hPx _ _ h4 nin0
    rw [e11] at h4
    refine hp_get B0 hw 2 rfl in_X2 h4 4 (by decide) qF_X3_22 rfl dX3_takeFirst_13 ?_
    rcases h13 with e15 | ⟨t16, k17, e15, h18⟩
    · subst e15
      refine hp_put (fs1 := [.null, tl, .int cn]) (ty := .object "OptionLine$Frame") B0 hw hS 3 rfl in_X3 tyX3 tyX3_ok nmX3 k_nr 0 (by decide) qF_X3_19 rfl (by decide +kernel) rfl rfl (Nat.le_of_ble_eq_true rfl) rfl dX3_takeFirst_16 (fun H locs f19 ef19 hw hS => ?_)
      have h20 : f19 nr = some (.inr (3, [.null, tl, .int cn])) := by rw [ef19, va_up_self]
      refine lv_aload_n hx hb dX3_takeFirst_19 rfl (lv_at hl9 1 rfl) ?_
      refine hp_get B0 hw 3 rfl in_X3 h20 0 (by decide) qF_X3_19 rfl dX3_takeFirst_20 ?_
      refine lv_ifnonnullN hx hb dX3_takeFirst_23 ?_
      refine lv_aload_n hx hb dX3_takeFirst_26 rfl (lv_at hl9 1 rfl) ?_
      refine lv_null hx hb dX3_takeFirst_27 ?_
      refine hp_put (fs1 := [.null, .null, .int cn]) (ty := .object "OptionLine$Frame") B0 hw hS 3 rfl in_X3 tyX3 tyX3_ok nmX3 h20 1 (by decide) qF_X3_15 rfl (by decide +kernel) rfl rfl (Nat.le_of_ble_eq_true rfl) rfl dX3_takeFirst_28 (fun H locs f21 ef21 hw hS => ?_)
      have e22 : f21 = va_up f nr (some (.inr (3, [.null, .null, .int cn]))) := by rw [ef21, ef19, bx_uu]
      have h23 : f21 nr = some (.inr (3, [.null, .null, .int cn])) := by rw [ef21, va_up_self]
      refine lv_aload_n hx hb dX3_takeFirst_31 rfl (lv_at hl9 1 rfl) ?_
      refine lv_dup hx hb dX3_takeFirst_32 rfl ?_
      refine hp_get B0 hw 3 rfl in_X3 h23 2 (by decide) qF_X3_9 rfl dX3_takeFirst_33 ?_
      refine lv_iconst (v := 1) hx hb dX3_takeFirst_36 (by decide) ?_
      refine lv_isub hx hb dX3_takeFirst_37 ?_
      refine hp_put (fs1 := [.null, .null, .int (cn - 1)]) (ty := .int) B0 hw hS 3 rfl in_X3 tyX3 tyX3_ok nmX3 h23 2 (by decide) qF_X3_9 rfl (by decide +kernel) rfl rfl (Nat.le_of_ble_eq_true rfl) rfl dX3_takeFirst_38 (fun H locs f24 ef24 hw hS => ?_)
      have e25 : f24 = va_up f nr (some (.inr (3, [.null, .null, .int (cn - 1)]))) := by rw [ef24, e22, bx_uu]
      have h26 : f24 nr = some (.inr (3, [.null, .null, .int (cn - 1)])) := by rw [ef24, va_up_self]
      refine lv_aload_n hx hb dX3_takeFirst_41 rfl (lv_at hl9 0 rfl) ?_
      have n28 : t2 ≠ nr := hne h4 k_nr (Nat.ne_of_beq_eq_false rfl)
      have h27 : f24 t2 = some (.inr (2, [.int x5, .int x6, .int x7, .ref v8, .null])) := by rw [e25, va_up_ne _ _ n28]; exact h4
      have p29 : PoolX G [] f24 := by rw [e25]; exact px_upd hPx k_nr (Nat.ne_of_beq_eq_false rfl) (Nat.ne_of_beq_eq_false rfl) (fun g9 h9 => nomatch h9)
      exact hp_aret (v := .ref t2) B0 hw hS hr (Or.inl ⟨_, rfl⟩) (Or.inr ⟨_, rfl⟩) ⟨Nat.le_of_ble_eq_true rfl, Nat.le_of_ble_eq_true rfl⟩ dX3_takeFirst_42 (⟨Or.inr ⟨_, _, rfl, h27⟩, ⟨_, _, _, h26, FRef.nul, FRef.nul⟩, p29, (show hKp [nr] f f24 from (by rw [e25]; exact hKp.up k_nr (Nat.ne_of_beq_eq_false rfl) (by simp)))⟩)
    · subst e15
      refine hp_put (fs1 := [.ref t16, tl, .int cn]) (ty := .object "OptionLine$Frame") B0 hw hS 3 rfl in_X3 tyX3 tyX3_ok nmX3 k_nr 0 (by decide) qF_X3_19 rfl (by decide +kernel) rfl rfl (Nat.le_of_ble_eq_true rfl) rfl dX3_takeFirst_16 (fun H locs f30 ef30 hw hS => ?_)
      have h31 : f30 nr = some (.inr (3, [.ref t16, tl, .int cn])) := by rw [ef30, va_up_self]
      refine lv_aload_n hx hb dX3_takeFirst_19 rfl (lv_at hl9 1 rfl) ?_
      refine hp_get B0 hw 3 rfl in_X3 h31 0 (by decide) qF_X3_19 rfl dX3_takeFirst_20 ?_
      refine lv_ifnonnull (tgt := 31) hx hb dX3_takeFirst_23 (by decide) ?_
      refine lv_aload_n hx hb dX3_takeFirst_31 rfl (lv_at hl9 1 rfl) ?_
      refine lv_dup hx hb dX3_takeFirst_32 rfl ?_
      refine hp_get B0 hw 3 rfl in_X3 h31 2 (by decide) qF_X3_9 rfl dX3_takeFirst_33 ?_
      refine lv_iconst (v := 1) hx hb dX3_takeFirst_36 (by decide) ?_
      refine lv_isub hx hb dX3_takeFirst_37 ?_
      refine hp_put (fs1 := [.ref t16, tl, .int (cn - 1)]) (ty := .int) B0 hw hS 3 rfl in_X3 tyX3 tyX3_ok nmX3 h31 2 (by decide) qF_X3_9 rfl (by decide +kernel) rfl rfl (Nat.le_of_ble_eq_true rfl) rfl dX3_takeFirst_38 (fun H locs f32 ef32 hw hS => ?_)
      have e33 : f32 = va_up f nr (some (.inr (3, [.ref t16, tl, .int (cn - 1)]))) := by rw [ef32, ef30, bx_uu]
      have h34 : f32 nr = some (.inr (3, [.ref t16, tl, .int (cn - 1)])) := by rw [ef32, va_up_self]
      refine lv_aload_n hx hb dX3_takeFirst_41 rfl (lv_at hl9 0 rfl) ?_
      have n36 : t2 ≠ nr := hne h4 k_nr (Nat.ne_of_beq_eq_false rfl)
      have h35 : f32 t2 = some (.inr (2, [.int x5, .int x6, .int x7, .ref v8, .ref t16])) := by rw [e33, va_up_ne _ _ n36]; exact h4
      have n38 : t16 ≠ nr := hne h18 k_nr (Nat.ne_of_beq_eq_false rfl)
      have h37 : f32 t16 = some (.inr (2, k17)) := by rw [e33, va_up_ne _ _ n38]; exact h18
      have p39 : PoolX G [] f32 := by rw [e33]; exact px_upd hPx k_nr (Nat.ne_of_beq_eq_false rfl) (Nat.ne_of_beq_eq_false rfl) (fun g9 h9 => nomatch h9)
      exact hp_aret (v := .ref t2) B0 hw hS hr (Or.inl ⟨_, rfl⟩) (Or.inr ⟨_, rfl⟩) ⟨Nat.le_of_ble_eq_true rfl, Nat.le_of_ble_eq_true rfl⟩ dX3_takeFirst_42 (⟨Or.inr ⟨_, _, rfl, h35⟩, ⟨_, _, _, h34, (FRef.ref h37), (ftl.kp (show hKp [nr] f f32 from (by rw [e33]; exact hKp.up k_nr (Nat.ne_of_beq_eq_false rfl) (by simp))))⟩, p39, (show hKp [nr] f f32 from (by rw [e33]; exact hKp.up k_nr (Nat.ne_of_beq_eq_false rfl) (by simp)))⟩)

set_option maxHeartbeats 4000000 in
set_option maxRecDepth 100000 in
theorem c_X1_ask {l : Launch} (hl : l.stackTraces = false) (G : hG) (f : hM) (en nw na nq nr : Nat) (mg : Int32) (hE : EF G f en nw na nq nr mg) (hPx : PoolX G [] f) : CT l yX1_ask (.code yX1_ask cX1_ask 1 (some .boolean)) 2 37 2 11 G [.ref en] f (fun v f1 => (v = some (.int 0) ∨ v = some (.int 1)) ∧ EF G f1 en nw na nq nr mg ∧ PoolX G [] f1 ∧ hKp [en, nq, nr] f f1) (fun E f1 => False) := by
  refine hp_start hl (own := RX1) (by decide) rfl (Nat.le_of_ble_eq_true rfl) ?_
  intro p e s m args below meth c B0 hr hnm hout hw hS ls hl9
  have hx := B0.1
  have hb := B0.2.1
  have hl9 : lv_has ls 1 [(0, .ref en)] := hl9
  obtain ⟨st, tm, sr, li, lp, mi, cn, gq, hd, tl, k_en, k_nq, k_nr, fhd, ftl, blp⟩ := hE
  refine lv_aload_n hx hb dX1_ask_0 rfl (lv_at hl9 0 rfl) ?_
  refine hp_get B0 hw 1 rfl in_X1 k_en 7 (by decide) qF_X1_35 rfl dX1_ask_1 ?_
  refine lv_bipush (v := 10) hx hb dX1_ask_4 (by decide) ?_
  refine lv_icmp_lt (tgt := 16) hx hb dX1_ask_6 (by decide) (fun c1 => ?_) (fun c1 => ?_)
  · refine lv_aload_n hx hb dX1_ask_16 rfl (lv_at hl9 0 rfl) ?_
    refine lv_dup hx hb dX1_ask_17 rfl ?_
    refine hp_get B0 hw 1 rfl in_X1 k_en 7 (by decide) qF_X1_35 rfl dX1_ask_18 ?_
    refine lv_iconst (v := 1) hx hb dX1_ask_21 (by decide) ?_
    refine lv_iadd hx hb dX1_ask_22 ?_
    refine hp_put (fs1 := [.ref nw, .ref na, .ref nq, .ref nr, .int mg, .int st, .int tm, .int (sr + 1), .int li, .int lp, .int mi]) (ty := .int) B0 hw hS 1 rfl in_X1 tyX1 tyX1_ok nmX1 k_en 7 (by decide) qF_X1_35 rfl (by decide +kernel) rfl rfl (Nat.le_of_ble_eq_true rfl) rfl dX1_ask_23 (fun H locs f2 ef2 hw hS => ?_)
    have h3 : f2 en = some (.inr (1, [.ref nw, .ref na, .ref nq, .ref nr, .int mg, .int st, .int tm, .int (sr + 1), .int li, .int lp, .int mi])) := by rw [ef2, va_up_self]
    refine lv_aload_n hx hb dX1_ask_26 rfl (lv_at hl9 0 rfl) ?_
    refine lv_dup hx hb dX1_ask_27 rfl ?_
    refine hp_get B0 hw 1 rfl in_X1 h3 8 (by decide) qF_X1_38 rfl dX1_ask_28 ?_
    refine lv_iconst (v := 1) hx hb dX1_ask_31 (by decide) ?_
    refine lv_iadd hx hb dX1_ask_32 ?_
    refine hp_put (fs1 := [.ref nw, .ref na, .ref nq, .ref nr, .int mg, .int st, .int tm, .int (sr + 1), .int (li + 1), .int lp, .int mi]) (ty := .int) B0 hw hS 1 rfl in_X1 tyX1 tyX1_ok nmX1 h3 8 (by decide) qF_X1_38 rfl (by decide +kernel) rfl rfl (Nat.le_of_ble_eq_true rfl) rfl dX1_ask_33 (fun H locs f4 ef4 hw hS => ?_)
    have e5 : f4 = va_up f en (some (.inr (1, [.ref nw, .ref na, .ref nq, .ref nr, .int mg, .int st, .int tm, .int (sr + 1), .int (li + 1), .int lp, .int mi]))) := by rw [ef4, ef2, bx_uu]
    have h6 : f4 en = some (.inr (1, [.ref nw, .ref na, .ref nq, .ref nr, .int mg, .int st, .int tm, .int (sr + 1), .int (li + 1), .int lp, .int mi])) := by rw [ef4, va_up_self]
    refine lv_aload_n hx hb dX1_ask_36 rfl (lv_at hl9 0 rfl) ?_
    refine lv_iconst (v := 3) hx hb dX1_ask_37 (by decide) ?_
    refine hp_put (fs1 := [.ref nw, .ref na, .ref nq, .ref nr, .int mg, .int st, .int 3, .int (sr + 1), .int (li + 1), .int lp, .int mi]) (ty := .int) B0 hw hS 1 rfl in_X1 tyX1 tyX1_ok nmX1 h6 6 (by decide) qF_X1_32 rfl (by decide +kernel) rfl rfl (Nat.le_of_ble_eq_true rfl) rfl dX1_ask_38 (fun H locs f7 ef7 hw hS => ?_)
    have e8 : f7 = va_up f en (some (.inr (1, [.ref nw, .ref na, .ref nq, .ref nr, .int mg, .int st, .int 3, .int (sr + 1), .int (li + 1), .int lp, .int mi]))) := by rw [ef7, e5, bx_uu]
    have h9 : f7 en = some (.inr (1, [.ref nw, .ref na, .ref nq, .ref nr, .int mg, .int st, .int 3, .int (sr + 1), .int (li + 1), .int lp, .int mi])) := by rw [ef7, va_up_self]
    refine lv_aload_n hx hb dX1_ask_41 rfl (lv_at hl9 0 rfl) ?_
    refine hp_get B0 hw 1 rfl in_X1 h9 3 (by decide) qF_X1_24 rfl dX1_ask_42 ?_
    refine hp_new (fs := [.int 0, .int 0, .int 0, .null, .null]) B0 hw hS 2 rfl in_X2 tyX2 tyX2_ok qC_X1_71 qI_X2 qN_X2 (fun j hj => by rcases (show j = 0 ∨ j = 1 ∨ j = 2 ∨ j = 3 ∨ j = 4 by omega) with rfl | rfl | rfl | rfl | rfl <;> rfl) (Nat.le_of_ble_eq_true rfl) (Nat.le_of_ble_eq_true rfl) dX1_ask_45 (fun q10 H f12 w11 ef12 hw hS => ?_)
    have h13 : f12 q10 = some (.inr (2, [.int 0, .int 0, .int 0, .null, .null])) := by rw [ef12, va_up_self]
    refine lv_dup hx hb dX1_ask_48 rfl ?_
    refine lv_iconst (v := 0) hx hb dX1_ask_49 (by decide) ?_
    refine lv_aload_n hx hb dX1_ask_50 rfl (lv_at hl9 0 rfl) ?_
    have h14 : f12 en = some (.inr (1, [.ref nw, .ref na, .ref nq, .ref nr, .int mg, .int st, .int 3, .int (sr + 1), .int (li + 1), .int lp, .int mi])) := by rw [ef12, va_up_ne _ _ (hnew h9 w11)]; exact h9
    refine hp_get B0 hw 1 rfl in_X1 h14 8 (by decide) qF_X1_38 rfl dX1_ask_51 ?_
    refine lv_aload_n hx hb dX1_ask_54 rfl (lv_at hl9 0 rfl) ?_
    refine hp_get B0 hw 1 rfl in_X1 h14 4 (by decide) qF_X1_48 rfl dX1_ask_55 ?_
    refine lv_aload_n hx hb dX1_ask_58 rfl (lv_at hl9 0 rfl) ?_
    refine hp_get B0 hw 1 rfl in_X1 h14 2 (by decide) qF_X1_18 rfl dX1_ask_59 ?_
    refine lv_bipush (v := 6) hx hb dX1_ask_62 (by decide) ?_
    have n16 : nq ≠ en := hne k_nq k_en (Nat.ne_of_beq_eq_false rfl)
    have h15 : f7 nq = some (.inl (cI G, 6, .inl gq)) := by rw [e8, va_up_ne _ _ n16]; exact k_nq
    have h17 : f12 nq = some (.inl (cI G, 6, .inl gq)) := by rw [ef12, va_up_ne _ _ (hnew h15 w11)]; exact h15
    refine hp_S (As := [.ref nq, .int 6]) (rest := [.int mg, .int (li + 1), .int 0, .ref q10, .ref q10, .ref nr]) B0 hw hS (c_J7_copyE hl G f12 nq gq h17) mS_J7_copyOf_59c91 qM_X1_95 rfl rfl hl9.1 (Nat.le_of_ble_eq_true rfl) ⟨⟨Nat.le_of_ble_eq_true rfl, Nat.le_of_ble_eq_true rfl⟩, Nat.le_of_ble_eq_true rfl, Nat.le_of_ble_eq_true rfl⟩ dX1_ask_64 (fun E ce q9 f18 H locs hPX hw hS hce hcv hcl => ?_) (fun v f18 H locs hP hw hS => ?_)
    · exact hPX.elim
    · obtain ⟨q19, ev9, w20, e21⟩ := hP
      subst ev9
      have h23 : f18 q19 = some (.inl (cI G, 6, .inl gq)) := by rw [e21, va_up_self]
      refine W.eq (g2 := F0 m 67 ls [.ref q19, .int mg, .int (li + 1), .int 0, .ref q10, .ref q10, .ref nr]) rfl ?_
      have h24 : f18 q10 = some (.inr (2, [.int 0, .int 0, .int 0, .null, .null])) := by rw [e21, va_up_ne _ _ (hnew h13 w20)]; exact h13
      refine hp_I (As := [.int 0, .int (li + 1), .int mg, .ref q19]) (rest := [.ref q10, .ref nr]) (b := q10) B0 hw hS (c_X2_initE hl G f18 q10 q19 0 (li + 1) mg h24) mI_X2_init qM_X1_99 rfl rfl hl9.1 (Nat.le_of_ble_eq_true rfl) ⟨⟨Nat.le_of_ble_eq_true rfl, Nat.le_of_ble_eq_true rfl⟩, Nat.le_of_ble_eq_true rfl, Nat.le_of_ble_eq_true rfl⟩ dX1_ask_67 (fun E ce q9 f25 H locs hPX hw hS hce hcv hcl => ?_) (fun v f25 H locs hP hw hS => ?_)
      · exact hPX.elim
      · obtain ⟨ev9, e26⟩ := hP
        subst ev9
        have h27 : f25 q10 = some (.inr (2, [.int 0, .int (li + 1), .int mg, .ref q19, .null])) := by rw [e26, va_up_self]
        refine W.eq (g2 := F0 m 70 ls [.ref q10, .ref nr]) rfl ?_
        have n29 : nr ≠ en := hne k_nr k_en (Nat.ne_of_beq_eq_false rfl)
        have h28 : f7 nr = some (.inr (3, [hd, tl, .int cn])) := by rw [e8, va_up_ne _ _ n29]; exact k_nr
        have h30 : f12 nr = some (.inr (3, [hd, tl, .int cn])) := by rw [ef12, va_up_ne _ _ (hnew h28 w11)]; exact h28
        have h31 : f18 nr = some (.inr (3, [hd, tl, .int cn])) := by rw [e21, va_up_ne _ _ (hnew h30 w20)]; exact h30
        have n33 : nr ≠ q10 := hnew h28 w11
        have h32 : f25 nr = some (.inr (3, [hd, tl, .int cn])) := by rw [e26, va_up_ne _ _ n33]; exact h31
        have p34 : PoolX G [] f7 := by rw [e8]; exact px_upd hPx k_en (Nat.ne_of_beq_eq_false rfl) (Nat.ne_of_beq_eq_false rfl) (fun g9 h9 => nomatch h9)
        have p35 : PoolX G [q10] f12 := by rw [ef12]; exact px_newF p34 w11
        have p36 : PoolX G [q10] f18 := by rw [e21]; exact px_new p35 w20 (Nat.ne_of_beq_eq_false rfl)
        have p37 : PoolX G [] f25 := by rw [e26]; exact px_frame p36 h24 h23 FRef.nul (fun b9 h9 n9 => absurd (List.mem_singleton.mp h9) n9)
        refine hp_V (ci := 3) (As := [.ref q10]) (rest := []) B0 hw hS (c_X3_put hl G f25 nr q10 _ h27 hd tl cn h32 (fhd.kp ((show hKp [en, nq, nr] f f7 from (by rw [e8]; exact hKp.up k_en (Nat.ne_of_beq_eq_false rfl) (by simp))).tr (hKp.trn w11 ((show hKp [q10, en, nq, nr] f7 f12 from (by rw [ef12]; exact hKp.new w11)).tr (hKp.trn w20 ((show hKp [q19, q10, en, nq, nr] f12 f18 from (by rw [e21]; exact hKp.new w20)).tr (show hKp [q19, q10, en, nq, nr] f18 f25 from (by rw [e26]; exact hKp.fr h24)))))))) (ftl.kp ((show hKp [en, nq, nr] f f7 from (by rw [e8]; exact hKp.up k_en (Nat.ne_of_beq_eq_false rfl) (by simp))).tr (hKp.trn w11 ((show hKp [q10, en, nq, nr] f7 f12 from (by rw [ef12]; exact hKp.new w11)).tr (hKp.trn w20 ((show hKp [q19, q10, en, nq, nr] f12 f18 from (by rw [e21]; exact hKp.new w20)).tr (show hKp [q19, q10, en, nq, nr] f18 f25 from (by rw [e26]; exact hKp.fr h24)))))))) p37) mV_X3_put qM_X1_102 rfl h32 rfl rfl hl9.1 (Nat.le_of_ble_eq_true rfl) ⟨⟨Nat.le_of_ble_eq_true rfl, Nat.le_of_ble_eq_true rfl⟩, Nat.le_of_ble_eq_true rfl, Nat.le_of_ble_eq_true rfl⟩ dX1_ask_70 (fun E ce q9 f38 H locs hPX hw hS hce hcv hcl => ?_) (fun v f38 H locs hP hw hS => ?_)
        · exact hPX.elim
        · obtain ⟨ev9, ⟨hd39, tl40, cn41, h42, h43, h44⟩, h45, h46⟩ := hP
          subst ev9
          refine W.eq (g2 := F0 m 73 ls []) rfl ?_
          refine lv_iconst (v := 1) hx hb dX1_ask_73 (by decide) ?_
          have h47 : f18 en = some (.inr (1, [.ref nw, .ref na, .ref nq, .ref nr, .int mg, .int st, .int 3, .int (sr + 1), .int (li + 1), .int lp, .int mi])) := by rw [e21, va_up_ne _ _ (hnew h14 w20)]; exact h14
          have n49 : en ≠ q10 := hnew h9 w11
          have h48 : f25 en = some (.inr (1, [.ref nw, .ref na, .ref nq, .ref nr, .int mg, .int st, .int 3, .int (sr + 1), .int (li + 1), .int lp, .int mi])) := by rw [e26, va_up_ne _ _ n49]; exact h47
          have h50 : f38 en = some (.inr (1, [.ref nw, .ref na, .ref nq, .ref nr, .int mg, .int st, .int 3, .int (sr + 1), .int (li + 1), .int lp, .int mi])) := h46.1 _ _ h48 (Nat.ne_of_beq_eq_false rfl) (ninc (Ne.symm n29) nin0)
          have h51 : f18 nq = some (.inl (cI G, 6, .inl gq)) := by rw [e21, va_up_ne _ _ (hnew h17 w20)]; exact h17
          have n53 : nq ≠ q10 := hnew h15 w11
          have h52 : f25 nq = some (.inl (cI G, 6, .inl gq)) := by rw [e26, va_up_ne _ _ n53]; exact h51
          have n54 : nq ≠ nr := hne k_nq k_nr (Nat.ne_of_beq_eq_false rfl)
          have h55 : f38 nq = some (.inl (cI G, 6, .inl gq)) := h46.1 _ _ h52 (Nat.ne_of_beq_eq_false rfl) (ninc n54 nin0)
          exact hp_zret (v := 1) B0 hw hS hr ⟨Nat.le_of_ble_eq_true rfl, Nat.le_of_ble_eq_true rfl⟩ (rfl) dX1_ask_74 (⟨Or.inr rfl, ⟨_, _, _, _, _, _, _, _, _, _, h50, h55, h42, h43, h44, blp⟩, h45, ((show hKp [en, nq, nr] f f7 from (by rw [e8]; exact hKp.up k_en (Nat.ne_of_beq_eq_false rfl) (by simp))).tr (hKp.trn w11 ((show hKp [q10, en, nq, nr] f7 f12 from (by rw [ef12]; exact hKp.new w11)).tr (hKp.trn w20 ((show hKp [q19, q10, en, nq, nr] f12 f18 from (by rw [e21]; exact hKp.new w20)).tr ((show hKp [q19, q10, en, nq, nr] f18 f25 from (by rw [e26]; exact hKp.fr h24)).tr (show hKp [q19, q10, en, nq, nr] f25 f38 from (h46.mono (fun x9 hx9 => by simp only [List.mem_cons, List.not_mem_nil, or_false] at hx9; rcases hx9 with hx9 <;> (rw [hx9]; simp))))))))))⟩)
  · refine lv_aload_n hx hb dX1_ask_9 rfl (lv_at hl9 0 rfl) ?_
    refine lv_iconst (v := 0) hx hb dX1_ask_10 (by decide) ?_
    refine hp_put (fs1 := [.ref nw, .ref na, .ref nq, .ref nr, .int mg, .int 0, .int tm, .int sr, .int li, .int lp, .int mi]) (ty := .int) B0 hw hS 1 rfl in_X1 tyX1 tyX1_ok nmX1 k_en 5 (by decide) qF_X1_28 rfl (by decide +kernel) rfl rfl (Nat.le_of_ble_eq_true rfl) rfl dX1_ask_11 (fun H locs f56 ef56 hw hS => ?_)
    have h57 : f56 en = some (.inr (1, [.ref nw, .ref na, .ref nq, .ref nr, .int mg, .int 0, .int tm, .int sr, .int li, .int lp, .int mi])) := by rw [ef56, va_up_self]
    refine lv_iconst (v := 0) hx hb dX1_ask_14 (by decide) ?_
    have n59 : nq ≠ en := hne k_nq k_en (Nat.ne_of_beq_eq_false rfl)
    have h58 : f56 nq = some (.inl (cI G, 6, .inl gq)) := by rw [ef56, va_up_ne _ _ n59]; exact k_nq
    have n61 : nr ≠ en := hne k_nr k_en (Nat.ne_of_beq_eq_false rfl)
    have h60 : f56 nr = some (.inr (3, [hd, tl, .int cn])) := by rw [ef56, va_up_ne _ _ n61]; exact k_nr
    have p62 : PoolX G [] f56 := by rw [ef56]; exact px_upd hPx k_en (Nat.ne_of_beq_eq_false rfl) (Nat.ne_of_beq_eq_false rfl) (fun g9 h9 => nomatch h9)
    exact hp_zret (v := 0) B0 hw hS hr ⟨Nat.le_of_ble_eq_true rfl, Nat.le_of_ble_eq_true rfl⟩ (rfl) dX1_ask_15 (⟨Or.inl rfl, ⟨_, _, _, _, _, _, _, _, _, _, h57, h58, h60, (fhd.kp (show hKp [en, nq, nr] f f56 from (by rw [ef56]; exact hKp.up k_en (Nat.ne_of_beq_eq_false rfl) (by simp)))), (ftl.kp (show hKp [en, nq, nr] f f56 from (by rw [ef56]; exact hKp.up k_en (Nat.ne_of_beq_eq_false rfl) (by simp)))), blp⟩, p62, (show hKp [en, nq, nr] f f56 from (by rw [ef56]; exact hKp.up k_en (Nat.ne_of_beq_eq_false rfl) (by simp)))⟩)

set_option maxHeartbeats 4000000 in
set_option maxRecDepth 100000 in
theorem c_X1_sendStop {l : Launch} (hl : l.stackTraces = false) (G : hG) (f : hM) (en nw na nq nr : Nat) (mg : Int32) (hE : EF G f en nw na nq nr mg) (hPx : PoolX G [] f) : CT l yX1_sendStop (.code yX1_sendStop cX1_sendStop 1 none) 2 43 2 11 G [.ref en] f (fun v f1 => v = none ∧ EF G f1 en nw na nq nr mg ∧ PoolX G [] f1 ∧ hKp [en, nq, nr] f f1) (fun E f1 => False) := by
  refine hp_start hl (own := RX1) (by decide) rfl (Nat.le_of_ble_eq_true rfl) ?_
  intro p e s m args below meth c B0 hr hnm hout hw hS ls hl9
  have hx := B0.1
  have hb := B0.2.1
  have hl9 : lv_has ls 1 [(0, .ref en)] := hl9
  obtain ⟨st, tm, sr, li, lp, mi, cn, gq, hd, tl, k_en, k_nq, k_nr, fhd, ftl, blp⟩ := hE
  refine lv_aload_n hx hb dX1_sendStop_0 rfl (lv_at hl9 0 rfl) ?_
  refine hp_get B0 hw 1 rfl in_X1 k_en 3 (by decide) qF_X1_24 rfl dX1_sendStop_1 ?_
  refine hp_new (fs := [.int 0, .int 0, .int 0, .null, .null]) B0 hw hS 2 rfl in_X2 tyX2 tyX2_ok qC_X1_71 qI_X2 qN_X2 (fun j hj => by rcases (show j = 0 ∨ j = 1 ∨ j = 2 ∨ j = 3 ∨ j = 4 by omega) with rfl | rfl | rfl | rfl | rfl <;> rfl) (Nat.le_of_ble_eq_true rfl) (Nat.le_of_ble_eq_true rfl) dX1_sendStop_4 (fun q1 H f3 w2 ef3 hw hS => ?_)
  have h4 : f3 q1 = some (.inr (2, [.int 0, .int 0, .int 0, .null, .null])) := by rw [ef3, va_up_self]
  refine lv_dup hx hb dX1_sendStop_7 rfl ?_
  refine lv_iconst (v := 4) hx hb dX1_sendStop_8 (by decide) ?_
  refine lv_iconst (v := 0) hx hb dX1_sendStop_9 (by decide) ?_
  refine lv_iconst (v := 0) hx hb dX1_sendStop_10 (by decide) ?_
  refine hp_S (As := []) (rest := [.int 0, .int 0, .int 4, .ref q1, .ref q1, .ref nr]) B0 hw hS (c_X1_tell hl G f3 ) mS_X1_tellNothing qM_X1_105 rfl rfl hl9.1 (Nat.le_of_ble_eq_true rfl) ⟨⟨Nat.le_of_ble_eq_true rfl, Nat.le_of_ble_eq_true rfl⟩, Nat.le_of_ble_eq_true rfl, Nat.le_of_ble_eq_true rfl⟩ dX1_sendStop_11 (fun E ce q9 f5 H locs hPX hw hS hce hcv hcl => ?_) (fun v f5 H locs hP hw hS => ?_)
  · exact hPX.elim
  · obtain ⟨q6, g9, ev9, w7, e8⟩ := hP
    subst ev9
    have h10 : f5 q6 = some (.inl (cI G, 6, .inl g9)) := by rw [e8, va_up_self]
    refine W.eq (g2 := F0 m 14 ls [.ref q6, .int 0, .int 0, .int 4, .ref q1, .ref q1, .ref nr]) rfl ?_
    have h11 : f5 q1 = some (.inr (2, [.int 0, .int 0, .int 0, .null, .null])) := by rw [e8, va_up_ne _ _ (hnew h4 w7)]; exact h4
    refine hp_I (As := [.int 4, .int 0, .int 0, .ref q6]) (rest := [.ref q1, .ref nr]) (b := q1) B0 hw hS (c_X2_initE hl G f5 q1 q6 4 0 0 h11) mI_X2_init qM_X1_99 rfl rfl hl9.1 (Nat.le_of_ble_eq_true rfl) ⟨⟨Nat.le_of_ble_eq_true rfl, Nat.le_of_ble_eq_true rfl⟩, Nat.le_of_ble_eq_true rfl, Nat.le_of_ble_eq_true rfl⟩ dX1_sendStop_14 (fun E ce q9 f12 H locs hPX hw hS hce hcv hcl => ?_) (fun v f12 H locs hP hw hS => ?_)
    · exact hPX.elim
    · obtain ⟨ev9, e13⟩ := hP
      subst ev9
      have h14 : f12 q1 = some (.inr (2, [.int 4, .int 0, .int 0, .ref q6, .null])) := by rw [e13, va_up_self]
      refine W.eq (g2 := F0 m 17 ls [.ref q1, .ref nr]) rfl ?_
      have h15 : f3 nr = some (.inr (3, [hd, tl, .int cn])) := by rw [ef3, va_up_ne _ _ (hnew k_nr w2)]; exact k_nr
      have h16 : f5 nr = some (.inr (3, [hd, tl, .int cn])) := by rw [e8, va_up_ne _ _ (hnew h15 w7)]; exact h15
      have n18 : nr ≠ q1 := hnew k_nr w2
      have h17 : f12 nr = some (.inr (3, [hd, tl, .int cn])) := by rw [e13, va_up_ne _ _ n18]; exact h16
      have p19 : PoolX G [q1] f3 := by rw [ef3]; exact px_newF hPx w2
      have p20 : PoolX G [q1] f5 := by rw [e8]; exact px_new p19 w7 (Nat.ne_of_beq_eq_false rfl)
      have p21 : PoolX G [] f12 := by rw [e13]; exact px_frame p20 h11 h10 FRef.nul (fun b9 h9 n9 => absurd (List.mem_singleton.mp h9) n9)
      refine hp_V (ci := 3) (As := [.ref q1]) (rest := []) B0 hw hS (c_X3_put hl G f12 nr q1 _ h14 hd tl cn h17 (fhd.kp (hKp.trn w2 ((show hKp [q1, en, nq, nr] f f3 from (by rw [ef3]; exact hKp.new w2)).tr (hKp.trn w7 ((show hKp [q6, q1, en, nq, nr] f3 f5 from (by rw [e8]; exact hKp.new w7)).tr (show hKp [q6, q1, en, nq, nr] f5 f12 from (by rw [e13]; exact hKp.fr h11))))))) (ftl.kp (hKp.trn w2 ((show hKp [q1, en, nq, nr] f f3 from (by rw [ef3]; exact hKp.new w2)).tr (hKp.trn w7 ((show hKp [q6, q1, en, nq, nr] f3 f5 from (by rw [e8]; exact hKp.new w7)).tr (show hKp [q6, q1, en, nq, nr] f5 f12 from (by rw [e13]; exact hKp.fr h11))))))) p21) mV_X3_put qM_X1_102 rfl h17 rfl rfl hl9.1 (Nat.le_of_ble_eq_true rfl) ⟨⟨Nat.le_of_ble_eq_true rfl, Nat.le_of_ble_eq_true rfl⟩, Nat.le_of_ble_eq_true rfl, Nat.le_of_ble_eq_true rfl⟩ dX1_sendStop_17 (fun E ce q9 f22 H locs hPX hw hS hce hcv hcl => ?_) (fun v f22 H locs hP hw hS => ?_)
      · exact hPX.elim
      · obtain ⟨ev9, ⟨hd23, tl24, cn25, h26, h27, h28⟩, h29, h30⟩ := hP
        subst ev9
        refine W.eq (g2 := F0 m 20 ls []) rfl ?_
        have h31 : f3 en = some (.inr (1, [.ref nw, .ref na, .ref nq, .ref nr, .int mg, .int st, .int tm, .int sr, .int li, .int lp, .int mi])) := by rw [ef3, va_up_ne _ _ (hnew k_en w2)]; exact k_en
        have h32 : f5 en = some (.inr (1, [.ref nw, .ref na, .ref nq, .ref nr, .int mg, .int st, .int tm, .int sr, .int li, .int lp, .int mi])) := by rw [e8, va_up_ne _ _ (hnew h31 w7)]; exact h31
        have n34 : en ≠ q1 := hnew k_en w2
        have h33 : f12 en = some (.inr (1, [.ref nw, .ref na, .ref nq, .ref nr, .int mg, .int st, .int tm, .int sr, .int li, .int lp, .int mi])) := by rw [e13, va_up_ne _ _ n34]; exact h32
        have n35 : en ≠ nr := hne k_en k_nr (Nat.ne_of_beq_eq_false rfl)
        have h36 : f22 en = some (.inr (1, [.ref nw, .ref na, .ref nq, .ref nr, .int mg, .int st, .int tm, .int sr, .int li, .int lp, .int mi])) := h30.1 _ _ h33 (Nat.ne_of_beq_eq_false rfl) (ninc n35 nin0)
        have h37 : f3 nq = some (.inl (cI G, 6, .inl gq)) := by rw [ef3, va_up_ne _ _ (hnew k_nq w2)]; exact k_nq
        have h38 : f5 nq = some (.inl (cI G, 6, .inl gq)) := by rw [e8, va_up_ne _ _ (hnew h37 w7)]; exact h37
        have n40 : nq ≠ q1 := hnew k_nq w2
        have h39 : f12 nq = some (.inl (cI G, 6, .inl gq)) := by rw [e13, va_up_ne _ _ n40]; exact h38
        have n41 : nq ≠ nr := hne k_nq k_nr (Nat.ne_of_beq_eq_false rfl)
        have h42 : f22 nq = some (.inl (cI G, 6, .inl gq)) := h30.1 _ _ h39 (Nat.ne_of_beq_eq_false rfl) (ninc n41 nin0)
        exact hp_vret B0 hw hS hr ⟨Nat.le_of_ble_eq_true rfl, Nat.le_of_ble_eq_true rfl⟩ dX1_sendStop_20 (⟨rfl, ⟨_, _, _, _, _, _, _, _, _, _, h36, h42, h26, h27, h28, blp⟩, h29, (hKp.trn w2 ((show hKp [q1, en, nq, nr] f f3 from (by rw [ef3]; exact hKp.new w2)).tr (hKp.trn w7 ((show hKp [q6, q1, en, nq, nr] f3 f5 from (by rw [e8]; exact hKp.new w7)).tr ((show hKp [q6, q1, en, nq, nr] f5 f12 from (by rw [e13]; exact hKp.fr h11)).tr (show hKp [q6, q1, en, nq, nr] f12 f22 from (h30.mono (fun x9 hx9 => by simp only [List.mem_cons, List.not_mem_nil, or_false] at hx9; rcases hx9 with hx9 <;> (rw [hx9]; simp)))))))))⟩)

set_option maxHeartbeats 4000000 in
set_option maxRecDepth 100000 in
theorem c_X1_finish {l : Launch} (hl : l.stackTraces = false) (G : hG) (f : hM) (en nw na nq nr : Nat) (mg : Int32) (hE : EF G f en nw na nq nr mg) (hPx : PoolX G [] f) : CT l yX1_finish (.code yX1_finish cX1_finish 2 (some .int)) 3 63 2 11 G [.ref en] f (fun v f1 => (∃ r : Int32, v = some (.int r)) ∧ EF G f1 en nw na nq nr mg ∧ PoolX G [] f1 ∧ hKp [en, nq, nr] f f1) (fun E f1 => False) := by
  refine hp_start hl (own := RX1) (by decide) rfl (Nat.le_of_ble_eq_true rfl) ?_
  intro p e s m args below meth c B0 hr hnm hout hw hS ls hl9
  have hx := B0.1
  have hb := B0.2.1
  have hl9 : lv_has ls 2 [(0, .ref en)] := hl9
  obtain ⟨st, tm, sr, li, lp, mi, cn, gq, hd, tl, k_en, k_nq, k_nr, fhd, ftl, blp⟩ := hE
  refine lv_aload_n hx hb dX1_finish_0 rfl (lv_at hl9 0 rfl) ?_
  refine hp_get B0 hw 1 rfl in_X1 k_en 5 (by decide) qF_X1_28 rfl dX1_finish_1 ?_
  refine lv_istore_n (lv' := [(1, .int st), (0, .ref en)]) hx hb dX1_finish_4 rfl hl9 (by decide) rfl (fun ls hl9 => ?_)
  refine lv_aload_n hx hb dX1_finish_5 rfl (lv_at hl9 1 rfl) ?_
  refine hp_V (ci := 1) (As := []) (rest := []) B0 hw hS (c_X1_sendStop hl G f en nw na nq nr mg ⟨_, _, _, _, _, _, _, _, _, _, k_en, k_nq, k_nr, fhd, ftl, blp⟩ hPx ) mV_X1_sendStop qM_X1_67 rfl k_en rfl rfl hl9.1 (Nat.le_of_ble_eq_true rfl) ⟨⟨Nat.le_of_ble_eq_true rfl, Nat.le_of_ble_eq_true rfl⟩, Nat.le_of_ble_eq_true rfl, Nat.le_of_ble_eq_true rfl⟩ dX1_finish_6 (fun E ce q9 f1 H locs hPX hw hS hce hcv hcl => ?_) (fun v f1 H locs hP hw hS => ?_)
  · exact hPX.elim
  · obtain ⟨ev9, h2, p3, k4⟩ := hP
    obtain ⟨st5, tm6, sr7, li8, lp9, mi10, cn11, gq12, hd13, tl14, h15, h16, h17, h18, h19, h20⟩ := h2
    subst ev9
    refine W.eq (g2 := F0 m 9 ls []) rfl ?_
    refine lv_aload_n hx hb dX1_finish_9 rfl (lv_at hl9 1 rfl) ?_
    refine lv_iconst (v := 0) hx hb dX1_finish_10 (by decide) ?_
    refine hp_put (fs1 := [.ref nw, .ref na, .ref nq, .ref nr, .int mg, .int 0, .int tm6, .int sr7, .int li8, .int lp9, .int mi10]) (ty := .int) B0 hw hS 1 rfl in_X1 tyX1 tyX1_ok nmX1 h15 5 (by decide) qF_X1_28 rfl (by decide +kernel) rfl rfl (Nat.le_of_ble_eq_true rfl) rfl dX1_finish_11 (fun H locs f21 ef21 hw hS => ?_)
    have h22 : f21 en = some (.inr (1, [.ref nw, .ref na, .ref nq, .ref nr, .int mg, .int 0, .int tm6, .int sr7, .int li8, .int lp9, .int mi10])) := by rw [ef21, va_up_self]
    refine lv_iload_n hx hb dX1_finish_14 rfl (lv_at hl9 0 rfl) ?_
    have n24 : nq ≠ en := hne k_nq k_en (Nat.ne_of_beq_eq_false rfl)
    have h23 : f21 nq = some (.inl (cI G, 6, .inl gq12)) := by rw [ef21, va_up_ne _ _ n24]; exact h16
    have n26 : nr ≠ en := hne k_nr k_en (Nat.ne_of_beq_eq_false rfl)
    have h25 : f21 nr = some (.inr (3, [hd13, tl14, .int cn11])) := by rw [ef21, va_up_ne _ _ n26]; exact h17
    have p27 : PoolX G [] f21 := by rw [ef21]; exact px_upd p3 h15 (Nat.ne_of_beq_eq_false rfl) (Nat.ne_of_beq_eq_false rfl) (fun g9 h9 => nomatch h9)
    exact hp_iret (v := st) B0 hw hS hr ⟨Nat.le_of_ble_eq_true rfl, Nat.le_of_ble_eq_true rfl⟩ dX1_finish_15 (⟨⟨_, rfl⟩, ⟨_, _, _, _, _, _, _, _, _, _, h22, h23, h25, (h18.kp (show hKp [en, nq, nr] f1 f21 from (by rw [ef21]; exact hKp.up h15 (Nat.ne_of_beq_eq_false rfl) (by simp)))), (h19.kp (show hKp [en, nq, nr] f1 f21 from (by rw [ef21]; exact hKp.up h15 (Nat.ne_of_beq_eq_false rfl) (by simp)))), h20⟩, p27, ((show hKp [en, nq, nr] f f1 from (k4.mono (fun x9 hx9 => by simp only [List.mem_cons, List.not_mem_nil, or_false] at hx9; rcases hx9 with hx9 | hx9 | hx9 <;> (rw [hx9]; simp)))).tr (show hKp [en, nq, nr] f1 f21 from (by rw [ef21]; exact hKp.up h15 (Nat.ne_of_beq_eq_false rfl) (by simp))))⟩)

set_option maxHeartbeats 4000000 in
set_option maxRecDepth 100000 in
theorem c_X1_tick {l : Launch} (hl : l.stackTraces = false) (G : hG) (f : hM) (en nw na nq nr : Nat) (mg : Int32) (hE : EF G f en nw na nq nr mg) (hPx : PoolX G [] f) : CT l yX1_tick (.code yX1_tick cX1_tick 1 (some .boolean)) 3 57 2 11 G [.ref en] f (fun v f1 => (v = some (.int 0) ∨ v = some (.int 1)) ∧ EF G f1 en nw na nq nr mg ∧ PoolX G [] f1 ∧ hKp [en, nq, nr] f f1) (fun E f1 => False) := by
  refine hp_start hl (own := RX1) (by decide) rfl (Nat.le_of_ble_eq_true rfl) ?_
  intro p e s m args below meth c B0 hr hnm hout hw hS ls hl9
  have hx := B0.1
  have hb := B0.2.1
  have hl9 : lv_has ls 1 [(0, .ref en)] := hl9
  obtain ⟨st, tm, sr, li, lp, mi, cn, gq, hd, tl, k_en, k_nq, k_nr, fhd, ftl, blp⟩ := hE
  refine lv_aload_n hx hb dX1_tick_0 rfl (lv_at hl9 0 rfl) ?_
  refine hp_get B0 hw 1 rfl in_X1 k_en 5 (by decide) qF_X1_28 rfl dX1_tick_1 ?_
  refine lv_if_eq (tgt := 15) hx hb dX1_tick_4 (by decide) (fun c1 => ?_) (fun c1 => ?_)
  · refine lv_iconst (v := 0) hx hb dX1_tick_15 (by decide) ?_
    exact hp_zret (v := 0) B0 hw hS hr ⟨Nat.le_of_ble_eq_true rfl, Nat.le_of_ble_eq_true rfl⟩ (rfl) dX1_tick_16 (⟨Or.inl rfl, ⟨_, _, _, _, _, _, _, _, _, _, k_en, k_nq, k_nr, fhd, ftl, blp⟩, hPx, hKp.rf⟩)
  · refine lv_aload_n hx hb dX1_tick_7 rfl (lv_at hl9 0 rfl) ?_
    refine hp_get B0 hw 1 rfl in_X1 k_en 5 (by decide) qF_X1_28 rfl dX1_tick_8 ?_
    refine lv_iconst (v := 4) hx hb dX1_tick_11 (by decide) ?_
    refine lv_icmp_ne (tgt := 17) hx hb dX1_tick_12 (by decide) (fun c2 => ?_) (fun c2 => ?_)
    · refine lv_aload_n hx hb dX1_tick_17 rfl (lv_at hl9 0 rfl) ?_
      refine lv_dup hx hb dX1_tick_18 rfl ?_
      refine hp_get B0 hw 1 rfl in_X1 k_en 6 (by decide) qF_X1_32 rfl dX1_tick_19 ?_
      refine lv_iconst (v := 1) hx hb dX1_tick_22 (by decide) ?_
      refine lv_isub hx hb dX1_tick_23 ?_
      refine hp_put (fs1 := [.ref nw, .ref na, .ref nq, .ref nr, .int mg, .int st, .int (tm - 1), .int sr, .int li, .int lp, .int mi]) (ty := .int) B0 hw hS 1 rfl in_X1 tyX1 tyX1_ok nmX1 k_en 6 (by decide) qF_X1_32 rfl (by decide +kernel) rfl rfl (Nat.le_of_ble_eq_true rfl) rfl dX1_tick_24 (fun H locs f3 ef3 hw hS => ?_)
      have h4 : f3 en = some (.inr (1, [.ref nw, .ref na, .ref nq, .ref nr, .int mg, .int st, .int (tm - 1), .int sr, .int li, .int lp, .int mi])) := by rw [ef3, va_up_self]
      refine lv_aload_n hx hb dX1_tick_27 rfl (lv_at hl9 0 rfl) ?_
      refine hp_get B0 hw 1 rfl in_X1 h4 6 (by decide) qF_X1_32 rfl dX1_tick_28 ?_
      refine lv_if_le (tgt := 36) hx hb dX1_tick_31 (by decide) (fun c5 => ?_) (fun c5 => ?_)
      · refine lv_aload_n hx hb dX1_tick_36 rfl (lv_at hl9 0 rfl) ?_
        refine hp_get B0 hw 1 rfl in_X1 h4 5 (by decide) qF_X1_28 rfl dX1_tick_37 ?_
        refine lv_iconst (v := 2) hx hb dX1_tick_40 (by decide) ?_
        refine lv_icmp_ne (tgt := 49) hx hb dX1_tick_41 (by decide) (fun c6 => ?_) (fun c6 => ?_)
        · refine lv_aload_n hx hb dX1_tick_49 rfl (lv_at hl9 0 rfl) ?_
          have n8 : nq ≠ en := hne k_nq k_en (Nat.ne_of_beq_eq_false rfl)
          have h7 : f3 nq = some (.inl (cI G, 6, .inl gq)) := by rw [ef3, va_up_ne _ _ n8]; exact k_nq
          have n10 : nr ≠ en := hne k_nr k_en (Nat.ne_of_beq_eq_false rfl)
          have h9 : f3 nr = some (.inr (3, [hd, tl, .int cn])) := by rw [ef3, va_up_ne _ _ n10]; exact k_nr
          have p11 : PoolX G [] f3 := by rw [ef3]; exact px_upd hPx k_en (Nat.ne_of_beq_eq_false rfl) (Nat.ne_of_beq_eq_false rfl) (fun g9 h9 => nomatch h9)
          refine hp_V (ci := 1) (As := []) (rest := []) B0 hw hS (c_X1_ask hl G f3 en nw na nq nr mg ⟨_, _, _, _, _, _, _, _, _, _, h4, h7, h9, (fhd.kp (show hKp [en, nq, nr] f f3 from (by rw [ef3]; exact hKp.up k_en (Nat.ne_of_beq_eq_false rfl) (by simp)))), (ftl.kp (show hKp [en, nq, nr] f f3 from (by rw [ef3]; exact hKp.up k_en (Nat.ne_of_beq_eq_false rfl) (by simp)))), blp⟩ p11 ) mV_X1_ask qM_X1_63 rfl h4 rfl rfl hl9.1 (Nat.le_of_ble_eq_true rfl) ⟨⟨Nat.le_of_ble_eq_true rfl, Nat.le_of_ble_eq_true rfl⟩, Nat.le_of_ble_eq_true rfl, Nat.le_of_ble_eq_true rfl⟩ dX1_tick_50 (fun E ce q9 f12 H locs hPX hw hS hce hcv hcl => ?_) (fun v f12 H locs hP hw hS => ?_)
          · exact hPX.elim
          · obtain ⟨hv9, hr9⟩ := hP
            rcases hv9 with ev9 | ev9
            · subst ev9
              have hP := hr9
              obtain ⟨h13, p14, k15⟩ := hP
              obtain ⟨st16, tm17, sr18, li19, lp20, mi21, cn22, gq23, hd24, tl25, h26, h27, h28, h29, h30, h31⟩ := h13
              refine W.eq (g2 := F0 m 53 ls [.int 0]) rfl ?_
              exact hp_zret (v := 0) B0 hw hS hr ⟨Nat.le_of_ble_eq_true rfl, Nat.le_of_ble_eq_true rfl⟩ (rfl) dX1_tick_53 (⟨Or.inl rfl, ⟨_, _, _, _, _, _, _, _, _, _, h26, h27, h28, h29, h30, h31⟩, p14, ((show hKp [en, nq, nr] f f3 from (by rw [ef3]; exact hKp.up k_en (Nat.ne_of_beq_eq_false rfl) (by simp))).tr (show hKp [en, nq, nr] f3 f12 from (k15.mono (fun x9 hx9 => by simp only [List.mem_cons, List.not_mem_nil, or_false] at hx9; rcases hx9 with hx9 | hx9 | hx9 <;> (rw [hx9]; simp)))))⟩)
            · subst ev9
              have hP := hr9
              obtain ⟨h32, p33, k34⟩ := hP
              obtain ⟨st35, tm36, sr37, li38, lp39, mi40, cn41, gq42, hd43, tl44, h45, h46, h47, h48, h49, h50⟩ := h32
              refine W.eq (g2 := F0 m 53 ls [.int 1]) rfl ?_
              exact hp_zret (v := 1) B0 hw hS hr ⟨Nat.le_of_ble_eq_true rfl, Nat.le_of_ble_eq_true rfl⟩ (rfl) dX1_tick_53 (⟨Or.inr rfl, ⟨_, _, _, _, _, _, _, _, _, _, h45, h46, h47, h48, h49, h50⟩, p33, ((show hKp [en, nq, nr] f f3 from (by rw [ef3]; exact hKp.up k_en (Nat.ne_of_beq_eq_false rfl) (by simp))).tr (show hKp [en, nq, nr] f3 f12 from (k34.mono (fun x9 hx9 => by simp only [List.mem_cons, List.not_mem_nil, or_false] at hx9; rcases hx9 with hx9 | hx9 | hx9 <;> (rw [hx9]; simp)))))⟩)
        · refine lv_aload_n hx hb dX1_tick_44 rfl (lv_at hl9 0 rfl) ?_
          refine lv_iconst (v := 1) hx hb dX1_tick_45 (by decide) ?_
          refine hp_put (fs1 := [.ref nw, .ref na, .ref nq, .ref nr, .int mg, .int 1, .int (tm - 1), .int sr, .int li, .int lp, .int mi]) (ty := .int) B0 hw hS 1 rfl in_X1 tyX1 tyX1_ok nmX1 h4 5 (by decide) qF_X1_28 rfl (by decide +kernel) rfl rfl (Nat.le_of_ble_eq_true rfl) rfl dX1_tick_46 (fun H locs f51 ef51 hw hS => ?_)
          have e52 : f51 = va_up f en (some (.inr (1, [.ref nw, .ref na, .ref nq, .ref nr, .int mg, .int 1, .int (tm - 1), .int sr, .int li, .int lp, .int mi]))) := by rw [ef51, ef3, bx_uu]
          have h53 : f51 en = some (.inr (1, [.ref nw, .ref na, .ref nq, .ref nr, .int mg, .int 1, .int (tm - 1), .int sr, .int li, .int lp, .int mi])) := by rw [ef51, va_up_self]
          refine lv_aload_n hx hb dX1_tick_49 rfl (lv_at hl9 0 rfl) ?_
          have n55 : nq ≠ en := hne k_nq k_en (Nat.ne_of_beq_eq_false rfl)
          have h54 : f51 nq = some (.inl (cI G, 6, .inl gq)) := by rw [e52, va_up_ne _ _ n55]; exact k_nq
          have n57 : nr ≠ en := hne k_nr k_en (Nat.ne_of_beq_eq_false rfl)
          have h56 : f51 nr = some (.inr (3, [hd, tl, .int cn])) := by rw [e52, va_up_ne _ _ n57]; exact k_nr
          have p58 : PoolX G [] f51 := by rw [e52]; exact px_upd hPx k_en (Nat.ne_of_beq_eq_false rfl) (Nat.ne_of_beq_eq_false rfl) (fun g9 h9 => nomatch h9)
          refine hp_V (ci := 1) (As := []) (rest := []) B0 hw hS (c_X1_ask hl G f51 en nw na nq nr mg ⟨_, _, _, _, _, _, _, _, _, _, h53, h54, h56, (fhd.kp (show hKp [en, nq, nr] f f51 from (by rw [e52]; exact hKp.up k_en (Nat.ne_of_beq_eq_false rfl) (by simp)))), (ftl.kp (show hKp [en, nq, nr] f f51 from (by rw [e52]; exact hKp.up k_en (Nat.ne_of_beq_eq_false rfl) (by simp)))), blp⟩ p58 ) mV_X1_ask qM_X1_63 rfl h53 rfl rfl hl9.1 (Nat.le_of_ble_eq_true rfl) ⟨⟨Nat.le_of_ble_eq_true rfl, Nat.le_of_ble_eq_true rfl⟩, Nat.le_of_ble_eq_true rfl, Nat.le_of_ble_eq_true rfl⟩ dX1_tick_50 (fun E ce q9 f59 H locs hPX hw hS hce hcv hcl => ?_) (fun v f59 H locs hP hw hS => ?_)
          · exact hPX.elim
          · obtain ⟨hv9, hr9⟩ := hP
            rcases hv9 with ev9 | ev9
            · subst ev9
              have hP := hr9
              obtain ⟨h60, p61, k62⟩ := hP
              obtain ⟨st63, tm64, sr65, li66, lp67, mi68, cn69, gq70, hd71, tl72, h73, h74, h75, h76, h77, h78⟩ := h60
              refine W.eq (g2 := F0 m 53 ls [.int 0]) rfl ?_
              exact hp_zret (v := 0) B0 hw hS hr ⟨Nat.le_of_ble_eq_true rfl, Nat.le_of_ble_eq_true rfl⟩ (rfl) dX1_tick_53 (⟨Or.inl rfl, ⟨_, _, _, _, _, _, _, _, _, _, h73, h74, h75, h76, h77, h78⟩, p61, ((show hKp [en, nq, nr] f f51 from (by rw [e52]; exact hKp.up k_en (Nat.ne_of_beq_eq_false rfl) (by simp))).tr (show hKp [en, nq, nr] f51 f59 from (k62.mono (fun x9 hx9 => by simp only [List.mem_cons, List.not_mem_nil, or_false] at hx9; rcases hx9 with hx9 | hx9 | hx9 <;> (rw [hx9]; simp)))))⟩)
            · subst ev9
              have hP := hr9
              obtain ⟨h79, p80, k81⟩ := hP
              obtain ⟨st82, tm83, sr84, li85, lp86, mi87, cn88, gq89, hd90, tl91, h92, h93, h94, h95, h96, h97⟩ := h79
              refine W.eq (g2 := F0 m 53 ls [.int 1]) rfl ?_
              exact hp_zret (v := 1) B0 hw hS hr ⟨Nat.le_of_ble_eq_true rfl, Nat.le_of_ble_eq_true rfl⟩ (rfl) dX1_tick_53 (⟨Or.inr rfl, ⟨_, _, _, _, _, _, _, _, _, _, h92, h93, h94, h95, h96, h97⟩, p80, ((show hKp [en, nq, nr] f f51 from (by rw [e52]; exact hKp.up k_en (Nat.ne_of_beq_eq_false rfl) (by simp))).tr (show hKp [en, nq, nr] f51 f59 from (k81.mono (fun x9 hx9 => by simp only [List.mem_cons, List.not_mem_nil, or_false] at hx9; rcases hx9 with hx9 | hx9 | hx9 <;> (rw [hx9]; simp)))))⟩)
      · refine lv_iconst (v := 0) hx hb dX1_tick_34 (by decide) ?_
        have n99 : nq ≠ en := hne k_nq k_en (Nat.ne_of_beq_eq_false rfl)
        have h98 : f3 nq = some (.inl (cI G, 6, .inl gq)) := by rw [ef3, va_up_ne _ _ n99]; exact k_nq
        have n101 : nr ≠ en := hne k_nr k_en (Nat.ne_of_beq_eq_false rfl)
        have h100 : f3 nr = some (.inr (3, [hd, tl, .int cn])) := by rw [ef3, va_up_ne _ _ n101]; exact k_nr
        have p102 : PoolX G [] f3 := by rw [ef3]; exact px_upd hPx k_en (Nat.ne_of_beq_eq_false rfl) (Nat.ne_of_beq_eq_false rfl) (fun g9 h9 => nomatch h9)
        exact hp_zret (v := 0) B0 hw hS hr ⟨Nat.le_of_ble_eq_true rfl, Nat.le_of_ble_eq_true rfl⟩ (rfl) dX1_tick_35 (⟨Or.inl rfl, ⟨_, _, _, _, _, _, _, _, _, _, h4, h98, h100, (fhd.kp (show hKp [en, nq, nr] f f3 from (by rw [ef3]; exact hKp.up k_en (Nat.ne_of_beq_eq_false rfl) (by simp)))), (ftl.kp (show hKp [en, nq, nr] f f3 from (by rw [ef3]; exact hKp.up k_en (Nat.ne_of_beq_eq_false rfl) (by simp)))), blp⟩, p102, (show hKp [en, nq, nr] f f3 from (by rw [ef3]; exact hKp.up k_en (Nat.ne_of_beq_eq_false rfl) (by simp)))⟩)
    · refine lv_iconst (v := 0) hx hb dX1_tick_15 (by decide) ?_
      exact hp_zret (v := 0) B0 hw hS hr ⟨Nat.le_of_ble_eq_true rfl, Nat.le_of_ble_eq_true rfl⟩ (rfl) dX1_tick_16 (⟨Or.inl rfl, ⟨_, _, _, _, _, _, _, _, _, _, k_en, k_nq, k_nr, fhd, ftl, blp⟩, hPx, hKp.rf⟩)

set_option maxHeartbeats 4000000 in
set_option maxRecDepth 100000 in
theorem c_X1_begin {l : Launch} (hl : l.stackTraces = false) (G : hG) (f : hM) (en nw na nq nr : Nat) (mg : Int32) (hE : EF G f en nw na nq nr mg) (hPx : PoolX G [] f) (gw : Nat → Int32) (k_nw : f nw = some (.inl (cI G, 6, .inl gw))) (hwq : nw ≠ nq) : CT l yX1_begin (.code yX1_begin cX1_begin 1 (some .int)) 3 57 2 11 G [.ref en] f (fun v f1 => (∃ r : Int32, v = some (.int r)) ∧ EF G f1 en nw na nq nr mg ∧ PoolX G [] f1 ∧ hKp [en, nq, nr] f f1) (fun E f1 => False) := by
  refine hp_start hl (own := RX1) (by decide) rfl (Nat.le_of_ble_eq_true rfl) ?_
  intro p e s m args below meth c B0 hr hnm hout hw hS ls hl9
  have hx := B0.1
  have hb := B0.2.1
  have hl9 : lv_has ls 1 [(0, .ref en)] := hl9
  obtain ⟨st, tm, sr, li, lp, mi, cn, gq, hd, tl, k_en, k_nq, k_nr, fhd, ftl, blp⟩ := hE
  refine lv_aload_n hx hb dX1_begin_0 rfl (lv_at hl9 0 rfl) ?_
  refine hp_get B0 hw 1 rfl in_X1 k_en 0 (by decide) qF_X1_9 rfl dX1_begin_1 ?_
  refine lv_iconst (v := 0) hx hb dX1_begin_4 (by decide) ?_
  refine lv_aload_n hx hb dX1_begin_5 rfl (lv_at hl9 0 rfl) ?_
  refine hp_get B0 hw 1 rfl in_X1 k_en 2 (by decide) qF_X1_18 rfl dX1_begin_6 ?_
  refine lv_iconst (v := 0) hx hb dX1_begin_9 (by decide) ?_
  refine lv_bipush (v := 6) hx hb dX1_begin_10 (by decide) ?_
  refine hp_copyI B0 hw hS hl9.1 qM_X1_57 qV_arraycopy qs_arraycopy qN_java_lang_System k_nw k_nq (by decide) (by decide) (by decide) (by decide) (by decide) ⟨Nat.le_of_ble_eq_true rfl, by decide⟩ dX1_begin_12 (fun H locs f1 ef1 hw hS => ?_)
  have h2 : f1 nq = some (.inl (cI G, 6, .inl (va_cpy gw gq (0 : Int32).toNatClampNeg (0 : Int32).toNatClampNeg (6 : Int32).toNatClampNeg))) := by rw [ef1, va_up_self]
  refine lv_aload_n hx hb dX1_begin_15 rfl (lv_at hl9 0 rfl) ?_
  refine lv_iconst (v := 0) hx hb dX1_begin_16 (by decide) ?_
  have n4 : en ≠ nq := hne k_en k_nq (Nat.ne_of_beq_eq_false rfl)
  have h3 : f1 en = some (.inr (1, [.ref nw, .ref na, .ref nq, .ref nr, .int mg, .int st, .int tm, .int sr, .int li, .int lp, .int mi])) := by rw [ef1, va_up_ne _ _ n4]; exact k_en
  refine hp_put (fs1 := [.ref nw, .ref na, .ref nq, .ref nr, .int mg, .int st, .int tm, .int 0, .int li, .int lp, .int mi]) (ty := .int) B0 hw hS 1 rfl in_X1 tyX1 tyX1_ok nmX1 h3 7 (by decide) qF_X1_35 rfl (by decide +kernel) rfl rfl (Nat.le_of_ble_eq_true rfl) rfl dX1_begin_17 (fun H locs f5 ef5 hw hS => ?_)
  have h6 : f5 en = some (.inr (1, [.ref nw, .ref na, .ref nq, .ref nr, .int mg, .int st, .int tm, .int 0, .int li, .int lp, .int mi])) := by rw [ef5, va_up_self]
  refine lv_aload_n hx hb dX1_begin_20 rfl (lv_at hl9 0 rfl) ?_
  refine lv_iconst (v := 1) hx hb dX1_begin_21 (by decide) ?_
  refine hp_put (fs1 := [.ref nw, .ref na, .ref nq, .ref nr, .int mg, .int 1, .int tm, .int 0, .int li, .int lp, .int mi]) (ty := .int) B0 hw hS 1 rfl in_X1 tyX1 tyX1_ok nmX1 h6 5 (by decide) qF_X1_28 rfl (by decide +kernel) rfl rfl (Nat.le_of_ble_eq_true rfl) rfl dX1_begin_22 (fun H locs f7 ef7 hw hS => ?_)
  have e8 : f7 = va_up f1 en (some (.inr (1, [.ref nw, .ref na, .ref nq, .ref nr, .int mg, .int 1, .int tm, .int 0, .int li, .int lp, .int mi]))) := by rw [ef7, ef5, bx_uu]
  have h9 : f7 en = some (.inr (1, [.ref nw, .ref na, .ref nq, .ref nr, .int mg, .int 1, .int tm, .int 0, .int li, .int lp, .int mi])) := by rw [ef7, va_up_self]
  refine lv_aload_n hx hb dX1_begin_25 rfl (lv_at hl9 0 rfl) ?_
  have h10 : f7 nq = some (.inl (cI G, 6, .inl (va_cpy gw gq (0 : Int32).toNatClampNeg (0 : Int32).toNatClampNeg (6 : Int32).toNatClampNeg))) := by rw [e8, va_up_ne _ _ (Ne.symm n4)]; exact h2
  have n12 : nr ≠ nq := hne k_nr k_nq (Nat.ne_of_beq_eq_false rfl)
  have h11 : f1 nr = some (.inr (3, [hd, tl, .int cn])) := by rw [ef1, va_up_ne _ _ n12]; exact k_nr
  have n14 : nr ≠ en := hne k_nr k_en (Nat.ne_of_beq_eq_false rfl)
  have h13 : f7 nr = some (.inr (3, [hd, tl, .int cn])) := by rw [e8, va_up_ne _ _ n14]; exact h11
  have p15 : PoolX G [] f1 := by rw [ef1]; exact px_upd hPx k_nq (Nat.ne_of_beq_eq_false rfl) (Nat.ne_of_beq_eq_false rfl) (fun g9 h9 => ⟨_, rfl⟩)
  have p16 : PoolX G [] f7 := by rw [e8]; exact px_upd p15 h3 (Nat.ne_of_beq_eq_false rfl) (Nat.ne_of_beq_eq_false rfl) (fun g9 h9 => nomatch h9)
  refine hp_V (ci := 1) (As := []) (rest := []) B0 hw hS (c_X1_ask hl G f7 en nw na nq nr mg ⟨_, _, _, _, _, _, _, _, _, _, h9, h10, h13, (fhd.kp ((show hKp [en, nq, nr] f f1 from (by rw [ef1]; exact hKp.up k_nq (Nat.ne_of_beq_eq_false rfl) (by simp))).tr (show hKp [en, nq, nr] f1 f7 from (by rw [e8]; exact hKp.up h3 (Nat.ne_of_beq_eq_false rfl) (by simp))))), (ftl.kp ((show hKp [en, nq, nr] f f1 from (by rw [ef1]; exact hKp.up k_nq (Nat.ne_of_beq_eq_false rfl) (by simp))).tr (show hKp [en, nq, nr] f1 f7 from (by rw [e8]; exact hKp.up h3 (Nat.ne_of_beq_eq_false rfl) (by simp))))), blp⟩ p16 ) mV_X1_ask qM_X1_63 rfl h9 rfl rfl hl9.1 (Nat.le_of_ble_eq_true rfl) ⟨⟨Nat.le_of_ble_eq_true rfl, Nat.le_of_ble_eq_true rfl⟩, Nat.le_of_ble_eq_true rfl, Nat.le_of_ble_eq_true rfl⟩ dX1_begin_26 (fun E ce q9 f17 H locs hPX hw hS hce hcv hcl => ?_) (fun v f17 H locs hP hw hS => ?_)
  · exact hPX.elim
  · obtain ⟨hv9, hr9⟩ := hP
    rcases hv9 with ev9 | ev9
    · subst ev9
      have hP := hr9
      obtain ⟨h18, p19, k20⟩ := hP
      obtain ⟨st21, tm22, sr23, li24, lp25, mi26, cn27, gq28, hd29, tl30, h31, h32, h33, h34, h35, h36⟩ := h18
      refine W.eq (g2 := F0 m 29 ls [.int 0]) rfl ?_
      refine lv_pop hx hb dX1_begin_29 rfl ?_
      refine lv_aload_n hx hb dX1_begin_30 rfl (lv_at hl9 0 rfl) ?_
      refine hp_get B0 hw 1 rfl in_X1 h31 8 (by decide) qF_X1_38 rfl dX1_begin_31 ?_
      exact hp_iret (v := li24) B0 hw hS hr ⟨Nat.le_of_ble_eq_true rfl, Nat.le_of_ble_eq_true rfl⟩ dX1_begin_34 (⟨⟨_, rfl⟩, ⟨_, _, _, _, _, _, _, _, _, _, h31, h32, h33, h34, h35, h36⟩, p19, ((show hKp [en, nq, nr] f f1 from (by rw [ef1]; exact hKp.up k_nq (Nat.ne_of_beq_eq_false rfl) (by simp))).tr ((show hKp [en, nq, nr] f1 f7 from (by rw [e8]; exact hKp.up h3 (Nat.ne_of_beq_eq_false rfl) (by simp))).tr (show hKp [en, nq, nr] f7 f17 from (k20.mono (fun x9 hx9 => by simp only [List.mem_cons, List.not_mem_nil, or_false] at hx9; rcases hx9 with hx9 | hx9 | hx9 <;> (rw [hx9]; simp))))))⟩)
    · subst ev9
      have hP := hr9
      obtain ⟨h37, p38, k39⟩ := hP
      obtain ⟨st40, tm41, sr42, li43, lp44, mi45, cn46, gq47, hd48, tl49, h50, h51, h52, h53, h54, h55⟩ := h37
      refine W.eq (g2 := F0 m 29 ls [.int 1]) rfl ?_
      refine lv_pop hx hb dX1_begin_29 rfl ?_
      refine lv_aload_n hx hb dX1_begin_30 rfl (lv_at hl9 0 rfl) ?_
      refine hp_get B0 hw 1 rfl in_X1 h50 8 (by decide) qF_X1_38 rfl dX1_begin_31 ?_
      exact hp_iret (v := li43) B0 hw hS hr ⟨Nat.le_of_ble_eq_true rfl, Nat.le_of_ble_eq_true rfl⟩ dX1_begin_34 (⟨⟨_, rfl⟩, ⟨_, _, _, _, _, _, _, _, _, _, h50, h51, h52, h53, h54, h55⟩, p38, ((show hKp [en, nq, nr] f f1 from (by rw [ef1]; exact hKp.up k_nq (Nat.ne_of_beq_eq_false rfl) (by simp))).tr ((show hKp [en, nq, nr] f1 f7 from (by rw [e8]; exact hKp.up h3 (Nat.ne_of_beq_eq_false rfl) (by simp))).tr (show hKp [en, nq, nr] f7 f17 from (k39.mono (fun x9 hx9 => by simp only [List.mem_cons, List.not_mem_nil, or_false] at hx9; rcases hx9 with hx9 | hx9 | hx9 <;> (rw [hx9]; simp))))))⟩)

