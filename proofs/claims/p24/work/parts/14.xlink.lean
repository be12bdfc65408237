/-! Frames: any number of them, each with its row of six; what holds of all of them at once. -/
def FRef (f : hM) (v : Value) : Prop := v = .null ∨ ∃ (b : Nat) (k : List Value), v = .ref b ∧ f b = some (.inr (2, k))
def PoolX (G : hG) (S : List Nat) (f : hM) : Prop := ∀ (a : Nat) (k : List Value), f a = some (.inr (2, k)) → a ∉ S → ∃ (x1 x2 x3 : Int32) (v : Nat) (bh : Value) (g : Nat → Int32), k = [.int x1, .int x2, .int x3, .ref v, bh] ∧ f v = some (.inl (cI G, 6, .inl g)) ∧ FRef f bh
/-- cells that are no frames and not in S stay; frames stay frames -/
def hKp (S : List Nat) (f f1 : hM) : Prop := (∀ a e, f a = some e → hTag e ≠ 3 → a ∉ S → f1 a = some e) ∧ ∀ a k, f a = some (.inr (2, k)) → ∃ k1, f1 a = some (.inr (2, k1))
theorem hKp.rf {S : List Nat} {f : hM} : hKp S f f := ⟨fun _ _ h _ _ => h, fun _ k h => ⟨k, h⟩⟩
theorem hKp.tr {S : List Nat} {f f1 f2 : hM} (h : hKp S f f1) (h2 : hKp S f1 f2) : hKp S f f2 :=
  ⟨fun a e q t n => h2.1 a e (h.1 a e q t n) t n, fun a k q => by obtain ⟨k1, q1⟩ := h.2 a k q; exact h2.2 a k1 q1⟩
theorem hKp.mono {S T : List Nat} {f f1 : hM} (h : hKp S f f1) (hs : ∀ a, a ∈ S → a ∈ T) : hKp T f f1 := ⟨fun a e q t n => h.1 a e q t (fun z => n (hs a z)), h.2⟩
theorem hTag3 {e : va_E} (h : hTag e = 3) : ∃ k, e = .inr (2, k) := by
  cases e with
  | inl x => exact absurd h (by show (0 : Nat) ≠ 3; decide)
  | inr o => obtain ⟨c, k⟩ := o; have h9 : c + 1 = 3 := h; exact ⟨k, by rw [show c = 2 by omega]⟩
theorem hKp.of {S : List Nat} {f f1 : hM} (h : hKeep S f f1) (hS : ∀ a ∈ S, ∀ k, f a ≠ some (.inr (2, k))) : hKp S f f1 :=
  ⟨fun a e q _ n => h a e q n, fun a k q => ⟨k, h a _ q (fun n => hS a n k q)⟩⟩
/-- one cell of S is written, no frame before and after -/
theorem hKp.up {S : List Nat} {f : hM} {a : Nat} {e0 e1 : va_E} (ha : f a = some e0) (h0 : hTag e0 ≠ 3) (hS : a ∈ S) : hKp S f (va_up f a (some e1)) := by
  refine ⟨fun b e q _ n => ?_, fun b k q => ⟨k, ?_⟩⟩
  · rw [va_up_ne _ _ (fun z => n (by rw [z]; exact hS))]; exact q
  · rw [va_up_ne _ _ (fun z => by rw [z, ha] at q; cases q; exact h0 rfl)]; exact q
/-- a frame is written, and stays one -/
theorem hKp.fr {S : List Nat} {f : hM} {a : Nat} {k0 k1 : List Value} (ha : f a = some (.inr (2, k0))) : hKp S f (va_up f a (some (.inr (2, k1)))) := by
  refine ⟨fun b e q t _ => ?_, fun b k q => ?_⟩
  · rw [va_up_ne _ _ (fun z => by rw [z, ha] at q; cases q; exact t rfl)]; exact q
  · by_cases z : b = a
    · rw [z, va_up_self]; exact ⟨k1, rfl⟩
    · rw [va_up_ne _ _ z]; exact ⟨k, q⟩
theorem hKp.new {S : List Nat} {f : hM} {q : Nat} {e : va_E} (hq : f q = none) : hKp S f (va_up f q (some e)) := by
  refine ⟨fun b x h _ _ => ?_, fun b k h => ⟨k, ?_⟩⟩ <;> (rw [va_up_ne _ _ (fun z => by rw [z, hq] at h; cases h)]; exact h)
/-- what was made anew may be written too -/
theorem hKp.trn {S : List Nat} {f f2 : hM} {q : Nat} (hq : f q = none) (h2 : hKp (q :: S) f f2) : hKp S f f2 := ⟨fun a e h t n => h2.1 a e h t (ninc (fun z => by rw [z, hq] at h; cases h) n), h2.2⟩
theorem FRef.kp {S : List Nat} {f f1 : hM} {v : Value} (h : FRef f v) (k : hKp S f f1) : FRef f1 v := by
  rcases h with h | ⟨b, x, h1, h2⟩
  · exact Or.inl h
  · obtain ⟨x1, h3⟩ := k.2 b x h2
    exact Or.inr ⟨b, x1, h1, h3⟩
theorem FRef.nul {f : hM} : FRef f .null := Or.inl rfl
theorem FRef.ref {f : hM} {b : Nat} {k : List Value} (h : f b = some (.inr (2, k))) : FRef f (.ref b) := Or.inr ⟨b, k, rfl, h⟩
theorem px_upd {G : hG} {S : List Nat} {f : hM} {a : Nat} {e0 e1 : va_E} (h : PoolX G S f) (ha : f a = some e0) (h0 : hTag e0 ≠ 3) (h1 : hTag e1 ≠ 3) (hr : ∀ g, e0 = .inl (cI G, 6, .inl g) → ∃ g', e1 = .inl (cI G, 6, .inl g')) : PoolX G S (va_up f a (some e1)) := by
  intro b k hb hn
  have hba : b ≠ a := fun z => by rw [z, va_up_self] at hb; cases hb; exact h1 rfl
  rw [va_up_ne _ _ hba] at hb
  obtain ⟨x1, x2, x3, v, bh, g, h2, h3, h4⟩ := h b k hb hn
  have h5 := h4.kp (hKp.up (S := [a]) (e1 := e1) ha h0 List.mem_cons_self)
  by_cases z : v = a
  · rw [z, ha] at h3
    cases h3
    obtain ⟨g', hg⟩ := hr g rfl
    exact ⟨x1, x2, x3, v, bh, g', h2, by rw [z, va_up_self, hg], h5⟩
  · exact ⟨x1, x2, x3, v, bh, g, h2, by rw [va_up_ne _ _ z]; exact h3, h5⟩
theorem px_new {G : hG} {S : List Nat} {f : hM} {q : Nat} {e : va_E} (h : PoolX G S f) (hq : f q = none) (h1 : hTag e ≠ 3) : PoolX G S (va_up f q (some e)) := by
  intro b k hb hn
  have hba : b ≠ q := fun z => by rw [z, va_up_self] at hb; cases hb; exact h1 rfl
  rw [va_up_ne _ _ hba] at hb
  obtain ⟨x1, x2, x3, v, bh, g, h2, h3, h4⟩ := h b k hb hn
  exact ⟨x1, x2, x3, v, bh, g, h2, by rw [va_up_ne _ _ (fun z => by rw [z, hq] at h3; cases h3)]; exact h3, h4.kp (hKp.new (S := []) hq)⟩
theorem px_newF {G : hG} {S : List Nat} {f : hM} {q : Nat} {k9 : List Value} (h : PoolX G S f) (hq : f q = none) : PoolX G (q :: S) (va_up f q (some (.inr (2, k9)))) := by
  intro b k hb hn
  have hba : b ≠ q := fun z => hn (by rw [z]; exact List.mem_cons_self)
  rw [va_up_ne _ _ hba] at hb
  obtain ⟨x1, x2, x3, v, bh, g, h2, h3, h4⟩ := h b k hb (fun z => hn (List.mem_cons_of_mem _ z))
  exact ⟨x1, x2, x3, v, bh, g, h2, by rw [va_up_ne _ _ (fun z => by rw [z, hq] at h3; cases h3)]; exact h3, h4.kp (hKp.new (S := []) hq)⟩
theorem px_frame {G : hG} {S S1 : List Nat} {f : hM} {a : Nat} {k0 : List Value} {x1 x2 x3 : Int32} {v : Nat} {bh : Value} {g : Nat → Int32} (h : PoolX G S f) (ha : f a = some (.inr (2, k0))) (hv : f v = some (.inl (cI G, 6, .inl g))) (hb : FRef f bh) (hS : ∀ b, b ∈ S → b ≠ a → b ∈ S1) : PoolX G S1 (va_up f a (some (.inr (2, [.int x1, .int x2, .int x3, .ref v, bh])))) := by
  have key : ∀ {w : Value}, FRef f w → FRef (va_up f a (some (.inr (2, [.int x1, .int x2, .int x3, .ref v, bh])))) w := fun hw => hw.kp (hKp.fr (S := []) ha)
  have arr : ∀ {z : Nat} {y : Nat → Int32}, f z = some (.inl (cI G, 6, .inl y)) → va_up f a (some (.inr (2, [.int x1, .int x2, .int x3, .ref v, bh]))) z = some (.inl (cI G, 6, .inl y)) := fun hz => by
    rw [va_up_ne _ _ (fun e => by rw [e, ha] at hz; cases hz)]; exact hz
  intro b k hb9 hn
  by_cases z : b = a
  · rw [z, va_up_self] at hb9
    cases hb9
    exact ⟨x1, x2, x3, v, bh, g, rfl, arr hv, key hb⟩
  · rw [va_up_ne _ _ z] at hb9
    obtain ⟨y1, y2, y3, v2, bh2, g2, h2, h3, h4⟩ := h b k hb9 (fun q => hn (hS b q z))
    exact ⟨y1, y2, y3, v2, bh2, g2, h2, arr h3, key h4⟩
section HFORC
variable {p : Program} {l : Launch} {e : Env} {R : Room} {s : State} {m : MethodId} {args : Array Value} {below : List Frame} {meth : Method} {c : Code} {Q : State → Prop}
variable {nL pc : Nat} {G : hG}
/-- a counted loop that makes cells: so many a round -/
theorem hp_forC (I : Nat → hM → List (Nat × Value) → Prop) (T c0 s0 dc ds : Nat)
    (step : ∀ (j : Nat) (f : hM) (lv : List (Nat × Value)) (H : Heap) (locs : List Loc) (ls : Array Slot), j < T → I j f lv → hW G f H → va_S (hFr G) s.heap H locs → lv_has ls nL lv →
      (∀ (f : hM) (lv : List (Nat × Value)) (H : Heap) (locs : List Loc) (ls : Array Slot), I (j + 1) f lv → hW G f H → va_S (hFr G) s.heap H locs → lv_has ls nL lv → W p l e R s m args below meth c H locs (c0 + (j + 1) * dc) (s0 + (j + 1) * ds) Q (F0 m pc ls [])) → W p l e R s m args below meth c H locs (c0 + j * dc) (s0 + j * ds) Q (F0 m pc ls []))
    (exit : ∀ (f : hM) (lv : List (Nat × Value)) (H : Heap) (locs : List Loc) (ls : Array Slot), I T f lv → hW G f H → va_S (hFr G) s.heap H locs → lv_has ls nL lv → W p l e R s m args below meth c H locs (c0 + T * dc) (s0 + T * ds) Q (F0 m pc ls [])) :
    ∀ (n j : Nat), j + n = T → ∀ (f : hM) (lv : List (Nat × Value)) (H : Heap) (locs : List Loc) (ls : Array Slot), I j f lv → hW G f H → va_S (hFr G) s.heap H locs → lv_has ls nL lv → W p l e R s m args below meth c H locs (c0 + j * dc) (s0 + j * ds) Q (F0 m pc ls []) := by
  intro n
  induction n with
  | zero =>
    intro j hj f lv H locs ls hI hw hS hl
    have e9 : j = T := by omega
    subst e9
    exact exit f lv H locs ls hI hw hS hl
  | succ n ih =>
    intro j hj f lv H locs ls hI hw hS hl
    exact step j f lv H locs ls (by omega) hI hw hS hl (fun f2 lv2 H2 locs2 ls2 h1 h2 h3 h4 => ih (j + 1) (by omega) f2 lv2 H2 locs2 ls2 h1 h2 h3 h4)
end HFORC

def hLen (e : va_E) : Nat := match e with
  | .inl a => a.2.1
  | .inr _ => 0
theorem hneL {f : hM} {a b : Nat} {x y : va_E} (ha : f a = some x) (hb : f b = some y) (h : hLen x ≠ hLen y) : a ≠ b := fun e => by
  rw [e, hb] at ha
  cases ha
  exact h rfl
def hEq (S : List Nat) (f f1 : hM) : Prop := ∀ a, a ∉ S → f1 a = f a
theorem sub_nil {S : List Nat} : ∀ x, x ∈ ([] : List Nat) → x ∈ S := fun _ h => nomatch h
theorem sub_cons {a : Nat} {L S : List Nat} (h : a ∈ S) (t : ∀ x, x ∈ L → x ∈ S) : ∀ x, x ∈ a :: L → x ∈ S := fun x hx => by
  rcases List.mem_cons.mp hx with e | e
  · rw [e]; exact h
  · exact t x e
theorem hEq.rf {S : List Nat} {f : hM} : hEq S f f := fun _ _ => rfl
theorem hEq.tr {S : List Nat} {f f1 f2 : hM} (h : hEq S f f1) (h2 : hEq S f1 f2) : hEq S f f2 := fun a n => (h2 a n).trans (h a n)
theorem hEq.mono {S T : List Nat} {f f1 : hM} (h : hEq S f f1) (hs : ∀ a, a ∈ S → a ∈ T) : hEq T f f1 := fun a n => h a (fun z => n (hs a z))
theorem hEq.up {S : List Nat} {f : hM} {a : Nat} {e : Option va_E} (h : a ∈ S) : hEq S f (va_up f a e) := fun b n => va_up_ne _ _ (fun z => n (by rw [z]; exact h))
theorem hEq.k {S : List Nat} {f f1 : hM} (h : hEq S f f1) : hKeep S f f1 := fun a e q n => (h a n).trans q
theorem px_eq {G : hG} {S T : List Nat} {f f1 : hM} (h : PoolX G T f) (he : hEq S f f1) (hS : ∀ b, b ∈ S → ∃ e0 e1, f b = some e0 ∧ f1 b = some e1 ∧ hTag e0 ≠ 3 ∧ hTag e1 ≠ 3 ∧ hLen e0 ≠ 6) : PoolX G T f1 := by
  intro b k hb hn
  have hb0 : b ∉ S := fun z => by
    obtain ⟨e0, e1, q0, q1, t0, t1, l0⟩ := hS b z
    rw [hb] at q1; cases q1; exact t1 rfl
  rw [he b hb0] at hb
  obtain ⟨x1, x2, x3, v, bh, g, h2, h3, h4⟩ := h b k hb hn
  have hv0 : v ∉ S := fun z => by
    obtain ⟨e0, e1, q0, q1, t0, t1, l0⟩ := hS v z
    rw [h3] at q0; cases q0; exact l0 rfl
  refine ⟨x1, x2, x3, v, bh, g, h2, by rw [he v hv0]; exact h3, ?_⟩
  rcases h4 with h4 | ⟨w, k2, h5, h6⟩
  · exact Or.inl h4
  · have hw0 : w ∉ S := fun z => by
      obtain ⟨e0, e1, q0, q1, t0, t1, l0⟩ := hS w z
      rw [h6] at q0; cases q0; exact t0 rfl
    exact Or.inr ⟨w, k2, h5, by rw [he w hw0]; exact h6⟩
/-- an end, but its wishes and sets: some state, a row of six that it asks for, a row of frames -/
def EF (G : hG) (f : hM) (en nw na nq nr : Nat) (mg : Int32) : Prop := ∃ (st tm sr li lp mi cn : Int32) (gq : Nat → Int32) (hd tl : Value), f en = some (.inr (1, [.ref nw, .ref na, .ref nq, .ref nr, .int mg, .int st, .int tm, .int sr, .int li, .int lp, .int mi])) ∧ f nq = some (.inl (cI G, 6, .inl gq)) ∧ f nr = some (.inr (3, [hd, tl, .int cn])) ∧ FRef f hd ∧ FRef f tl ∧ narrow .boolean (.int lp) = .int lp
set_option maxHeartbeats 4000000 in
set_option maxRecDepth 100000 in
theorem c_X2_initE {l : Launch} (hl : l.stackTraces = false) (G : hG) (f : hM) (fr nv : Nat) (k i x : Int32) (k_fr : f fr = some (.inr (2, [.int 0, .int 0, .int 0, .null, .null]))) : CT l yX2_init (.code yX2_init cX2_init 5 none) 1 13 0 0 G [.ref fr, .int k, .int i, .int x, .ref nv] f (fun v f1 => v = none ∧ f1 = va_up f fr (some (.inr (2, [.int k, .int i, .int x, .ref nv, .null])))) (fun E f1 => False) := by
  refine hp_start hl (own := RX2) (by decide) rfl (Nat.le_of_ble_eq_true rfl) ?_
  intro p e s m args below meth c B0 hr hnm hout hw hS ls hl9
  have hx := B0.1
  have hb := B0.2.1
  have hl9 : lv_has ls 5 [(0, .ref fr), (1, .int k), (2, .int i), (3, .int x), (4, .ref nv)] := hl9
  refine lv_aload_n hx hb dX2_init_0 rfl (lv_at hl9 0 rfl) ?_
  refine W.objInit hx hb B0.2.2.2.1 (B0.2.2.2.2.1 _ qM_X2_1) (B0.2.2.2.2.1 _ qi_obj) (B0.2.2.2.2.1 _ qc_obj) rfl (by rw [B0.2.2.1]; exact hl9.1) rfl dX2_init_1 (Nat.le_of_ble_eq_true rfl) (Nat.le_of_ble_eq_true rfl) ?_
  refine W.eq (g2 := F0 m 4 ls []) rfl ?_
  refine lv_aload_n hx hb dX2_init_4 rfl (lv_at hl9 0 rfl) ?_
  refine lv_iload_n hx hb dX2_init_5 rfl (lv_at hl9 1 rfl) ?_
  refine hp_putF (fs1 := [.int k, .int 0, .int 0, .null, .null]) (ty := .int) B0 hw hS 2 rfl in_X2 tyX2 tyX2_ok nmX2 k_fr 0 (by decide) qF_X2_7 rfl hnm rfl (by decide +kernel) rfl rfl (Nat.le_of_ble_eq_true rfl) rfl dX2_init_6 (fun H locs f1 ef1 hw hS => ?_)
  have h2 : f1 fr = some (.inr (2, [.int k, .int 0, .int 0, .null, .null])) := by rw [ef1, va_up_self]
  refine lv_aload_n hx hb dX2_init_9 rfl (lv_at hl9 0 rfl) ?_
  refine lv_iload_n hx hb dX2_init_10 rfl (lv_at hl9 2 rfl) ?_
  refine hp_putF (fs1 := [.int k, .int i, .int 0, .null, .null]) (ty := .int) B0 hw hS 2 rfl in_X2 tyX2 tyX2_ok nmX2 h2 1 (by decide) qF_X2_13 rfl hnm rfl (by decide +kernel) rfl rfl (Nat.le_of_ble_eq_true rfl) rfl dX2_init_11 (fun H locs f3 ef3 hw hS => ?_)
  have e4 : f3 = va_up f fr (some (.inr (2, [.int k, .int i, .int 0, .null, .null]))) := by rw [ef3, ef1, bx_uu]
  have h5 : f3 fr = some (.inr (2, [.int k, .int i, .int 0, .null, .null])) := by rw [ef3, va_up_self]
  refine lv_aload_n hx hb dX2_init_14 rfl (lv_at hl9 0 rfl) ?_
  refine lv_iload_n hx hb dX2_init_15 rfl (lv_at hl9 3 rfl) ?_
  refine hp_putF (fs1 := [.int k, .int i, .int x, .null, .null]) (ty := .int) B0 hw hS 2 rfl in_X2 tyX2 tyX2_ok nmX2 h5 2 (by decide) qF_X2_16 rfl hnm rfl (by decide +kernel) rfl rfl (Nat.le_of_ble_eq_true rfl) rfl dX2_init_16 (fun H locs f6 ef6 hw hS => ?_)
  have e7 : f6 = va_up f fr (some (.inr (2, [.int k, .int i, .int x, .null, .null]))) := by rw [ef6, e4, bx_uu]
  have h8 : f6 fr = some (.inr (2, [.int k, .int i, .int x, .null, .null])) := by rw [ef6, va_up_self]
  refine lv_aload_n hx hb dX2_init_19 rfl (lv_at hl9 0 rfl) ?_
  refine lv_aload hx hb dX2_init_20 (lv_at hl9 4 rfl) ?_
  refine hp_putF (fs1 := [.int k, .int i, .int x, .ref nv, .null]) (ty := .array .int) B0 hw hS 2 rfl in_X2 tyX2 tyX2_ok nmX2 h8 3 (by decide) qF_X2_19 rfl hnm rfl (by decide +kernel) rfl rfl (Nat.le_of_ble_eq_true rfl) rfl dX2_init_22 (fun H locs f9 ef9 hw hS => ?_)
  have e10 : f9 = va_up f fr (some (.inr (2, [.int k, .int i, .int x, .ref nv, .null]))) := by rw [ef9, e7, bx_uu]
  have h11 : f9 fr = some (.inr (2, [.int k, .int i, .int x, .ref nv, .null])) := by rw [ef9, va_up_self]
  exact hp_vret B0 hw hS hr ⟨Nat.le_of_ble_eq_true rfl, Nat.le_of_ble_eq_true rfl⟩ dX2_init_25 (⟨rfl, e10⟩)

set_option maxHeartbeats 4000000 in
set_option maxRecDepth 100000 in
theorem c_J7_copyE {l : Launch} (hl : l.stackTraces = false) (G : hG) (f : hM) (na : Nat) (gx : Nat → Int32) (k_na : f na = some (.inl (cI G, 6, .inl gx))) : CT l yJ7_copyOf_59c91 (.code yJ7_copyOf_59c91 cJ7_copyOf_59c91 3 (some (.array .int))) 1 14 1 6 G [.ref na, .int 6] f (fun v f1 => ∃ q : Nat, v = some (.ref q) ∧ f q = none ∧ f1 = va_up f q (some (.inl (cI G, 6, .inl gx)))) (fun E f1 => False) := by
  refine hp_start hl (own := RJ7) (by decide) rfl (Nat.le_of_ble_eq_true rfl) ?_
  intro p e s m args below meth c B0 hr hnm hout hw hS ls hl9
  have hx := B0.1
  have hb := B0.2.1
  have hl9 : lv_has ls 3 [(0, .ref na), (1, .int 6)] := hl9
  refine lv_iload_n hx hb dJ7_copyOf_59c91_0 rfl (lv_at hl9 1 rfl) ?_
  refine lv_aload_n hx hb dJ7_copyOf_59c91_1 rfl (lv_at hl9 0 rfl) ?_
  refine hp_alenI B0 hw k_na (v := 6) (by decide) dJ7_copyOf_59c91_2 ?_
  refine lv_icmp_ne (tgt := 14) hx hb dJ7_copyOf_59c91_3 (by decide) (fun c9 => absurd (by decide) c9) (fun _ => ?_)
  refine lv_aload_n hx hb dJ7_copyOf_59c91_6 rfl (lv_at hl9 0 rfl) ?_
  refine hp_cloneI B0 hw hS hl9.1 qM_J7_316 qm_clone qV_clone qi_clone ql_clone oC_arr k_na ⟨⟨Nat.le_of_ble_eq_true rfl, Nat.le_of_ble_eq_true rfl⟩, Nat.le_of_ble_eq_true rfl, Nat.le_of_ble_eq_true rfl⟩ dJ7_copyOf_59c91_7 (fun q1 H f3 w2 ef3 hw hS => ?_)
  have h4 : f3 q1 = some (.inl (cI G, 6, .inl gx)) := by rw [ef3, va_up_self]
  refine hp_castI B0 hw qC_J7_317 h4 dJ7_copyOf_59c91_10 ?_
  exact hp_aret (v := .ref q1) B0 hw hS hr (Or.inr ⟨_, rfl⟩) (Or.inr ⟨_, rfl⟩) ⟨Nat.le_of_ble_eq_true rfl, Nat.le_of_ble_eq_true rfl⟩ dJ7_copyOf_59c91_13 (⟨q1, rfl, w2, ef3⟩)

set_option maxHeartbeats 4000000 in
set_option maxRecDepth 100000 in
theorem c_J7_fillE {l : Launch} (hl : l.stackTraces = false) (G : hG) (f : hM) (na : Nat) (gx : Nat → Int32) (k_na : f na = some (.inl (cI G, 6, .inl gx))) (x : Int32) : CT l yJ7_fill_53178 (.code yJ7_fill_53178 cJ7_fill_53178 4 none) 0 0 0 0 G [.ref na, .int x] f (fun v f1 => v = none ∧ f1 = va_up f na (some (.inl (cI G, 6, .inl (fun j => if j < 6 then x else gx j))))) (fun E f1 => False) := by
  refine hp_start hl (own := RJ7) (by decide) rfl (Nat.le_of_ble_eq_true rfl) ?_
  intro p e s m args below meth c B0 hr hnm hout hw hS ls hl9
  have hx := B0.1
  have hb := B0.2.1
  have hl9 : lv_has ls 4 [(0, .ref na), (1, .int x)] := hl9
  refine lv_iconst (v := 0) hx hb dJ7_fill_53178_0 (by decide) ?_
  refine lv_istore_n (lv' := [(2, .int 0), (0, .ref na), (1, .int x)]) hx hb dJ7_fill_53178_1 rfl hl9 (by decide) rfl (fun ls hl9 => ?_)
  refine lv_aload_n hx hb dJ7_fill_53178_2 rfl (lv_at hl9 1 rfl) ?_
  refine hp_alenI B0 hw k_na (v := 6) (by decide) dJ7_fill_53178_3 ?_
  refine lv_istore_n (lv' := [(3, .int 6), (2, .int 0), (0, .ref na), (1, .int x)]) hx hb dJ7_fill_53178_4 rfl hl9 (by decide) rfl (fun ls hl9 => ?_)
  refine lv_iload_n hx hb dJ7_fill_53178_5 rfl (lv_at hl9 1 rfl) ?_
  refine lv_iload_n hx hb dJ7_fill_53178_6 rfl (lv_at hl9 0 rfl) ?_
  refine lv_icmp_ge (tgt := 20) hx hb dJ7_fill_53178_7 (by decide) (fun c9 => absurd c9 (by decide)) (fun _ => ?_)
  refine lv_aload_n hx hb dJ7_fill_53178_10 rfl (lv_at hl9 2 rfl) ?_
  refine lv_iload_n hx hb dJ7_fill_53178_11 rfl (lv_at hl9 1 rfl) ?_
  refine lv_iload_n hx hb dJ7_fill_53178_12 rfl (lv_at hl9 3 rfl) ?_
  refine hp_iast B0 hw hS k_na (by unfold vp_in; decide) dJ7_fill_53178_13 (fun H locs f1 ef1 hw hS => ?_)
  have h2 : f1 na = some (.inl (cI G, 6, .inl (upd gx (0 : Int32).toNatClampNeg x))) := by rw [ef1, va_up_self]
  refine lv_iinc (v := 1) (lv' := [(2, .int 1), (3, .int 6), (0, .ref na), (1, .int x)]) hx hb dJ7_fill_53178_14 hl9 (k := 1) rfl (by decide) (by decide) rfl (fun ls hl9 => ?_)
  refine lv_goto (tgt := 5) hx hb dJ7_fill_53178_17 (by decide) ?_
  refine lv_iload_n hx hb dJ7_fill_53178_5 rfl (lv_at hl9 0 rfl) ?_
  refine lv_iload_n hx hb dJ7_fill_53178_6 rfl (lv_at hl9 1 rfl) ?_
  refine lv_icmp_ge (tgt := 20) hx hb dJ7_fill_53178_7 (by decide) (fun c9 => absurd c9 (by decide)) (fun _ => ?_)
  refine lv_aload_n hx hb dJ7_fill_53178_10 rfl (lv_at hl9 2 rfl) ?_
  refine lv_iload_n hx hb dJ7_fill_53178_11 rfl (lv_at hl9 0 rfl) ?_
  refine lv_iload_n hx hb dJ7_fill_53178_12 rfl (lv_at hl9 3 rfl) ?_
  refine hp_iast B0 hw hS h2 (by unfold vp_in; decide) dJ7_fill_53178_13 (fun H locs f3 ef3 hw hS => ?_)
  have e4 : f3 = va_up f na (some (.inl (cI G, 6, .inl (upd (upd gx (0 : Int32).toNatClampNeg x) (1 : Int32).toNatClampNeg x)))) := by rw [ef3, ef1, bx_uu]
  have h5 : f3 na = some (.inl (cI G, 6, .inl (upd (upd gx (0 : Int32).toNatClampNeg x) (1 : Int32).toNatClampNeg x))) := by rw [ef3, va_up_self]
  refine lv_iinc (v := 2) (lv' := [(2, .int 2), (3, .int 6), (0, .ref na), (1, .int x)]) hx hb dJ7_fill_53178_14 hl9 (k := 0) rfl (by decide) (by decide) rfl (fun ls hl9 => ?_)
  refine lv_goto (tgt := 5) hx hb dJ7_fill_53178_17 (by decide) ?_
  refine lv_iload_n hx hb dJ7_fill_53178_5 rfl (lv_at hl9 0 rfl) ?_
  refine lv_iload_n hx hb dJ7_fill_53178_6 rfl (lv_at hl9 1 rfl) ?_
  refine lv_icmp_ge (tgt := 20) hx hb dJ7_fill_53178_7 (by decide) (fun c9 => absurd c9 (by decide)) (fun _ => ?_)
  refine lv_aload_n hx hb dJ7_fill_53178_10 rfl (lv_at hl9 2 rfl) ?_
  refine lv_iload_n hx hb dJ7_fill_53178_11 rfl (lv_at hl9 0 rfl) ?_
  refine lv_iload_n hx hb dJ7_fill_53178_12 rfl (lv_at hl9 3 rfl) ?_
  refine hp_iast B0 hw hS h5 (by unfold vp_in; decide) dJ7_fill_53178_13 (fun H locs f6 ef6 hw hS => ?_)
  have e7 : f6 = va_up f na (some (.inl (cI G, 6, .inl (upd (upd (upd gx (0 : Int32).toNatClampNeg x) (1 : Int32).toNatClampNeg x) (2 : Int32).toNatClampNeg x)))) := by rw [ef6, e4, bx_uu]
  have h8 : f6 na = some (.inl (cI G, 6, .inl (upd (upd (upd gx (0 : Int32).toNatClampNeg x) (1 : Int32).toNatClampNeg x) (2 : Int32).toNatClampNeg x))) := by rw [ef6, va_up_self]
  refine lv_iinc (v := 3) (lv' := [(2, .int 3), (3, .int 6), (0, .ref na), (1, .int x)]) hx hb dJ7_fill_53178_14 hl9 (k := 0) rfl (by decide) (by decide) rfl (fun ls hl9 => ?_)
  refine lv_goto (tgt := 5) hx hb dJ7_fill_53178_17 (by decide) ?_
  refine lv_iload_n hx hb dJ7_fill_53178_5 rfl (lv_at hl9 0 rfl) ?_
  refine lv_iload_n hx hb dJ7_fill_53178_6 rfl (lv_at hl9 1 rfl) ?_
  refine lv_icmp_ge (tgt := 20) hx hb dJ7_fill_53178_7 (by decide) (fun c9 => absurd c9 (by decide)) (fun _ => ?_)
  refine lv_aload_n hx hb dJ7_fill_53178_10 rfl (lv_at hl9 2 rfl) ?_
  refine lv_iload_n hx hb dJ7_fill_53178_11 rfl (lv_at hl9 0 rfl) ?_
  refine lv_iload_n hx hb dJ7_fill_53178_12 rfl (lv_at hl9 3 rfl) ?_
  refine hp_iast B0 hw hS h8 (by unfold vp_in; decide) dJ7_fill_53178_13 (fun H locs f9 ef9 hw hS => ?_)
  have e10 : f9 = va_up f na (some (.inl (cI G, 6, .inl (upd (upd (upd (upd gx (0 : Int32).toNatClampNeg x) (1 : Int32).toNatClampNeg x) (2 : Int32).toNatClampNeg x) (3 : Int32).toNatClampNeg x)))) := by rw [ef9, e7, bx_uu]
  have h11 : f9 na = some (.inl (cI G, 6, .inl (upd (upd (upd (upd gx (0 : Int32).toNatClampNeg x) (1 : Int32).toNatClampNeg x) (2 : Int32).toNatClampNeg x) (3 : Int32).toNatClampNeg x))) := by rw [ef9, va_up_self]
  refine lv_iinc (v := 4) (lv' := [(2, .int 4), (3, .int 6), (0, .ref na), (1, .int x)]) hx hb dJ7_fill_53178_14 hl9 (k := 0) rfl (by decide) (by decide) rfl (fun ls hl9 => ?_)
  refine lv_goto (tgt := 5) hx hb dJ7_fill_53178_17 (by decide) ?_
  refine lv_iload_n hx hb dJ7_fill_53178_5 rfl (lv_at hl9 0 rfl) ?_
  refine lv_iload_n hx hb dJ7_fill_53178_6 rfl (lv_at hl9 1 rfl) ?_
  refine lv_icmp_ge (tgt := 20) hx hb dJ7_fill_53178_7 (by decide) (fun c9 => absurd c9 (by decide)) (fun _ => ?_)
  refine lv_aload_n hx hb dJ7_fill_53178_10 rfl (lv_at hl9 2 rfl) ?_
  refine lv_iload_n hx hb dJ7_fill_53178_11 rfl (lv_at hl9 0 rfl) ?_
  refine lv_iload_n hx hb dJ7_fill_53178_12 rfl (lv_at hl9 3 rfl) ?_
  refine hp_iast B0 hw hS h11 (by unfold vp_in; decide) dJ7_fill_53178_13 (fun H locs f12 ef12 hw hS => ?_)
  have e13 : f12 = va_up f na (some (.inl (cI G, 6, .inl (upd (upd (upd (upd (upd gx (0 : Int32).toNatClampNeg x) (1 : Int32).toNatClampNeg x) (2 : Int32).toNatClampNeg x) (3 : Int32).toNatClampNeg x) (4 : Int32).toNatClampNeg x)))) := by rw [ef12, e10, bx_uu]
  have h14 : f12 na = some (.inl (cI G, 6, .inl (upd (upd (upd (upd (upd gx (0 : Int32).toNatClampNeg x) (1 : Int32).toNatClampNeg x) (2 : Int32).toNatClampNeg x) (3 : Int32).toNatClampNeg x) (4 : Int32).toNatClampNeg x))) := by rw [ef12, va_up_self]
  refine lv_iinc (v := 5) (lv' := [(2, .int 5), (3, .int 6), (0, .ref na), (1, .int x)]) hx hb dJ7_fill_53178_14 hl9 (k := 0) rfl (by decide) (by decide) rfl (fun ls hl9 => ?_)
  refine lv_goto (tgt := 5) hx hb dJ7_fill_53178_17 (by decide) ?_
  refine lv_iload_n hx hb dJ7_fill_53178_5 rfl (lv_at hl9 0 rfl) ?_
  refine lv_iload_n hx hb dJ7_fill_53178_6 rfl (lv_at hl9 1 rfl) ?_
  refine lv_icmp_ge (tgt := 20) hx hb dJ7_fill_53178_7 (by decide) (fun c9 => absurd c9 (by decide)) (fun _ => ?_)
  refine lv_aload_n hx hb dJ7_fill_53178_10 rfl (lv_at hl9 2 rfl) ?_
  refine lv_iload_n hx hb dJ7_fill_53178_11 rfl (lv_at hl9 0 rfl) ?_
  refine lv_iload_n hx hb dJ7_fill_53178_12 rfl (lv_at hl9 3 rfl) ?_
  refine hp_iast B0 hw hS h14 (by unfold vp_in; decide) dJ7_fill_53178_13 (fun H locs f15 ef15 hw hS => ?_)
  have e16 : f15 = va_up f na (some (.inl (cI G, 6, .inl (upd (upd (upd (upd (upd (upd gx (0 : Int32).toNatClampNeg x) (1 : Int32).toNatClampNeg x) (2 : Int32).toNatClampNeg x) (3 : Int32).toNatClampNeg x) (4 : Int32).toNatClampNeg x) (5 : Int32).toNatClampNeg x)))) := by rw [ef15, e13, bx_uu]
  have h17 : f15 na = some (.inl (cI G, 6, .inl (upd (upd (upd (upd (upd (upd gx (0 : Int32).toNatClampNeg x) (1 : Int32).toNatClampNeg x) (2 : Int32).toNatClampNeg x) (3 : Int32).toNatClampNeg x) (4 : Int32).toNatClampNeg x) (5 : Int32).toNatClampNeg x))) := by rw [ef15, va_up_self]
  refine lv_iinc (v := 6) (lv' := [(2, .int 6), (3, .int 6), (0, .ref na), (1, .int x)]) hx hb dJ7_fill_53178_14 hl9 (k := 0) rfl (by decide) (by decide) rfl (fun ls hl9 => ?_)
  refine lv_goto (tgt := 5) hx hb dJ7_fill_53178_17 (by decide) ?_
  refine lv_iload_n hx hb dJ7_fill_53178_5 rfl (lv_at hl9 0 rfl) ?_
  refine lv_iload_n hx hb dJ7_fill_53178_6 rfl (lv_at hl9 1 rfl) ?_
  refine lv_icmp_ge (tgt := 20) hx hb dJ7_fill_53178_7 (by decide) (fun _ => ?_) (fun c9 => absurd (by decide) c9)
  exact hp_vret B0 hw hS hr ⟨Nat.le_of_ble_eq_true rfl, Nat.le_of_ble_eq_true rfl⟩ dJ7_fill_53178_20 (⟨rfl, by have h9 := e16; rw [fill6] at h9; exact h9⟩)

section HFOR
variable {p : Program} {l : Launch} {e : Env} {R : Room} {s : State} {m : MethodId} {args : Array Value} {below : List Frame} {meth : Method} {c : Code} {cells slots : Nat} {Q : State → Prop}
variable {nL pc : Nat} {G : hG}
/-- a counted loop: its head with what holds there, for each count -/
theorem hp_for (I : Nat → hM → List (Nat × Value) → Prop) (T : Nat)
    (step : ∀ (j : Nat) (f : hM) (lv : List (Nat × Value)) (H : Heap) (locs : List Loc) (ls : Array Slot), j < T → I j f lv → hW G f H → va_S (hFr G) s.heap H locs → lv_has ls nL lv →
      (∀ (f : hM) (lv : List (Nat × Value)) (H : Heap) (locs : List Loc) (ls : Array Slot), I (j + 1) f lv → hW G f H → va_S (hFr G) s.heap H locs → lv_has ls nL lv → W p l e R s m args below meth c H locs cells slots Q (F0 m pc ls [])) → W p l e R s m args below meth c H locs cells slots Q (F0 m pc ls []))
    (exit : ∀ (f : hM) (lv : List (Nat × Value)) (H : Heap) (locs : List Loc) (ls : Array Slot), I T f lv → hW G f H → va_S (hFr G) s.heap H locs → lv_has ls nL lv → W p l e R s m args below meth c H locs cells slots Q (F0 m pc ls [])) :
    ∀ (n j : Nat), j + n = T → ∀ (f : hM) (lv : List (Nat × Value)) (H : Heap) (locs : List Loc) (ls : Array Slot), I j f lv → hW G f H → va_S (hFr G) s.heap H locs → lv_has ls nL lv → W p l e R s m args below meth c H locs cells slots Q (F0 m pc ls []) := by
  intro n
  induction n with
  | zero =>
    intro j hj f lv H locs ls hI hw hS hl
    have e9 : j = T := by omega
    subst e9
    exact exit f lv H locs ls hI hw hS hl
  | succ n ih =>
    intro j hj f lv H locs ls hI hw hS hl
    exact step j f lv H locs ls (by omega) hI hw hS hl (fun f2 lv2 H2 locs2 ls2 h1 h2 h3 h4 => ih (j + 1) (by omega) f2 lv2 H2 locs2 ls2 h1 h2 h3 h4)
end HFOR
theorem cn_lt {x : Int32} {n : Nat} (h : vp_in x n) : x.toNatClampNeg < n := Nat.not_le.mp (fun q => h (Or.inr q))
theorem vin3 {o : Int32} (h : sL o) : vp_in o 3 := vp_in_iff.mpr ⟨h.1, h.2⟩
theorem F3_ge : ∀ j, j < 3 → (0 : Int32) ≤ (upd (upd (upd (fun _ => 0) (0 : Int32).toNatClampNeg 0) (1 : Int32).toNatClampNeg 1) (2 : Int32).toNatClampNeg 2) j := by decide
theorem hp_cs {p : Program} {l : Launch} {e : Env} {R : Room} {s : State} {m : MethodId} {args : Array Value} {below : List Frame} {meth : Method} {c : Code} {H : Heap} {locs : List Loc} {cells slots c2 s2 : Nat} {Q : State → Prop} {F : JFrame} (h1 : cells = c2) (h2 : slots = s2) (k : W p l e R s m args below meth c H locs c2 s2 Q F) : W p l e R s m args below meth c H locs cells slots Q F := by
  subst h1 h2; exact k
/-! Frames and ends as values: what an end does, by the document's words; rows of frames in the heap. -/
/-- a frame: kind, id, the number of the magic number, values -/
abbrev Fr : Type := Int32 × Int32 × Int32 × (Nat → Int32)
/-- an end: state, last id, requests, timer, looped, missed, the number of the magic number, what it asks for, frames under way -/
abbrev ES : Type := Int32 × Int32 × Int32 × Int32 × Int32 × Int32 × Int32 × (Nat → Int32) × List Fr
def num (w : Int32) : Int32 := if w = 0 then 1 else if w = 1 then 2 else if w = 2 then (-2147483648) else if w = 3 then 2147483647 else 0
def mgF (r : Fr) : Int32 := if r.1 = 0 then num r.2.2.1 else 0
def N6 : Nat → Int32 := fun j => if j < 6 then (-1) else 0
abbrev unk (ga v : Nat → Int32) (j : Nat) : Prop := ¬ v j = -1 ∧ ga j = 0
abbrev rfs (ga v : Nat → Int32) (j : Nat) : Prop := ¬ v j = -1 ∧ ¬ ((ga j >>> (v j &&& 31)) &&& 1) = 1
def kFn (ga v : Nat → Int32) : Nat → Nat → Int32 → Int32
  | 0, _, kd => kd
  | n + 1, j, kd => if unk ga v j then 3 else kFn ga v n (j + 1) (if rfs ga v j then 2 else kd)
def kindF (ga v : Nat → Int32) : Int32 := kFn ga v 6 0 1
def lowN (g : Int32) : Nat → Nat → Int32
  | 0, _ => -1
  | n + 1, j => if ((g >>> (nI j &&& 31)) &&& 1) = 1 then nI j else lowN g n (j + 1)
def lowF (g : Int32) : Int32 := lowN g 10 0
def tlF (ga v : Nat → Int32) (kd : Int32) (j : Nat) : Int32 := if kd = 2 ∧ rfs ga v j then lowF (ga j) else if kd = 3 ∧ unk ga v j then v j else -1
def toldN (ga v : Nat → Int32) (kd : Int32) (n : Nat) : Nat → Int32 := fun i => if i < n then tlF ga v kd i else N6 i
def toldF (ga v : Nat → Int32) (kd : Int32) : Nat → Int32 := toldN ga v kd 6
def chgN (gq v : Nat → Int32) (kd : Int32) (n : Nat) : Nat → Int32 := fun i => if i < n ∧ ¬ v i = -1 then (if kd = 2 then v i else -1) else gq i
def chgF (gq v : Nat → Int32) (kd : Int32) : Nat → Int32 := chgN gq v kd 6
def cpyF (gw gq : Nat → Int32) : Nat → Int32 := fun j => if j < 6 then gw j else gq j
/-- asks: the end behind it -/
def begS (S : ES) : ES := if S.2.2.1 < (10 : Int32) then (S.1, S.2.1 + 1, S.2.2.1 + 1, 3, S.2.2.2.2.1, S.2.2.2.2.2.1, S.2.2.2.2.2.2.1, S.2.2.2.2.2.2.2.1, S.2.2.2.2.2.2.2.2 ++ [(0, S.2.1 + 1, S.2.2.2.2.2.2.1, S.2.2.2.2.2.2.2.1)]) else (0, S.2)
def begV (S : ES) : Int32 := if S.2.2.1 < (10 : Int32) then 1 else 0
/-- one frame more -/
def addS (S : ES) (r : Fr) : ES := (S.1, S.2.1, S.2.2.1, S.2.2.2.1, S.2.2.2.2.1, S.2.2.2.2.2.1, S.2.2.2.2.2.2.1, S.2.2.2.2.2.2.2.1, S.2.2.2.2.2.2.2.2 ++ [r])
def stopS (S : ES) : ES := addS S (4, 0, S.2.2.2.2.2.2.1, N6)
/-- the state behind an answer of the kind kd -/
def ansT (st kd : Int32) : Int32 := if kd = 1 then (if st = 1 then 3 else if st = 2 then 4 else st) else (if st = 3 then 1 else st)
def ansS (ga : Nat → Int32) (r : Fr) (S : ES) : ES :=
  addS (ansT S.1 (kindF ga r.2.2.2), S.2) (kindF ga r.2.2.2, r.2.1, S.2.2.2.2.2.2.1, toldF ga r.2.2.2 (kindF ga r.2.2.2))
def lpS (S : ES) (lp : Int32) : ES := (S.1, S.2.1, S.2.2.1, S.2.2.2.1, lp, S.2.2.2.2.2)
def gqS (S : ES) (gq : Nat → Int32) : ES := (S.1, S.2.1, S.2.2.1, S.2.2.2.1, S.2.2.2.2.1, S.2.2.2.2.2.1, S.2.2.2.2.2.2.1, gq, S.2.2.2.2.2.2.2.2)
def tmS (S : ES) (tm : Int32) : ES := (S.1, S.2.1, S.2.2.1, tm, S.2.2.2.2)
def hearQ (ga : Nat → Int32) (r : Fr) (S : ES) : ES :=
  if num r.2.2.1 = num S.2.2.2.2.2.2.1 then lpS S 1
  else if S.1 = 0 then stopS (lpS S 0)
  else if S.1 = 4 then (if S.2.2.1 < (10 : Int32) then ansS ga r (1, (begS (lpS S 0)).2) else (0, (lpS S 0).2))
  else ansS ga r (lpS S 0)
def hearA (r : Fr) (S : ES) : ES :=
  if (S.1 = 1 ∨ S.1 = 3) ∧ r.2.1 = S.2.1 then (if r.1 = 1 then ((if S.1 = 1 then 2 else 4), S.2) else begS (gqS S (chgF S.2.2.2.2.2.2.2.1 r.2.2.2 r.1))) else S
def hearF (ga : Nat → Int32) (r : Fr) (S : ES) : ES := if r.1 = 0 then hearQ ga r S else if r.1 = 4 then (0, S.2) else hearA r S
def tickS (S : ES) : ES := if S.1 = 0 ∨ S.1 = 4 then S else if S.2.2.2.1 - 1 ≤ (0 : Int32) then begS ((if S.1 = 2 then 1 else S.1), (tmS S (S.2.2.2.1 - 1)).2) else tmS S (S.2.2.2.1 - 1)
def tickV (S : ES) : Int32 := if S.1 = 0 ∨ S.1 = 4 then 0 else if S.2.2.2.1 - 1 ≤ (0 : Int32) then begV S else 0
def openS (gw : Nat → Int32) (S : ES) : ES := begS (1, S.2.1, 0, S.2.2.2.1, S.2.2.2.2.1, S.2.2.2.2.2.1, S.2.2.2.2.2.2.1, cpyF gw S.2.2.2.2.2.2.2.1, S.2.2.2.2.2.2.2.2)
def closeS (S : ES) : ES := (0, (stopS S).2)
/-- the first frame is taken -/
def takeS (S : ES) : ES := (S.1, S.2.1, S.2.2.1, S.2.2.2.1, S.2.2.2.2.1, S.2.2.2.2.2.1, S.2.2.2.2.2.2.1, S.2.2.2.2.2.2.2.1, S.2.2.2.2.2.2.2.2.tail)
def missS (S : ES) : ES := (S.1, S.2.1, S.2.2.1, S.2.2.2.1, S.2.2.2.2.1, S.2.2.2.2.2.1 + 1, S.2.2.2.2.2.2)
theorem tlT {L : List Fr} {m : Nat} (h : L.length < m) : L.tail.length < m := by rw [List.length_tail]; omega
theorem nb0 : narrow .boolean (.int 0) = .int 0 := by decide
theorem nb1 : narrow .boolean (.int 1) = .int 1 := by decide
/-! rows of frames in the heap: Q has each frame's cell and its values' -/
abbrev ws (Q : List (Nat × Nat)) : List Nat := Q.map Prod.fst
def lastV (Q : List (Nat × Nat)) : Value := match Q.getLast? with
  | none => .null
  | some c => .ref c.1
theorem lastV_snoc (Q : List (Nat × Nat)) (c : Nat × Nat) : lastV (Q ++ [c]) = .ref c.1 := by simp [lastV]
theorem lastV_cons (c d : Nat × Nat) (Q : List (Nat × Nat)) : lastV (c :: d :: Q) = lastV (d :: Q) := by simp [lastV, List.getLast?_cons_cons]
theorem snoc_of {α : Type} (Q : List α) : Q = [] ∨ ∃ Q1 c, Q = Q1 ++ [c] := by
  induction Q with
  | nil => exact Or.inl rfl
  | cons a Q ih =>
    rcases ih with h | ⟨Q1, c, h⟩
    · exact Or.inr ⟨[], a, by rw [h]; rfl⟩
    · exact Or.inr ⟨a :: Q1, c, by rw [h]; rfl⟩
def CH (G : hG) (f : hM) : List (Nat × Nat) → List Fr → Value → Prop
  | [], L, v => L = [] ∧ v = .null
  | c :: Q, L, v => ∃ (r : Fr) (L1 : List Fr) (nx : Value), L = r :: L1 ∧ v = .ref c.1 ∧ f c.1 = some (.inr (2, [.int r.1, .int r.2.1, .int (mgF r), .ref c.2, nx])) ∧ f c.2 = some (.inl (cI G, 6, .inl r.2.2.2)) ∧ CH G f Q L1 nx
theorem CH.mem {G : hG} {f : hM} : ∀ {Q : List (Nat × Nat)} {L : List Fr} {v : Value}, CH G f Q L v → ∀ c ∈ Q, ∃ (r : Fr) (nx : Value), f c.1 = some (.inr (2, [.int r.1, .int r.2.1, .int (mgF r), .ref c.2, nx])) ∧ f c.2 = some (.inl (cI G, 6, .inl r.2.2.2)) := by
  intro Q
  induction Q with
  | nil => intro L v h c hc; exact nomatch hc
  | cons d Q ih =>
    intro L v h c hc
    obtain ⟨r, L1, nx, -, -, h1, h2, h3⟩ := h
    rcases List.mem_cons.mp hc with e | e
    · rw [e]; exact ⟨r, nx, h1, h2⟩
    · exact ih h3 c e
theorem CH.len {G : hG} {f : hM} : ∀ {Q : List (Nat × Nat)} {L : List Fr} {v : Value}, CH G f Q L v → Q.length = L.length := by
  intro Q
  induction Q with
  | nil => intro L v h; rw [h.1]; rfl
  | cons d Q ih =>
    intro L v h
    obtain ⟨r, L1, nx, e, -, h1, h2, h3⟩ := h
    rw [e, List.length_cons, List.length_cons, ih h3]
theorem CH.fresh {G : hG} {f : hM} {Q : List (Nat × Nat)} {L : List Fr} {v : Value} (h : CH G f Q L v) {w : Nat} (hw : f w = none) : w ∉ ws Q := fun hm => by
  obtain ⟨c, hc, e⟩ := List.mem_map.mp hm
  obtain ⟨r, nx, h1, -⟩ := h.mem c hc
  rw [e, hw] at h1
  cases h1
/-- a cell that is no frame -/
theorem CH.nf {G : hG} {f : hM} {Q : List (Nat × Nat)} {L : List Fr} {v : Value} (h : CH G f Q L v) {w : Nat} {e : va_E} (hw : f w = some e) (ht : hTag e ≠ 3) : w ∉ ws Q := fun hm => by
  obtain ⟨c, hc, e9⟩ := List.mem_map.mp hm
  obtain ⟨r, nx, h1, -⟩ := h.mem c hc
  rw [e9, hw] at h1
  cases h1
  exact ht rfl
/-- the row's last frame, and what may stand behind it -/
theorem CH.split {G : hG} {f : hM} : ∀ {Q : List (Nat × Nat)} {c : Nat × Nat} {L : List Fr} {v : Value}, CH G f (Q ++ [c]) L v → ∃ (L1 : List Fr) (r : Fr), L = L1 ++ [r] ∧ f c.1 = some (.inr (2, [.int r.1, .int r.2.1, .int (mgF r), .ref c.2, .null])) ∧ f c.2 = some (.inl (cI G, 6, .inl r.2.2.2)) ∧
    ∀ f1 : hM, (∀ x ∈ Q, f1 x.1 = f x.1 ∧ f1 x.2 = f x.2) → ∀ (Q2 : List (Nat × Nat)) (L2 : List Fr), CH G f1 (c :: Q2) (r :: L2) (.ref c.1) → CH G f1 (Q ++ c :: Q2) (L1 ++ r :: L2) v := by
  intro Q
  induction Q with
  | nil =>
    intro c L v h
    obtain ⟨r, L1, nx, e, ev, h1, h2, h3, h4⟩ := h
    rw [h4] at h1
    refine ⟨[], r, by rw [e, h3]; rfl, h1, h2, fun f1 _ Q2 L2 h => by rw [ev]; exact h⟩
  | cons d Q ih =>
    intro c L v h
    obtain ⟨r, L1, nx, e, ev, h1, h2, h3⟩ := h
    obtain ⟨L3, r3, e3, g1, g2, g3⟩ := ih h3
    refine ⟨r :: L3, r3, by rw [e, e3]; rfl, g1, g2, fun f1 he Q2 L2 h => ?_⟩
    obtain ⟨hd1, hd2⟩ := he d List.mem_cons_self
    exact ⟨r, L3 ++ r3 :: L2, nx, rfl, ev, by rw [hd1]; exact h1, by rw [hd2]; exact h2, g3 f1 (fun x hx => he x (List.mem_cons_of_mem _ hx)) Q2 L2 h⟩
/-- nothing goes; a cell stays but it is in S, a frame but it is in Q -/
def hK2 (S : List Nat) (Q : List (Nat × Nat)) (f f1 : hM) : Prop := (∀ a, f1 a = none → f a = none) ∧ ∀ a e, f a = some e → a ∉ S → (hTag e = 3 → a ∉ ws Q) → f1 a = some e
theorem hK2.rf {S : List Nat} {Q : List (Nat × Nat)} {f : hM} : hK2 S Q f f := ⟨fun _ h => h, fun _ _ h _ _ => h⟩
theorem hK2.tr {S : List Nat} {Q : List (Nat × Nat)} {f f1 f2 : hM} (h : hK2 S Q f f1) (h2 : hK2 S Q f1 f2) : hK2 S Q f f2 := ⟨fun a q => h.1 a (h2.1 a q), fun a e q n t => h2.2 a e (h.2 a e q n t) n t⟩
theorem hK2.mono {S T : List Nat} {Q : List (Nat × Nat)} {f f1 : hM} (h : hK2 S Q f f1) (hs : ∀ a, a ∈ S → a ∈ T) : hK2 T Q f f1 := ⟨h.1, fun a e q n t => h.2 a e q (fun z => n (hs a z)) t⟩
theorem hK2.monoQ {S : List Nat} {Q Q2 : List (Nat × Nat)} {f f1 : hM} (h : hK2 S Q f f1) (hs : ∀ a, a ∈ ws Q → a ∈ ws Q2) : hK2 S Q2 f f1 := ⟨h.1, fun a e q n t => h.2 a e q n (fun z y => t z (hs a y))⟩
theorem hK2.q0 {S : List Nat} {Q : List (Nat × Nat)} {f f1 : hM} (h : hK2 S [] f f1) : hK2 S Q f f1 := h.monoQ (fun _ z => nomatch z)
theorem hK2.up {S : List Nat} {Q : List (Nat × Nat)} {f : hM} {a : Nat} {e : va_E} (h : a ∈ S) : hK2 S Q f (va_up f a (some e)) := by
  refine ⟨fun b q => ?_, fun b x q n _ => by rw [va_up_ne _ _ (fun z => n (by rw [z]; exact h))]; exact q⟩
  by_cases z : b = a
  · rw [z, va_up_self] at q; cases q
  · rwa [va_up_ne _ _ z] at q
theorem hK2.fr {S : List Nat} {Q : List (Nat × Nat)} {f : hM} {a : Nat} {k0 : List Value} {e : va_E} (ha : f a = some (.inr (2, k0))) (h : a ∈ ws Q) : hK2 S Q f (va_up f a (some e)) := by
  refine ⟨fun b q => ?_, fun b x q n t => ?_⟩
  · by_cases z : b = a
    · rw [z, va_up_self] at q; cases q
    · rwa [va_up_ne _ _ z] at q
  · rw [va_up_ne _ _ (fun z => by rw [z, ha] at q; cases q; exact t rfl (by rw [z]; exact h))]; exact q
theorem hK2.new {S : List Nat} {Q : List (Nat × Nat)} {f : hM} {q : Nat} {e : va_E} (hq : f q = none) : hK2 S Q f (va_up f q (some e)) := by
  refine ⟨fun b z => ?_, fun b x h _ _ => by rw [va_up_ne _ _ (fun z => by rw [z, hq] at h; cases h)]; exact h⟩
  by_cases y : b = q
  · rw [y]; exact hq
  · rwa [va_up_ne _ _ y] at z
theorem hK2.trn {S : List Nat} {Q : List (Nat × Nat)} {f f2 : hM} {q : Nat} (hq : f q = none) (h2 : hK2 (q :: S) Q f f2) : hK2 S Q f f2 := ⟨h2.1, fun a e h n t => h2.2 a e h (ninc (fun z => by rw [z, hq] at h; cases h) n) t⟩
theorem hK2.trq {S : List Nat} {Q N : List (Nat × Nat)} {f f1 f2 : hM} (h : hK2 S Q f f1) (h2 : hK2 S (Q ++ N) f1 f2) (hn : ∀ c ∈ N, f c.1 = none ∨ c.1 ∈ S) : hK2 S Q f f2 :=
  ⟨fun a q => h.1 a (h2.1 a q), fun a e q n t => h2.2 a e (h.2 a e q n t) n (fun z y => by
    rw [ws, List.map_append] at y
    rcases List.mem_append.mp y with y | y
    · exact t z y
    · obtain ⟨c, hc, e9⟩ := List.mem_map.mp y
      rcases hn c hc with this | this
      · rw [e9, q] at this
        cases this
      · rw [e9] at this; exact n this)⟩
theorem hK2.of {S : List Nat} {Q : List (Nat × Nat)} {f f1 : hM} (h : hEq S f f1) (hs : ∀ a, a ∈ S → ∃ e, f1 a = some e) : hK2 S Q f f1 := by
  refine ⟨fun a q => ?_, fun a e q n _ => (h a n).trans q⟩
  by_cases z : a ∈ S
  · obtain ⟨e, h9⟩ := hs a z
    rw [h9] at q; cases q
  · rw [← h a z]; exact q
theorem CH.kp {G : hG} {f f1 : hM} {S : List Nat} {Q2 : List (Nat × Nat)} (hk : hK2 S Q2 f f1) : ∀ {Q : List (Nat × Nat)} {L : List Fr} {v : Value}, CH G f Q L v → (∀ c ∈ Q, c.1 ∉ ws Q2 ∧ c.2 ∉ S) → (∀ a ∈ S, ∀ k, f a ≠ some (.inr (2, k))) → CH G f1 Q L v := by
  intro Q
  induction Q with
  | nil => intro L v h _ _; exact h
  | cons d Q ih =>
    intro L v h hq hs
    obtain ⟨r, L1, nx, e, ev, h1, h2, h3⟩ := h
    obtain ⟨q1, q2⟩ := hq d List.mem_cons_self
    exact ⟨r, L1, nx, e, ev, hk.2 _ _ h1 (fun z => hs _ z _ h1) (fun _ => q1), hk.2 _ _ h2 q2 (fun t => absurd t (Nat.ne_of_beq_eq_false rfl)), ih h3 (fun c hc => hq c (List.mem_cons_of_mem _ hc)) hs⟩
theorem nws {Q : List (Nat × Nat)} {N : List (Nat × Nat)} {a : Nat} (h : a ∉ ws Q) (h2 : a ∉ ws N) : a ∉ ws (Q ++ N) := fun z => by
  rw [ws, List.map_append] at z
  rcases List.mem_append.mp z with z | z
  · exact h z
  · exact h2 z
theorem nws1 {a w u : Nat} (h : a ≠ w) : a ∉ ws [(w, u)] := fun z => h (List.mem_singleton.mp z)
theorem nwsN {f : hM} {N : List (Nat × Nat)} {a : Nat} {e : va_E} (ha : f a = some e) (hn : ∀ c ∈ N, f c.1 = none ∧ f c.2 = none) : a ∉ ws N := fun z => by
  obtain ⟨c, hc, e9⟩ := List.mem_map.mp z
  have := (hn c hc).1
  rw [e9, ha] at this
  cases this
theorem nd_snoc {Q : List (Nat × Nat)} {w u : Nat} (h : (ws Q).Nodup) (hw : w ∉ ws Q) : (ws (Q ++ [(w, u)])).Nodup := by
  rw [ws, List.map_append]
  exact List.nodup_append.mpr ⟨h, by simp, fun a ha b hb => by
    rw [List.mem_singleton.mp hb]
    exact fun z => hw (by
      have z : a = w := z
      rw [← z]; exact ha)⟩
/-- a row of frames -/
def RX (G : hG) (f : hM) (nr : Nat) (Q : List (Nat × Nat)) (L : List Fr) : Prop := ∃ hd : Value, f nr = some (.inr (3, [hd, lastV Q, .int (nI Q.length)])) ∧ CH G f Q L hd
/-- an end of the class: S is its state, Q its frames' cells -/
def EX (G : hG) (f : hM) (en nw na nq nr : Nat) (S : ES) (Q : List (Nat × Nat)) : Prop :=
  f en = some (.inr (1, [.ref nw, .ref na, .ref nq, .ref nr, .int (num S.2.2.2.2.2.2.1), .int S.1, .int S.2.2.2.1, .int S.2.2.1, .int S.2.1, .int S.2.2.2.2.1, .int S.2.2.2.2.2.1])) ∧ f nq = some (.inl (cI G, 6, .inl S.2.2.2.2.2.2.2.1)) ∧
  (∃ hd : Value, f nr = some (.inr (3, [hd, lastV Q, .int (nI Q.length)])) ∧ CH G f Q S.2.2.2.2.2.2.2.2 hd) ∧ (ws Q).Nodup ∧ (∀ c ∈ Q, c.2 ≠ nq) ∧ narrow .boolean (.int S.2.2.2.2.1) = .int S.2.2.2.2.1
theorem EX.cu {G : hG} {f : hM} {en nw na nq nr : Nat} {S : ES} {Q : List (Nat × Nat)} (h : EX G f en nw na nq nr S Q) : ∀ c ∈ Q, c.1 ∉ ws [] ∧ c.2 ∉ [en, nq, nr] := by
  obtain ⟨h1, h2, ⟨hd, h3, h4⟩, h5, h6, h7⟩ := h
  intro c hc
  obtain ⟨r, nx, g1, g2⟩ := h4.mem c hc
  exact ⟨(fun z => nomatch z), ninc (hne g2 h1 (Nat.ne_of_beq_eq_false rfl)) (ninc (h6 c hc) (ninc (hne g2 h3 (Nat.ne_of_beq_eq_false rfl)) nin0))⟩
theorem EX.sf {G : hG} {f : hM} {en nw na nq nr : Nat} {S : ES} {Q : List (Nat × Nat)} (h : EX G f en nw na nq nr S Q) : ∀ a ∈ [en, nq, nr], ∀ k, f a ≠ some (.inr (2, k)) := by
  obtain ⟨h1, h2, ⟨hd, h3, h4⟩, h5, h6, h7⟩ := h
  intro a ha k hk
  simp only [List.mem_cons, List.not_mem_nil, or_false] at ha
  rcases ha with e | e | e
  · rw [e, h1] at hk; cases hk
  · rw [e, h2] at hk; cases hk
  · rw [e, h3] at hk; cases hk
/-- the end behind a method: frames more, nothing else touched but its own -/
def XP (G : hG) (f f1 : hM) (en nw na nq nr : Nat) (Q : List (Nat × Nat)) (S1 : ES) : Prop := ∃ N : List (Nat × Nat), (∀ c ∈ N, f c.1 = none ∧ f c.2 = none) ∧ EX G f1 en nw na nq nr S1 (Q ++ N) ∧ hK2 [en, nq, nr] Q f f1
theorem XP.tr {G : hG} {f f1 f2 : hM} {en nw na nq nr : Nat} {Q N : List (Nat × Nat)} {S2 : ES} (hn : ∀ c ∈ N, f c.1 = none ∧ f c.2 = none) (hk : hK2 [en, nq, nr] Q f f1) (h2 : XP G f1 f2 en nw na nq nr (Q ++ N) S2) : XP G f f2 en nw na nq nr Q S2 := by
  obtain ⟨N2, m1, m2, m3⟩ := h2
  refine ⟨N ++ N2, fun c hc => ?_, by rw [← List.append_assoc]; exact m2, hk.trq m3 (fun c hc => Or.inl (hn c hc).1)⟩
  rcases List.mem_append.mp hc with hc | hc
  · exact hn c hc
  · exact ⟨hk.1 _ (m1 c hc).1, hk.1 _ (m1 c hc).2⟩
theorem XP.zero {G : hG} {f f1 : hM} {en nw na nq nr : Nat} {Q : List (Nat × Nat)} {S1 : ES} (h : EX G f1 en nw na nq nr S1 Q) (hk : hK2 [en, nq, nr] Q f f1) : XP G f f1 en nw na nq nr Q S1 := ⟨[], (fun c hc => nomatch hc), by rw [List.append_nil]; exact h, hk⟩
theorem nuN {f : hM} {N Q : List (Nat × Nat)} {b : Nat} {e : va_E} (h : ∀ c ∈ Q, c.2 ≠ b) (hb : f b = some e) (hn : ∀ c ∈ N, f c.1 = none ∧ f c.2 = none) : ∀ c ∈ Q ++ N, c.2 ≠ b := fun c hc => by
  rcases List.mem_append.mp hc with hc | hc
  · exact h c hc
  · exact fun z => by have := (hn c hc).2; rw [z, hb] at this; cases this

set_option maxHeartbeats 4000000 in
set_option maxRecDepth 100000 in
theorem c_X1_tellX {l : Launch} (hl : l.stackTraces = false) (G : hG) (f : hM)  : CT l yX1_tellNothing (.code yX1_tellNothing cX1_tellNothing 1 (some (.array .int))) 1 23 1 6 G [] f (fun v f1 => ∃ q : Nat, v = some (.ref q) ∧ f q = none ∧ f1 = va_up f q (some (.inl (cI G, 6, .inl N6)))) (fun E f1 => False) := by
  refine hp_start hl (own := RX1) (by decide) rfl (Nat.le_of_ble_eq_true rfl) ?_
  intro p e s m args below meth c B0 hr hnm hout hw hS ls hl9
  have hx := B0.1
  have hb := B0.2.1
  have hl9 : lv_has ls 1 [] := hl9
  refine lv_bipush (v := 6) hx hb dX1_tellNothing_0 (by decide) ?_
  refine hp_newaI (N' := 6) B0 hw hS qA_int (by decide) (by decide) (Nat.le_of_ble_eq_true rfl) (Nat.le_of_ble_eq_true rfl) (Nat.le_of_ble_eq_true rfl) dX1_tellNothing_2 (fun q1 H f3 w2 ef3 hw hS => ?_)
  have h4 : f3 q1 = some (.inl (cI G, 6, .inl (fun _ => 0))) := by rw [ef3, va_up_self]
  refine lv_astore_n (lv' := [(0, .ref q1)]) hx hb dX1_tellNothing_4 rfl hl9 (by decide) rfl (fun ls hl9 => ?_)
  refine lv_aload_n hx hb dX1_tellNothing_5 rfl (lv_at hl9 0 rfl) ?_
  refine lv_iconst (v := (-1)) hx hb dX1_tellNothing_6 (by decide) ?_
  refine hp_S (As := [.ref q1, .int (-1)]) (rest := []) B0 hw hS (c_J7_fillE hl G f3 q1 (fun _ => 0) h4 (-1)) mS_J7_fill_53178 qM_X1_51 rfl rfl hl9.1 (Nat.le_of_ble_eq_true rfl) ⟨⟨Nat.le_of_ble_eq_true rfl, Nat.le_of_ble_eq_true rfl⟩, Nat.le_of_ble_eq_true rfl, Nat.le_of_ble_eq_true rfl⟩ dX1_tellNothing_7 (fun E ce q9 f5 H locs hPX hw hS hce hcv hcl => ?_) (fun v f5 H locs hP hw hS => ?_)
  · exact hPX.elim
  · obtain ⟨ev9, e6⟩ := hP
    subst ev9
    have e7 : f5 = va_up f q1 (some (.inl (cI G, 6, .inl (fun j => if j < 6 then (-1) else (fun _ => 0) j)))) := by rw [e6, ef3, bx_uu]
    have h8 : f5 q1 = some (.inl (cI G, 6, .inl (fun j => if j < 6 then (-1) else (fun _ => 0) j))) := by rw [e6, va_up_self]
    refine W.eq (g2 := F0 m 10 ls []) rfl ?_
    refine lv_aload_n hx hb dX1_tellNothing_10 rfl (lv_at hl9 0 rfl) ?_
    exact hp_aret (v := .ref q1) B0 hw hS hr (Or.inr ⟨_, rfl⟩) (Or.inr ⟨_, rfl⟩) ⟨Nat.le_of_ble_eq_true rfl, Nat.le_of_ble_eq_true rfl⟩ dX1_tellNothing_11 (⟨q1, rfl, w2, e7⟩)

theorem nd_ne {Q1 : List (Nat × Nat)} {w u : Nat} (h : (ws (Q1 ++ [(w, u)])).Nodup) {x : Nat × Nat} (hx : x ∈ Q1) : x.1 ≠ w := by
  rw [ws, List.map_append] at h
  exact (List.nodup_append.mp h).2.2 x.1 (List.mem_map_of_mem hx) w (by simp)
theorem CH.kp1 {G : hG} {f f1 : hM} {nr : Nat} {k9 : List Value} (hk : hK2 [nr] [] f f1) (hr : f nr = some (.inr (3, k9))) {Q : List (Nat × Nat)} {L : List Fr} {v : Value} (h : CH G f Q L v) : CH G f1 Q L v := by
  refine CH.kp hk h (fun c hc => ?_) (fun a ha k hk9 => ?_)
  · obtain ⟨r, nx, g1, g2⟩ := h.mem c hc
    exact ⟨(fun z => nomatch z), ninc (hne g2 hr (Nat.ne_of_beq_eq_false rfl)) nin0⟩
  · rw [List.mem_singleton.mp ha, hr] at hk9; cases hk9
set_option maxHeartbeats 4000000 in
set_option maxRecDepth 100000 in
theorem c_X3_putX {l : Launch} (hl : l.stackTraces = false) (G : hG) (f : hM) (nr fr u : Nat) (r : Fr) (Q : List (Nat × Nat)) (L : List Fr) (hR : RX G f nr Q L) (k_fr : f fr = some (.inr (2, [.int r.1, .int r.2.1, .int (mgF r), .ref u, .null]))) (k_u : f u = some (.inl (cI G, 6, .inl r.2.2.2))) (hfr : fr ∉ ws Q) (hnd : (ws Q).Nodup) (hn : Q.length < 4096) : CT l yX3_put (.code yX3_put cX3_put 2 none) 0 0 0 0 G [.ref nr, .ref fr] f (fun v f1 => v = none ∧ RX G f1 nr (Q ++ [(fr, u)]) (L ++ [r]) ∧ hK2 [nr] Q f f1) (fun E f1 => False) := by
  refine hp_start hl (own := RX3) (by decide) rfl (Nat.le_of_ble_eq_true rfl) ?_
  intro p e s m args below meth c B0 hr hnm hout hw hS ls hl9
  have hx := B0.1
  have hb := B0.2.1
  have hl9 : lv_has ls 2 [(0, .ref nr), (1, .ref fr)] := hl9
  obtain ⟨hd, k_nr, hch⟩ := hR
  rcases snoc_of Q with eQ | ⟨Q1, c1, eQ⟩
  · subst eQ
    obtain ⟨eL, ehd⟩ := hch
    subst eL
    subst ehd
    have k_nr : f nr = some (.inr (3, [.null, .null, .int (nI 0)])) := k_nr
    refine lv_aload_n hx hb dX3_put_0 rfl (lv_at hl9 0 rfl) ?_
    refine hp_get B0 hw 3 rfl in_X3 k_nr 2 (by decide) qF_X3_9 rfl dX3_put_1 ?_
    refine lv_sipush (v := 4096) hx hb dX3_put_4 (by decide) ?_
    refine lv_icmp_lt (tgt := 11) hx hb dX3_put_7 (by decide) (fun _ => ?_) (fun c9 => absurd (by decide) c9)
    refine lv_aload_n hx hb dX3_put_11 rfl (lv_at hl9 0 rfl) ?_
    refine hp_get B0 hw 3 rfl in_X3 k_nr 1 (by decide) qF_X3_15 rfl dX3_put_12 ?_
    refine lv_ifnonnullN hx hb dX3_put_15 ?_
    refine lv_aload_n hx hb dX3_put_18 rfl (lv_at hl9 0 rfl) ?_
    refine lv_aload_n hx hb dX3_put_19 rfl (lv_at hl9 1 rfl) ?_
    refine hp_put (fs1 := [.ref fr, .null, .int (nI 0)]) (ty := .object "OptionLine$Frame") B0 hw hS 3 rfl in_X3 tyX3 tyX3_ok nmX3 k_nr 0 (by decide) qF_X3_19 rfl (by decide +kernel) rfl rfl (Nat.le_of_ble_eq_true rfl) rfl dX3_put_20 (fun H locs f1 ef1 hw hS => ?_)
    have h2 : f1 nr = some (.inr (3, [.ref fr, .null, .int (nI 0)])) := by rw [ef1, va_up_self]
    refine lv_goto (tgt := 34) hx hb dX3_put_23 (by decide) ?_
    refine lv_aload_n hx hb dX3_put_34 rfl (lv_at hl9 0 rfl) ?_
    refine lv_aload_n hx hb dX3_put_35 rfl (lv_at hl9 1 rfl) ?_
    refine hp_put (fs1 := [.ref fr, .ref fr, .int (nI 0)]) (ty := .object "OptionLine$Frame") B0 hw hS 3 rfl in_X3 tyX3 tyX3_ok nmX3 h2 1 (by decide) qF_X3_15 rfl (by decide +kernel) rfl rfl (Nat.le_of_ble_eq_true rfl) rfl dX3_put_36 (fun H locs f3 ef3 hw hS => ?_)
    have e4 : f3 = va_up f nr (some (.inr (3, [.ref fr, .ref fr, .int (nI 0)]))) := by rw [ef3, ef1, bx_uu]
    have h5 : f3 nr = some (.inr (3, [.ref fr, .ref fr, .int (nI 0)])) := by rw [ef3, va_up_self]
    refine lv_aload_n hx hb dX3_put_39 rfl (lv_at hl9 0 rfl) ?_
    refine lv_dup hx hb dX3_put_40 rfl ?_
    refine hp_get B0 hw 3 rfl in_X3 h5 2 (by decide) qF_X3_9 rfl dX3_put_41 ?_
    refine lv_iconst (v := 1) hx hb dX3_put_44 (by decide) ?_
    refine lv_iadd hx hb dX3_put_45 ?_
    refine hp_c (v := (nI (0 + 1))) (nI_1 _) ?_
    refine hp_put (fs1 := [.ref fr, .ref fr, .int (nI (0 + 1))]) (ty := .int) B0 hw hS 3 rfl in_X3 tyX3 tyX3_ok nmX3 h5 2 (by decide) qF_X3_9 rfl (by decide +kernel) rfl rfl (Nat.le_of_ble_eq_true rfl) rfl dX3_put_46 (fun H locs f6 ef6 hw hS => ?_)
    have e7 : f6 = va_up f nr (some (.inr (3, [.ref fr, .ref fr, .int (nI (0 + 1))]))) := by rw [ef6, e4, bx_uu]
    have h8 : f6 nr = some (.inr (3, [.ref fr, .ref fr, .int (nI (0 + 1))])) := by rw [ef6, va_up_self]
    have n11 : fr ≠ nr := hne k_fr k_nr (Nat.ne_of_beq_eq_false rfl)
    have h10 : f6 fr = some (.inr (2, [.int r.1, .int r.2.1, .int (mgF r), .ref u, .null])) := by rw [e7, va_up_ne _ _ n11]; exact k_fr
    have n13 : u ≠ nr := hne k_u k_nr (Nat.ne_of_beq_eq_false rfl)
    have h12 : f6 u = some (.inl (cI G, 6, .inl r.2.2.2)) := by rw [e7, va_up_ne _ _ n13]; exact k_u
    exact hp_vret B0 hw hS hr ⟨Nat.le_of_ble_eq_true rfl, Nat.le_of_ble_eq_true rfl⟩ dX3_put_49 (⟨rfl, ⟨_, h8, r, [], .null, rfl, rfl, h10, h12, rfl, rfl⟩, (show hK2 [nr] [] f f6 from (by rw [e7]; exact hK2.up List.mem_cons_self))⟩)
  · subst eQ
    obtain ⟨wl, ul⟩ := c1
    obtain ⟨L1, r1, eL, k_wl, k_ul, hsp⟩ := CH.split hch
    subst eL
    have k_wl : f wl = some (.inr (2, [.int r1.1, .int r1.2.1, .int (mgF r1), .ref ul, .null])) := k_wl
    have k_ul : f ul = some (.inl (cI G, 6, .inl r1.2.2.2)) := k_ul
    have k_nr : f nr = some (.inr (3, [hd, .ref wl, .int (nI (Q1 ++ [(wl, ul)]).length)])) := by rw [lastV_snoc] at k_nr; exact k_nr
    have hfw : fr ≠ wl := fun z => hfr (by rw [z]; simp [ws])
    refine lv_aload_n hx hb dX3_put_0 rfl (lv_at hl9 0 rfl) ?_
    refine hp_get B0 hw 3 rfl in_X3 k_nr 2 (by decide) qF_X3_9 rfl dX3_put_1 ?_
    refine lv_sipush (v := 4096) hx hb dX3_put_4 (by decide) ?_
    refine lv_icmp_lt (tgt := 11) hx hb dX3_put_7 (by decide) (fun _ => ?_) (fun c9 => absurd (show nI _ < nI 4096 from nI_lt hn (by decide)) c9)
    refine lv_aload_n hx hb dX3_put_11 rfl (lv_at hl9 0 rfl) ?_
    refine hp_get B0 hw 3 rfl in_X3 k_nr 1 (by decide) qF_X3_15 rfl dX3_put_12 ?_
    refine lv_ifnonnull (tgt := 26) hx hb dX3_put_15 (by decide) ?_
    refine lv_aload_n hx hb dX3_put_26 rfl (lv_at hl9 0 rfl) ?_
    refine hp_get B0 hw 3 rfl in_X3 k_nr 1 (by decide) qF_X3_15 rfl dX3_put_27 ?_
    refine lv_aload_n hx hb dX3_put_30 rfl (lv_at hl9 1 rfl) ?_
    refine hp_put (fs1 := [.int r1.1, .int r1.2.1, .int (mgF r1), .ref ul, .ref fr]) (ty := .object "OptionLine$Frame") B0 hw hS 2 rfl in_X2 tyX2 tyX2_ok nmX2 k_wl 4 (by decide) qF_X3_22 rfl (by decide +kernel) rfl rfl (Nat.le_of_ble_eq_true rfl) rfl dX3_put_31 (fun H locs f14 ef14 hw hS => ?_)
    have h15 : f14 wl = some (.inr (2, [.int r1.1, .int r1.2.1, .int (mgF r1), .ref ul, .ref fr])) := by rw [ef14, va_up_self]
    refine lv_aload_n hx hb dX3_put_34 rfl (lv_at hl9 0 rfl) ?_
    refine lv_aload_n hx hb dX3_put_35 rfl (lv_at hl9 1 rfl) ?_
    have n17 : nr ≠ wl := hne k_nr k_wl (Nat.ne_of_beq_eq_false rfl)
    have h16 : f14 nr = some (.inr (3, [hd, .ref wl, .int (nI (Q1 ++ [(wl, ul)]).length)])) := by rw [ef14, va_up_ne _ _ n17]; exact k_nr
    refine hp_put (fs1 := [hd, .ref fr, .int (nI (Q1 ++ [(wl, ul)]).length)]) (ty := .object "OptionLine$Frame") B0 hw hS 3 rfl in_X3 tyX3 tyX3_ok nmX3 h16 1 (by decide) qF_X3_15 rfl (by decide +kernel) rfl rfl (Nat.le_of_ble_eq_true rfl) rfl dX3_put_36 (fun H locs f18 ef18 hw hS => ?_)
    have h19 : f18 nr = some (.inr (3, [hd, .ref fr, .int (nI (Q1 ++ [(wl, ul)]).length)])) := by rw [ef18, va_up_self]
    refine lv_aload_n hx hb dX3_put_39 rfl (lv_at hl9 0 rfl) ?_
    refine lv_dup hx hb dX3_put_40 rfl ?_
    refine hp_get B0 hw 3 rfl in_X3 h19 2 (by decide) qF_X3_9 rfl dX3_put_41 ?_
    refine lv_iconst (v := 1) hx hb dX3_put_44 (by decide) ?_
    refine lv_iadd hx hb dX3_put_45 ?_
    refine hp_c (v := (nI ((Q1 ++ [(wl, ul)]).length + 1))) (nI_1 _) ?_
    refine hp_put (fs1 := [hd, .ref fr, .int (nI ((Q1 ++ [(wl, ul)]).length + 1))]) (ty := .int) B0 hw hS 3 rfl in_X3 tyX3 tyX3_ok nmX3 h19 2 (by decide) qF_X3_9 rfl (by decide +kernel) rfl rfl (Nat.le_of_ble_eq_true rfl) rfl dX3_put_46 (fun H locs f20 ef20 hw hS => ?_)
    have e21 : f20 = va_up f14 nr (some (.inr (3, [hd, .ref fr, .int (nI ((Q1 ++ [(wl, ul)]).length + 1))]))) := by rw [ef20, ef18, bx_uu]
    have h22 : f20 nr = some (.inr (3, [hd, .ref fr, .int (nI ((Q1 ++ [(wl, ul)]).length + 1))])) := by rw [ef20, va_up_self]
    have h23 : f14 fr = some (.inr (2, [.int r.1, .int r.2.1, .int (mgF r), .ref u, .null])) := by rw [ef14, va_up_ne _ _ hfw]; exact k_fr
    have n25 : fr ≠ nr := hne k_fr k_nr (Nat.ne_of_beq_eq_false rfl)
    have h24 : f20 fr = some (.inr (2, [.int r.1, .int r.2.1, .int (mgF r), .ref u, .null])) := by rw [e21, va_up_ne _ _ n25]; exact h23
    have n27 : u ≠ wl := hne k_u k_wl (Nat.ne_of_beq_eq_false rfl)
    have h26 : f14 u = some (.inl (cI G, 6, .inl r.2.2.2)) := by rw [ef14, va_up_ne _ _ n27]; exact k_u
    have n29 : u ≠ nr := hne k_u k_nr (Nat.ne_of_beq_eq_false rfl)
    have h28 : f20 u = some (.inl (cI G, 6, .inl r.2.2.2)) := by rw [e21, va_up_ne _ _ n29]; exact h26
    have h30 : f20 wl = some (.inr (2, [.int r1.1, .int r1.2.1, .int (mgF r1), .ref ul, .ref fr])) := by rw [e21, va_up_ne _ _ (Ne.symm n17)]; exact h15
    have n32 : ul ≠ wl := hne k_ul k_wl (Nat.ne_of_beq_eq_false rfl)
    have h31 : f14 ul = some (.inl (cI G, 6, .inl r1.2.2.2)) := by rw [ef14, va_up_ne _ _ n32]; exact k_ul
    have n34 : ul ≠ nr := hne k_ul k_nr (Nat.ne_of_beq_eq_false rfl)
    have h33 : f20 ul = some (.inl (cI G, 6, .inl r1.2.2.2)) := by rw [e21, va_up_ne _ _ n34]; exact h31
    exact hp_vret B0 hw hS hr ⟨Nat.le_of_ble_eq_true rfl, Nat.le_of_ble_eq_true rfl⟩ dX3_put_49 (⟨rfl, ⟨hd, (by rw [lastV_snoc, List.length_append]; exact h22), (by rw [List.append_assoc, List.append_assoc]; exact hsp _ (fun x hx => by obtain ⟨r9, nx9, g1, g2⟩ := hch.mem x (List.mem_append_left _ hx); exact ⟨(((show hK2 [nr, wl] [] f f14 from (by rw [ef14]; exact hK2.up (List.mem_cons_of_mem _ List.mem_cons_self))).tr (show hK2 [nr, wl] [] f14 f20 from (by rw [e21]; exact hK2.up List.mem_cons_self))).2 _ _ g1 (ninc (hne g1 k_nr (Nat.ne_of_beq_eq_false rfl)) (ninc (nd_ne hnd hx) nin0)) (fun _ z => nomatch z)).trans g1.symm, (((show hK2 [nr, wl] [] f f14 from (by rw [ef14]; exact hK2.up (List.mem_cons_of_mem _ List.mem_cons_self))).tr (show hK2 [nr, wl] [] f14 f20 from (by rw [e21]; exact hK2.up List.mem_cons_self))).2 _ _ g2 (ninc (hne g2 k_nr (Nat.ne_of_beq_eq_false rfl)) (ninc (hne g2 k_wl (Nat.ne_of_beq_eq_false rfl)) nin0)) (fun _ z => nomatch z)).trans g2.symm⟩) [(fr, u)] [r] ⟨r1, [r], .ref fr, rfl, rfl, h30, h33, ⟨r, [], .null, rfl, rfl, h24, h28, rfl, rfl⟩⟩)⟩, ((show hK2 [nr] (Q1 ++ [(wl, ul)]) f f14 from (by rw [ef14]; exact hK2.fr k_wl (by simp [ws]))).tr (show hK2 [nr] (Q1 ++ [(wl, ul)]) f14 f20 from (by rw [e21]; exact hK2.up List.mem_cons_self)))⟩)

set_option maxHeartbeats 4000000 in
set_option maxRecDepth 100000 in
theorem c_X3_takeX {l : Launch} (hl : l.stackTraces = false) (G : hG) (f : hM) (nr : Nat) (Q : List (Nat × Nat)) (L : List Fr) (hR : RX G f nr Q L) : CT l yX3_takeFirst (.code yX3_takeFirst cX3_takeFirst 2 (some (.object "OptionLine$Frame"))) 0 0 0 0 G [.ref nr] f (fun v f1 => (Q = [] ∧ v = some .null ∧ f1 = f) ∨ (∃ (c : Nat × Nat) (Q1 : List (Nat × Nat)) (r : Fr) (L1 : List Fr), Q = c :: Q1 ∧ L = r :: L1 ∧ v = some (.ref c.1) ∧ RX G f1 nr Q1 L1 ∧ hK2 [nr] [] f f1)) (fun E f1 => False) := by
  refine hp_start hl (own := RX3) (by decide) rfl (Nat.le_of_ble_eq_true rfl) ?_
  intro p e s m args below meth c B0 hr hnm hout hw hS ls hl9
  have hx := B0.1
  have hb := B0.2.1
  have hl9 : lv_has ls 2 [(0, .ref nr)] := hl9
  obtain ⟨hd, k_nr, hch⟩ := hR
  rcases Q with _ | ⟨⟨w, u⟩, Q1⟩
  · obtain ⟨eL, ehd⟩ := hch
    subst eL
    subst ehd
    have k_nr : f nr = some (.inr (3, [.null, .null, .int (nI 0)])) := k_nr
    refine lv_aload_n hx hb dX3_takeFirst_0 rfl (lv_at hl9 0 rfl) ?_
    refine hp_get B0 hw 3 rfl in_X3 k_nr 0 (by decide) qF_X3_19 rfl dX3_takeFirst_1 ?_
    refine lv_astore_nN (lv' := [(1, .null), (0, .ref nr)]) hx hb dX3_takeFirst_4 rfl hl9 (by decide) rfl (fun ls hl9 => ?_)
    refine lv_aload_nN hx hb dX3_takeFirst_5 rfl (lv_at hl9 0 rfl) ?_
    refine lv_ifnonnullN hx hb dX3_takeFirst_6 ?_
    refine lv_null hx hb dX3_takeFirst_9 ?_
    exact hp_aret (v := .null) B0 hw hS hr (Or.inl ⟨_, rfl⟩) (Or.inl rfl) ⟨Nat.le_of_ble_eq_true rfl, Nat.le_of_ble_eq_true rfl⟩ dX3_takeFirst_10 ((Or.inl ⟨rfl, rfl, rfl⟩))
  · obtain ⟨r, L1, nx, eL, ehd, k_w, k_u, ht⟩ := hch
    subst eL
    subst ehd
    rcases Q1 with _ | ⟨d, Q2⟩
    · have ht9 := ht
      obtain ⟨eL, enx⟩ := ht
      subst eL
      subst enx
      have k_nr : f nr = some (.inr (3, [.ref w, .ref w, .int (nI (0 + 1))])) := k_nr
      have k_w : f w = some (.inr (2, [.int r.1, .int r.2.1, .int (mgF r), .ref u, .null])) := k_w
      refine lv_aload_n hx hb dX3_takeFirst_0 rfl (lv_at hl9 0 rfl) ?_
      refine hp_get B0 hw 3 rfl in_X3 k_nr 0 (by decide) qF_X3_19 rfl dX3_takeFirst_1 ?_
      refine lv_astore_n (lv' := [(1, .ref w), (0, .ref nr)]) hx hb dX3_takeFirst_4 rfl hl9 (by decide) rfl (fun ls hl9 => ?_)
      refine lv_aload_n hx hb dX3_takeFirst_5 rfl (lv_at hl9 0 rfl) ?_
      refine lv_ifnonnull (tgt := 11) hx hb dX3_takeFirst_6 (by decide) ?_
      refine lv_aload_n hx hb dX3_takeFirst_11 rfl (lv_at hl9 1 rfl) ?_
      refine lv_aload_n hx hb dX3_takeFirst_12 rfl (lv_at hl9 0 rfl) ?_
      refine hp_get B0 hw 2 rfl in_X2 k_w 4 (by decide) qF_X3_22 rfl dX3_takeFirst_13 ?_
      refine hp_put (fs1 := [.null, .ref w, .int (nI (0 + 1))]) (ty := .object "OptionLine$Frame") B0 hw hS 3 rfl in_X3 tyX3 tyX3_ok nmX3 k_nr 0 (by decide) qF_X3_19 rfl (by decide +kernel) rfl rfl (Nat.le_of_ble_eq_true rfl) rfl dX3_takeFirst_16 (fun H locs f1 ef1 hw hS => ?_)
      have h2 : f1 nr = some (.inr (3, [.null, .ref w, .int (nI (0 + 1))])) := by rw [ef1, va_up_self]
      refine lv_aload_n hx hb dX3_takeFirst_19 rfl (lv_at hl9 1 rfl) ?_
      refine hp_get B0 hw 3 rfl in_X3 h2 0 (by decide) qF_X3_19 rfl dX3_takeFirst_20 ?_
      refine lv_ifnonnullN hx hb dX3_takeFirst_23 ?_
      refine lv_aload_n hx hb dX3_takeFirst_26 rfl (lv_at hl9 1 rfl) ?_
      refine lv_null hx hb dX3_takeFirst_27 ?_
      refine hp_put (fs1 := [.null, .null, .int (nI (0 + 1))]) (ty := .object "OptionLine$Frame") B0 hw hS 3 rfl in_X3 tyX3 tyX3_ok nmX3 h2 1 (by decide) qF_X3_15 rfl (by decide +kernel) rfl rfl (Nat.le_of_ble_eq_true rfl) rfl dX3_takeFirst_28 (fun H locs f3 ef3 hw hS => ?_)
      have e4 : f3 = va_up f nr (some (.inr (3, [.null, .null, .int (nI (0 + 1))]))) := by rw [ef3, ef1, bx_uu]
      have h5 : f3 nr = some (.inr (3, [.null, .null, .int (nI (0 + 1))])) := by rw [ef3, va_up_self]
      refine lv_aload_n hx hb dX3_takeFirst_31 rfl (lv_at hl9 1 rfl) ?_
      refine lv_dup hx hb dX3_takeFirst_32 rfl ?_
      refine hp_get B0 hw 3 rfl in_X3 h5 2 (by decide) qF_X3_9 rfl dX3_takeFirst_33 ?_
      refine lv_iconst (v := 1) hx hb dX3_takeFirst_36 (by decide) ?_
      refine lv_isub hx hb dX3_takeFirst_37 ?_
      refine hp_c (v := (nI 0)) (nI_pred _) ?_
      refine hp_put (fs1 := [.null, .null, .int (nI 0)]) (ty := .int) B0 hw hS 3 rfl in_X3 tyX3 tyX3_ok nmX3 h5 2 (by decide) qF_X3_9 rfl (by decide +kernel) rfl rfl (Nat.le_of_ble_eq_true rfl) rfl dX3_takeFirst_38 (fun H locs f6 ef6 hw hS => ?_)
      have e7 : f6 = va_up f nr (some (.inr (3, [.null, .null, .int (nI 0)]))) := by rw [ef6, e4, bx_uu]
      have h8 : f6 nr = some (.inr (3, [.null, .null, .int (nI 0)])) := by rw [ef6, va_up_self]
      refine lv_aload_n hx hb dX3_takeFirst_41 rfl (lv_at hl9 0 rfl) ?_
      exact hp_aret (v := .ref w) B0 hw hS hr (Or.inl ⟨_, rfl⟩) (Or.inr ⟨_, rfl⟩) ⟨Nat.le_of_ble_eq_true rfl, Nat.le_of_ble_eq_true rfl⟩ dX3_takeFirst_42 ((Or.inr ⟨(w, u), [], r, _, rfl, rfl, rfl, ⟨_, h8, CH.kp1 (show hK2 [nr] [] f f6 from (by rw [e7]; exact hK2.up List.mem_cons_self)) k_nr ht9⟩, (show hK2 [nr] [] f f6 from (by rw [e7]; exact hK2.up List.mem_cons_self))⟩))
    · have ht9 := ht
      obtain ⟨r2, L2, nx2, eL, enx, k_w2, k_u2, ht2⟩ := ht
      subst eL
      subst enx
      have k_nr : f nr = some (.inr (3, [.ref w, (lastV (d :: Q2)), .int (nI ((d :: Q2).length + 1))])) := by rw [lastV_cons] at k_nr; exact k_nr
      have k_w : f w = some (.inr (2, [.int r.1, .int r.2.1, .int (mgF r), .ref u, .ref d.1])) := k_w
      refine lv_aload_n hx hb dX3_takeFirst_0 rfl (lv_at hl9 0 rfl) ?_
      refine hp_get B0 hw 3 rfl in_X3 k_nr 0 (by decide) qF_X3_19 rfl dX3_takeFirst_1 ?_
      refine lv_astore_n (lv' := [(1, .ref w), (0, .ref nr)]) hx hb dX3_takeFirst_4 rfl hl9 (by decide) rfl (fun ls hl9 => ?_)
      refine lv_aload_n hx hb dX3_takeFirst_5 rfl (lv_at hl9 0 rfl) ?_
      refine lv_ifnonnull (tgt := 11) hx hb dX3_takeFirst_6 (by decide) ?_
      refine lv_aload_n hx hb dX3_takeFirst_11 rfl (lv_at hl9 1 rfl) ?_
      refine lv_aload_n hx hb dX3_takeFirst_12 rfl (lv_at hl9 0 rfl) ?_
      refine hp_get B0 hw 2 rfl in_X2 k_w 4 (by decide) qF_X3_22 rfl dX3_takeFirst_13 ?_
      refine hp_put (fs1 := [.ref d.1, (lastV (d :: Q2)), .int (nI ((d :: Q2).length + 1))]) (ty := .object "OptionLine$Frame") B0 hw hS 3 rfl in_X3 tyX3 tyX3_ok nmX3 k_nr 0 (by decide) qF_X3_19 rfl (by decide +kernel) rfl rfl (Nat.le_of_ble_eq_true rfl) rfl dX3_takeFirst_16 (fun H locs f10 ef10 hw hS => ?_)
      have h11 : f10 nr = some (.inr (3, [.ref d.1, (lastV (d :: Q2)), .int (nI ((d :: Q2).length + 1))])) := by rw [ef10, va_up_self]
      refine lv_aload_n hx hb dX3_takeFirst_19 rfl (lv_at hl9 1 rfl) ?_
      refine hp_get B0 hw 3 rfl in_X3 h11 0 (by decide) qF_X3_19 rfl dX3_takeFirst_20 ?_
      refine lv_ifnonnull (tgt := 31) hx hb dX3_takeFirst_23 (by decide) ?_
      refine lv_aload_n hx hb dX3_takeFirst_31 rfl (lv_at hl9 1 rfl) ?_
      refine lv_dup hx hb dX3_takeFirst_32 rfl ?_
      refine hp_get B0 hw 3 rfl in_X3 h11 2 (by decide) qF_X3_9 rfl dX3_takeFirst_33 ?_
      refine lv_iconst (v := 1) hx hb dX3_takeFirst_36 (by decide) ?_
      refine lv_isub hx hb dX3_takeFirst_37 ?_
      refine hp_c (v := (nI (d :: Q2).length)) (nI_pred _) ?_
      refine hp_put (fs1 := [.ref d.1, (lastV (d :: Q2)), .int (nI (d :: Q2).length)]) (ty := .int) B0 hw hS 3 rfl in_X3 tyX3 tyX3_ok nmX3 h11 2 (by decide) qF_X3_9 rfl (by decide +kernel) rfl rfl (Nat.le_of_ble_eq_true rfl) rfl dX3_takeFirst_38 (fun H locs f12 ef12 hw hS => ?_)
      have e13 : f12 = va_up f nr (some (.inr (3, [.ref d.1, (lastV (d :: Q2)), .int (nI (d :: Q2).length)]))) := by rw [ef12, ef10, bx_uu]
      have h14 : f12 nr = some (.inr (3, [.ref d.1, (lastV (d :: Q2)), .int (nI (d :: Q2).length)])) := by rw [ef12, va_up_self]
      refine lv_aload_n hx hb dX3_takeFirst_41 rfl (lv_at hl9 0 rfl) ?_
      exact hp_aret (v := .ref w) B0 hw hS hr (Or.inl ⟨_, rfl⟩) (Or.inr ⟨_, rfl⟩) ⟨Nat.le_of_ble_eq_true rfl, Nat.le_of_ble_eq_true rfl⟩ dX3_takeFirst_42 ((Or.inr ⟨(w, u), (d :: Q2), r, _, rfl, rfl, rfl, ⟨_, h14, CH.kp1 (show hK2 [nr] [] f f12 from (by rw [e13]; exact hK2.up List.mem_cons_self)) k_nr ht9⟩, (show hK2 [nr] [] f f12 from (by rw [e13]; exact hK2.up List.mem_cons_self))⟩))

set_option maxHeartbeats 4000000 in
set_option maxRecDepth 100000 in
theorem c_X1_askX {l : Launch} (hl : l.stackTraces = false) (G : hG) (f : hM) (en nw na nq nr : Nat) (st li sr tm lp mi ix : Int32) (gq : Nat → Int32) (L : List Fr) (Q : List (Nat × Nat)) (hE : EX G f en nw na nq nr (st, li, sr, tm, lp, mi, ix, gq, L) Q) (hn : Q.length < 4000) : CT l yX1_ask (.code yX1_ask cX1_ask 1 (some .boolean)) 2 37 2 11 G [.ref en] f (fun v f1 => (sr < 10 ∧ v = some (.int 1) ∧ ∃ w u : Nat, f w = none ∧ f u = none ∧ EX G f1 en nw na nq nr (st, li + 1, sr + 1, 3, lp, mi, ix, gq, L ++ [(0, li + 1, ix, gq)]) (Q ++ [(w, u)]) ∧ hK2 [en, nr] Q f f1) ∨ (¬ sr < 10 ∧ v = some (.int 0) ∧ EX G f1 en nw na nq nr (0, li, sr, tm, lp, mi, ix, gq, L) Q ∧ hK2 [en, nr] Q f f1)) (fun E f1 => False) := by
  refine hp_start hl (own := RX1) (by decide) rfl (Nat.le_of_ble_eq_true rfl) ?_
  intro p e s m args below meth c B0 hr hnm hout hw hS ls hl9
  have hx := B0.1
  have hb := B0.2.1
  have hl9 : lv_has ls 1 [(0, .ref en)] := hl9
  have ke1 : f en = some (.inr (1, [.ref nw, .ref na, .ref nq, .ref nr, .int (num ix), .int st, .int tm, .int sr, .int li, .int lp, .int mi])) := (hE).1
  have kq2 : f nq = some (.inl (cI G, 6, .inl gq)) := (hE).2.1
  obtain ⟨hd4, kr3, hc5⟩ := (hE).2.2.1
  refine lv_aload_n hx hb dX1_ask_0 rfl (lv_at hl9 0 rfl) ?_
  refine hp_get B0 hw 1 rfl in_X1 ke1 7 (by decide) qF_X1_35 rfl dX1_ask_1 ?_
  refine lv_bipush (v := 10) hx hb dX1_ask_4 (by decide) ?_
  refine lv_icmp_lt (tgt := 16) hx hb dX1_ask_6 (by decide) (fun c6 => ?_) (fun c6 => ?_)
  · refine lv_aload_n hx hb dX1_ask_16 rfl (lv_at hl9 0 rfl) ?_
    refine lv_dup hx hb dX1_ask_17 rfl ?_
    refine hp_get B0 hw 1 rfl in_X1 ke1 7 (by decide) qF_X1_35 rfl dX1_ask_18 ?_
    refine lv_iconst (v := 1) hx hb dX1_ask_21 (by decide) ?_
    refine lv_iadd hx hb dX1_ask_22 ?_
    refine hp_put (fs1 := [.ref nw, .ref na, .ref nq, .ref nr, .int (num ix), .int st, .int tm, .int (sr + 1), .int li, .int lp, .int mi]) (ty := .int) B0 hw hS 1 rfl in_X1 tyX1 tyX1_ok nmX1 ke1 7 (by decide) qF_X1_35 rfl (by decide +kernel) rfl rfl (Nat.le_of_ble_eq_true rfl) rfl dX1_ask_23 (fun H locs f7 ef7 hw hS => ?_)
    have h8 : f7 en = some (.inr (1, [.ref nw, .ref na, .ref nq, .ref nr, .int (num ix), .int st, .int tm, .int (sr + 1), .int li, .int lp, .int mi])) := by rw [ef7, va_up_self]
    refine lv_aload_n hx hb dX1_ask_26 rfl (lv_at hl9 0 rfl) ?_
    refine lv_dup hx hb dX1_ask_27 rfl ?_
    refine hp_get B0 hw 1 rfl in_X1 h8 8 (by decide) qF_X1_38 rfl dX1_ask_28 ?_
    refine lv_iconst (v := 1) hx hb dX1_ask_31 (by decide) ?_
    refine lv_iadd hx hb dX1_ask_32 ?_
    refine hp_put (fs1 := [.ref nw, .ref na, .ref nq, .ref nr, .int (num ix), .int st, .int tm, .int (sr + 1), .int (li + 1), .int lp, .int mi]) (ty := .int) B0 hw hS 1 rfl in_X1 tyX1 tyX1_ok nmX1 h8 8 (by decide) qF_X1_38 rfl (by decide +kernel) rfl rfl (Nat.le_of_ble_eq_true rfl) rfl dX1_ask_33 (fun H locs f10 ef10 hw hS => ?_)
    have e11 : f10 = va_up f en (some (.inr (1, [.ref nw, .ref na, .ref nq, .ref nr, .int (num ix), .int st, .int tm, .int (sr + 1), .int (li + 1), .int lp, .int mi]))) := by rw [ef10, ef7, bx_uu]
    have h12 : f10 en = some (.inr (1, [.ref nw, .ref na, .ref nq, .ref nr, .int (num ix), .int st, .int tm, .int (sr + 1), .int (li + 1), .int lp, .int mi])) := by rw [ef10, va_up_self]
    refine lv_aload_n hx hb dX1_ask_36 rfl (lv_at hl9 0 rfl) ?_
    refine lv_iconst (v := 3) hx hb dX1_ask_37 (by decide) ?_
    refine hp_put (fs1 := [.ref nw, .ref na, .ref nq, .ref nr, .int (num ix), .int st, .int 3, .int (sr + 1), .int (li + 1), .int lp, .int mi]) (ty := .int) B0 hw hS 1 rfl in_X1 tyX1 tyX1_ok nmX1 h12 6 (by decide) qF_X1_32 rfl (by decide +kernel) rfl rfl (Nat.le_of_ble_eq_true rfl) rfl dX1_ask_38 (fun H locs f13 ef13 hw hS => ?_)
    have e14 : f13 = va_up f en (some (.inr (1, [.ref nw, .ref na, .ref nq, .ref nr, .int (num ix), .int st, .int 3, .int (sr + 1), .int (li + 1), .int lp, .int mi]))) := by rw [ef13, e11, bx_uu]
    have h15 : f13 en = some (.inr (1, [.ref nw, .ref na, .ref nq, .ref nr, .int (num ix), .int st, .int 3, .int (sr + 1), .int (li + 1), .int lp, .int mi])) := by rw [ef13, va_up_self]
    refine lv_aload_n hx hb dX1_ask_41 rfl (lv_at hl9 0 rfl) ?_
    refine hp_get B0 hw 1 rfl in_X1 h15 3 (by decide) qF_X1_24 rfl dX1_ask_42 ?_
    refine hp_new (fs := [.int 0, .int 0, .int 0, .null, .null]) B0 hw hS 2 rfl in_X2 tyX2 tyX2_ok qC_X1_71 qI_X2 qN_X2 (fun j hj => by rcases (show j = 0 ∨ j = 1 ∨ j = 2 ∨ j = 3 ∨ j = 4 by omega) with rfl | rfl | rfl | rfl | rfl <;> rfl) (Nat.le_of_ble_eq_true rfl) (Nat.le_of_ble_eq_true rfl) dX1_ask_45 (fun q16 H f18 w17 ef18 hw hS => ?_)
    have h19 : f18 q16 = some (.inr (2, [.int 0, .int 0, .int 0, .null, .null])) := by rw [ef18, va_up_self]
    refine lv_dup hx hb dX1_ask_48 rfl ?_
    refine lv_iconst (v := 0) hx hb dX1_ask_49 (by decide) ?_
    refine lv_aload_n hx hb dX1_ask_50 rfl (lv_at hl9 0 rfl) ?_
    have h20 : f18 en = some (.inr (1, [.ref nw, .ref na, .ref nq, .ref nr, .int (num ix), .int st, .int 3, .int (sr + 1), .int (li + 1), .int lp, .int mi])) := by rw [ef18, va_up_ne _ _ (hnew h15 w17)]; exact h15
    refine hp_get B0 hw 1 rfl in_X1 h20 8 (by decide) qF_X1_38 rfl dX1_ask_51 ?_
    refine lv_aload_n hx hb dX1_ask_54 rfl (lv_at hl9 0 rfl) ?_
    refine hp_get B0 hw 1 rfl in_X1 h20 4 (by decide) qF_X1_48 rfl dX1_ask_55 ?_
    refine lv_aload_n hx hb dX1_ask_58 rfl (lv_at hl9 0 rfl) ?_
    refine hp_get B0 hw 1 rfl in_X1 h20 2 (by decide) qF_X1_18 rfl dX1_ask_59 ?_
    refine lv_bipush (v := 6) hx hb dX1_ask_62 (by decide) ?_
    have n22 : nq ≠ en := hne kq2 ke1 (Nat.ne_of_beq_eq_false rfl)
    have h21 : f13 nq = some (.inl (cI G, 6, .inl gq)) := by rw [e14, va_up_ne _ _ n22]; exact kq2
    have h23 : f18 nq = some (.inl (cI G, 6, .inl gq)) := by rw [ef18, va_up_ne _ _ (hnew h21 w17)]; exact h21
    refine hp_S (As := [.ref nq, .int 6]) (rest := [.int (num ix), .int (li + 1), .int 0, .ref q16, .ref q16, .ref nr]) B0 hw hS (c_J7_copyE hl G f18 nq gq h23) mS_J7_copyOf_59c91 qM_X1_95 rfl rfl hl9.1 (Nat.le_of_ble_eq_true rfl) ⟨⟨Nat.le_of_ble_eq_true rfl, Nat.le_of_ble_eq_true rfl⟩, Nat.le_of_ble_eq_true rfl, Nat.le_of_ble_eq_true rfl⟩ dX1_ask_64 (fun E ce q9 f24 H locs hPX hw hS hce hcv hcl => ?_) (fun v f24 H locs hP hw hS => ?_)
    · exact hPX.elim
    · obtain ⟨q25, ev9, w26, e27⟩ := hP
      subst ev9
      have h29 : f24 q25 = some (.inl (cI G, 6, .inl gq)) := by rw [e27, va_up_self]
      refine W.eq (g2 := F0 m 67 ls [.ref q25, .int (num ix), .int (li + 1), .int 0, .ref q16, .ref q16, .ref nr]) rfl ?_
      have h30 : f24 q16 = some (.inr (2, [.int 0, .int 0, .int 0, .null, .null])) := by rw [e27, va_up_ne _ _ (hnew h19 w26)]; exact h19
      refine hp_I (As := [.int 0, .int (li + 1), .int (num ix), .ref q25]) (rest := [.ref q16, .ref nr]) (b := q16) B0 hw hS (c_X2_initE hl G f24 q16 q25 0 (li + 1) (num ix) h30) mI_X2_init qM_X1_99 rfl rfl hl9.1 (Nat.le_of_ble_eq_true rfl) ⟨⟨Nat.le_of_ble_eq_true rfl, Nat.le_of_ble_eq_true rfl⟩, Nat.le_of_ble_eq_true rfl, Nat.le_of_ble_eq_true rfl⟩ dX1_ask_67 (fun E ce q9 f31 H locs hPX hw hS hce hcv hcl => ?_) (fun v f31 H locs hP hw hS => ?_)
      · exact hPX.elim
      · obtain ⟨ev9, e32⟩ := hP
        subst ev9
        have h33 : f31 q16 = some (.inr (2, [.int 0, .int (li + 1), .int (num ix), .ref q25, .null])) := by rw [e32, va_up_self]
        refine W.eq (g2 := F0 m 70 ls [.ref q16, .ref nr]) rfl ?_
        have n35 : q16 ≠ q25 := hnew h19 w26
        have h34 : f31 q25 = some (.inl (cI G, 6, .inl gq)) := by rw [e32, va_up_ne _ _ (Ne.symm n35)]; exact h29
        have n37 : nr ≠ en := hne kr3 ke1 (Nat.ne_of_beq_eq_false rfl)
        have h36 : f13 nr = some (.inr (3, [hd4, (lastV Q), .int (nI (Q).length)])) := by rw [e14, va_up_ne _ _ n37]; exact kr3
        have h38 : f18 nr = some (.inr (3, [hd4, (lastV Q), .int (nI (Q).length)])) := by rw [ef18, va_up_ne _ _ (hnew h36 w17)]; exact h36
        have h39 : f24 nr = some (.inr (3, [hd4, (lastV Q), .int (nI (Q).length)])) := by rw [e27, va_up_ne _ _ (hnew h38 w26)]; exact h38
        have n41 : nr ≠ q16 := hnew h36 w17
        have h40 : f31 nr = some (.inr (3, [hd4, (lastV Q), .int (nI (Q).length)])) := by rw [e32, va_up_ne _ _ n41]; exact h39
        have k42 : f31 q16 = some (.inr (2, [.int 0, .int (li + 1), .int (mgF (0, li + 1, ix, gq)), .ref q25, .null])) := by rw [show mgF (0, li + 1, ix, gq) = (num ix) from if_pos rfl]; exact h33
        have hN43 : ∀ c9 ∈ [(q16, q25)], f c9.1 = none ∧ f c9.2 = none := fun c9 hc9 => by rw [List.mem_singleton.mp hc9]; exact ⟨((show hK2 [en] [] f f13 from (by rw [e14]; exact hK2.up List.mem_cons_self)).1 _ w17), (((show hK2 [en] [] f f13 from (by rw [e14]; exact hK2.up List.mem_cons_self)).tr (hK2.trn w17 (show hK2 [q16, en] [] f13 f18 from (by rw [ef18]; exact hK2.new w17)))).1 _ w26)⟩
        refine hp_V (ci := 3) (As := [.ref q16]) (rest := []) B0 hw hS (c_X3_putX hl G f31 nr q16 q25 (0, li + 1, ix, gq) Q L ⟨_, h40, (CH.kp ((show hK2 [en, nq, nr] [] f f13 from (by rw [e14]; exact hK2.up List.mem_cons_self)).tr (hK2.trn w17 ((show hK2 [q16, en, nq, nr] [] f13 f18 from (by rw [ef18]; exact hK2.new w17)).tr (hK2.trn w26 ((show hK2 [q25, q16, en, nq, nr] [] f18 f24 from (by rw [e27]; exact hK2.new w26)).tr (show hK2 [q25, q16, en, nq, nr] [] f24 f31 from (by rw [e32]; exact hK2.up (List.mem_cons_of_mem _ List.mem_cons_self)))))))) hc5 (EX.cu (hE)) (EX.sf (hE)))⟩ k42 h34 (CH.fresh hc5 (hN43 (q16, q25) (List.mem_singleton.mpr rfl)).1) (hE).2.2.2.1 (Nat.lt_trans hn (by decide))) mV_X3_put qM_X1_102 rfl h40 rfl rfl hl9.1 (Nat.le_of_ble_eq_true rfl) ⟨⟨Nat.le_of_ble_eq_true rfl, Nat.le_of_ble_eq_true rfl⟩, Nat.le_of_ble_eq_true rfl, Nat.le_of_ble_eq_true rfl⟩ dX1_ask_70 (fun E ce q9 f44 H locs hPX hw hS hce hcv hcl => ?_) (fun v f44 H locs hP hw hS => ?_)
        · exact hPX.elim
        · obtain ⟨ev9, hR45, k46⟩ := hP
          subst ev9
          have h47 : f24 en = some (.inr (1, [.ref nw, .ref na, .ref nq, .ref nr, .int (num ix), .int st, .int 3, .int (sr + 1), .int (li + 1), .int lp, .int mi])) := by rw [e27, va_up_ne _ _ (hnew h20 w26)]; exact h20
          have n49 : en ≠ q16 := hnew h15 w17
          have h48 : f31 en = some (.inr (1, [.ref nw, .ref na, .ref nq, .ref nr, .int (num ix), .int st, .int 3, .int (sr + 1), .int (li + 1), .int lp, .int mi])) := by rw [e32, va_up_ne _ _ n49]; exact h47
          have h50 : f24 nq = some (.inl (cI G, 6, .inl gq)) := by rw [e27, va_up_ne _ _ (hnew h23 w26)]; exact h23
          have n52 : nq ≠ q16 := hnew h21 w17
          have h51 : f31 nq = some (.inl (cI G, 6, .inl gq)) := by rw [e32, va_up_ne _ _ n52]; exact h50
          have h53 : f44 en = some (.inr (1, [.ref nw, .ref na, .ref nq, .ref nr, .int (num ix), .int st, .int 3, .int (sr + 1), .int (li + 1), .int lp, .int mi])) := k46.2 _ _ h48 (ninc (Ne.symm n37) nin0) (fun t9 => absurd t9 (Nat.ne_of_beq_eq_false rfl))
          have n54 : nq ≠ nr := hne kq2 kr3 (Nat.ne_of_beq_eq_false rfl)
          have h55 : f44 nq = some (.inl (cI G, 6, .inl gq)) := k46.2 _ _ h51 (ninc n54 nin0) (fun t9 => absurd t9 (Nat.ne_of_beq_eq_false rfl))
          have hE56 : EX G f44 en nw na nq nr (st, (li + 1), (sr + 1), 3, lp, mi, ix, gq, (L ++ [(0, li + 1, ix, gq)])) (Q ++ [(q16, q25)]) := ⟨h53, h55, hR45, nd_snoc (hE).2.2.2.1 (CH.fresh hc5 (hN43 (q16, q25) (List.mem_singleton.mpr rfl)).1), nuN (hE).2.2.2.2.1 kq2 hN43, (hE).2.2.2.2.2⟩
          have ke57 : f44 en = some (.inr (1, [.ref nw, .ref na, .ref nq, .ref nr, .int (num ix), .int st, .int 3, .int (sr + 1), .int (li + 1), .int lp, .int mi])) := (hE56).1
          have kq58 : f44 nq = some (.inl (cI G, 6, .inl gq)) := (hE56).2.1
          obtain ⟨hd60, kr59, hc61⟩ := (hE56).2.2.1
          refine W.eq (g2 := F0 m 73 ls []) rfl ?_
          refine lv_iconst (v := 1) hx hb dX1_ask_73 (by decide) ?_
          exact hp_zret (v := 1) B0 hw hS hr ⟨Nat.le_of_ble_eq_true rfl, Nat.le_of_ble_eq_true rfl⟩ (rfl) dX1_ask_74 ((Or.inl ⟨c6, rfl, q16, q25, (hN43 _ (List.mem_singleton.mpr rfl)).1, (hN43 _ (List.mem_singleton.mpr rfl)).2, (show EX G f44 en nw na nq nr (st, (li + 1), (sr + 1), 3, lp, mi, ix, gq, (L ++ [(0, li + 1, ix, gq)])) (Q ++ [(q16, q25)]) from ⟨ke57, kq58, ⟨_, kr59, hc61⟩, (hE56).2.2.2.1, (hE56).2.2.2.2.1, (hE).2.2.2.2.2⟩), ((show hK2 [en, nr] Q f f13 from (by rw [e14]; exact hK2.up List.mem_cons_self)).tr (hK2.trn w17 ((show hK2 [q16, en, nr] Q f13 f18 from (by rw [ef18]; exact hK2.new w17)).tr (hK2.trn w26 ((show hK2 [q25, q16, en, nr] Q f18 f24 from (by rw [e27]; exact hK2.new w26)).tr ((show hK2 [q25, q16, en, nr] Q f24 f31 from (by rw [e32]; exact hK2.up (List.mem_cons_of_mem _ List.mem_cons_self))).tr (show hK2 [q25, q16, en, nr] Q f31 f44 from (k46.mono (sub_cons (List.mem_cons_of_mem _ (List.mem_cons_of_mem _ (List.mem_cons_of_mem _ List.mem_cons_self))) sub_nil)))))))))⟩))
  · refine lv_aload_n hx hb dX1_ask_9 rfl (lv_at hl9 0 rfl) ?_
    refine lv_iconst (v := 0) hx hb dX1_ask_10 (by decide) ?_
    refine hp_put (fs1 := [.ref nw, .ref na, .ref nq, .ref nr, .int (num ix), .int 0, .int tm, .int sr, .int li, .int lp, .int mi]) (ty := .int) B0 hw hS 1 rfl in_X1 tyX1 tyX1_ok nmX1 ke1 5 (by decide) qF_X1_28 rfl (by decide +kernel) rfl rfl (Nat.le_of_ble_eq_true rfl) rfl dX1_ask_11 (fun H locs f62 ef62 hw hS => ?_)
    have h63 : f62 en = some (.inr (1, [.ref nw, .ref na, .ref nq, .ref nr, .int (num ix), .int 0, .int tm, .int sr, .int li, .int lp, .int mi])) := by rw [ef62, va_up_self]
    refine lv_iconst (v := 0) hx hb dX1_ask_14 (by decide) ?_
    have n65 : nq ≠ en := hne kq2 ke1 (Nat.ne_of_beq_eq_false rfl)
    have h64 : f62 nq = some (.inl (cI G, 6, .inl gq)) := by rw [ef62, va_up_ne _ _ n65]; exact kq2
    have n67 : nr ≠ en := hne kr3 ke1 (Nat.ne_of_beq_eq_false rfl)
    have h66 : f62 nr = some (.inr (3, [hd4, (lastV Q), .int (nI (Q).length)])) := by rw [ef62, va_up_ne _ _ n67]; exact kr3
    exact hp_zret (v := 0) B0 hw hS hr ⟨Nat.le_of_ble_eq_true rfl, Nat.le_of_ble_eq_true rfl⟩ (rfl) dX1_ask_15 ((Or.inr ⟨c6, rfl, (show EX G f62 en nw na nq nr (0, li, sr, tm, lp, mi, ix, gq, L) Q from ⟨h63, h64, ⟨_, h66, (CH.kp (show hK2 [en, nq, nr] [] f f62 from (by rw [ef62]; exact hK2.up List.mem_cons_self)) hc5 (EX.cu (hE)) (EX.sf (hE)))⟩, (hE).2.2.2.1, (hE).2.2.2.2.1, (hE).2.2.2.2.2⟩), (show hK2 [en, nr] Q f f62 from (by rw [ef62]; exact hK2.up List.mem_cons_self))⟩))

set_option maxHeartbeats 4000000 in
set_option maxRecDepth 100000 in
theorem c_X1_sendStopX {l : Launch} (hl : l.stackTraces = false) (G : hG) (f : hM) (en nw na nq nr : Nat) (st li sr tm lp mi ix : Int32) (gq : Nat → Int32) (L : List Fr) (Q : List (Nat × Nat)) (hE : EX G f en nw na nq nr (st, li, sr, tm, lp, mi, ix, gq, L) Q) (hn : Q.length < 4000) : CT l yX1_sendStop (.code yX1_sendStop cX1_sendStop 1 none) 2 43 2 11 G [.ref en] f (fun v f1 => v = none ∧ ∃ w u : Nat, f w = none ∧ f u = none ∧ EX G f1 en nw na nq nr (st, li, sr, tm, lp, mi, ix, gq, L ++ [(4, 0, ix, N6)]) (Q ++ [(w, u)]) ∧ hK2 [en, nr] Q f f1) (fun E f1 => False) := by
  refine hp_start hl (own := RX1) (by decide) rfl (Nat.le_of_ble_eq_true rfl) ?_
  intro p e s m args below meth c B0 hr hnm hout hw hS ls hl9
  have hx := B0.1
  have hb := B0.2.1
  have hl9 : lv_has ls 1 [(0, .ref en)] := hl9
  have ke1 : f en = some (.inr (1, [.ref nw, .ref na, .ref nq, .ref nr, .int (num ix), .int st, .int tm, .int sr, .int li, .int lp, .int mi])) := (hE).1
  have kq2 : f nq = some (.inl (cI G, 6, .inl gq)) := (hE).2.1
  obtain ⟨hd4, kr3, hc5⟩ := (hE).2.2.1
  refine lv_aload_n hx hb dX1_sendStop_0 rfl (lv_at hl9 0 rfl) ?_
  refine hp_get B0 hw 1 rfl in_X1 ke1 3 (by decide) qF_X1_24 rfl dX1_sendStop_1 ?_
  refine hp_new (fs := [.int 0, .int 0, .int 0, .null, .null]) B0 hw hS 2 rfl in_X2 tyX2 tyX2_ok qC_X1_71 qI_X2 qN_X2 (fun j hj => by rcases (show j = 0 ∨ j = 1 ∨ j = 2 ∨ j = 3 ∨ j = 4 by omega) with rfl | rfl | rfl | rfl | rfl <;> rfl) (Nat.le_of_ble_eq_true rfl) (Nat.le_of_ble_eq_true rfl) dX1_sendStop_4 (fun q6 H f8 w7 ef8 hw hS => ?_)
  have h10 : f8 q6 = some (.inr (2, [.int 0, .int 0, .int 0, .null, .null])) := by rw [ef8, va_up_self]
  refine lv_dup hx hb dX1_sendStop_7 rfl ?_
  refine lv_iconst (v := 4) hx hb dX1_sendStop_8 (by decide) ?_
  refine lv_iconst (v := 0) hx hb dX1_sendStop_9 (by decide) ?_
  refine lv_iconst (v := 0) hx hb dX1_sendStop_10 (by decide) ?_
  refine hp_S (As := []) (rest := [.int 0, .int 0, .int 4, .ref q6, .ref q6, .ref nr]) B0 hw hS (c_X1_tellX hl G f8 ) mS_X1_tellNothing qM_X1_105 rfl rfl hl9.1 (Nat.le_of_ble_eq_true rfl) ⟨⟨Nat.le_of_ble_eq_true rfl, Nat.le_of_ble_eq_true rfl⟩, Nat.le_of_ble_eq_true rfl, Nat.le_of_ble_eq_true rfl⟩ dX1_sendStop_11 (fun E ce q9 f11 H locs hPX hw hS hce hcv hcl => ?_) (fun v f11 H locs hP hw hS => ?_)
  · exact hPX.elim
  · obtain ⟨q12, ev9, w13, e14⟩ := hP
    subst ev9
    have h15 : f11 q12 = some (.inl (cI G, 6, .inl N6)) := by rw [e14, va_up_self]
    refine W.eq (g2 := F0 m 14 ls [.ref q12, .int 0, .int 0, .int 4, .ref q6, .ref q6, .ref nr]) rfl ?_
    have h16 : f11 q6 = some (.inr (2, [.int 0, .int 0, .int 0, .null, .null])) := by rw [e14, va_up_ne _ _ (hnew h10 w13)]; exact h10
    refine hp_I (As := [.int 4, .int 0, .int 0, .ref q12]) (rest := [.ref q6, .ref nr]) (b := q6) B0 hw hS (c_X2_initE hl G f11 q6 q12 4 0 0 h16) mI_X2_init qM_X1_99 rfl rfl hl9.1 (Nat.le_of_ble_eq_true rfl) ⟨⟨Nat.le_of_ble_eq_true rfl, Nat.le_of_ble_eq_true rfl⟩, Nat.le_of_ble_eq_true rfl, Nat.le_of_ble_eq_true rfl⟩ dX1_sendStop_14 (fun E ce q9 f17 H locs hPX hw hS hce hcv hcl => ?_) (fun v f17 H locs hP hw hS => ?_)
    · exact hPX.elim
    · obtain ⟨ev9, e18⟩ := hP
      subst ev9
      have h19 : f17 q6 = some (.inr (2, [.int 4, .int 0, .int 0, .ref q12, .null])) := by rw [e18, va_up_self]
      refine W.eq (g2 := F0 m 17 ls [.ref q6, .ref nr]) rfl ?_
      have n21 : q6 ≠ q12 := hnew h10 w13
      have h20 : f17 q12 = some (.inl (cI G, 6, .inl N6)) := by rw [e18, va_up_ne _ _ (Ne.symm n21)]; exact h15
      have h22 : f8 nr = some (.inr (3, [hd4, (lastV Q), .int (nI (Q).length)])) := by rw [ef8, va_up_ne _ _ (hnew kr3 w7)]; exact kr3
      have h23 : f11 nr = some (.inr (3, [hd4, (lastV Q), .int (nI (Q).length)])) := by rw [e14, va_up_ne _ _ (hnew h22 w13)]; exact h22
      have n25 : nr ≠ q6 := hnew kr3 w7
      have h24 : f17 nr = some (.inr (3, [hd4, (lastV Q), .int (nI (Q).length)])) := by rw [e18, va_up_ne _ _ n25]; exact h23
      have k26 : f17 q6 = some (.inr (2, [.int 4, .int 0, .int (mgF (4, 0, ix, N6)), .ref q12, .null])) := by rw [show mgF (4, 0, ix, N6) = 0 from if_neg (show ¬ (4 : Int32) = 0 by decide)]; exact h19
      have hN27 : ∀ c9 ∈ [(q6, q12)], f c9.1 = none ∧ f c9.2 = none := fun c9 hc9 => by rw [List.mem_singleton.mp hc9]; exact ⟨((fun _ h9 => h9) _ w7), ((hK2.trn w7 (show hK2 [q6] [] f f8 from (by rw [ef8]; exact hK2.new w7))).1 _ w13)⟩
      refine hp_V (ci := 3) (As := [.ref q6]) (rest := []) B0 hw hS (c_X3_putX hl G f17 nr q6 q12 (4, 0, ix, N6) Q L ⟨_, h24, (CH.kp (hK2.trn w7 ((show hK2 [q6, en, nq, nr] [] f f8 from (by rw [ef8]; exact hK2.new w7)).tr (hK2.trn w13 ((show hK2 [q12, q6, en, nq, nr] [] f8 f11 from (by rw [e14]; exact hK2.new w13)).tr (show hK2 [q12, q6, en, nq, nr] [] f11 f17 from (by rw [e18]; exact hK2.up (List.mem_cons_of_mem _ List.mem_cons_self))))))) hc5 (EX.cu (hE)) (EX.sf (hE)))⟩ k26 h20 (CH.fresh hc5 (hN27 (q6, q12) (List.mem_singleton.mpr rfl)).1) (hE).2.2.2.1 (Nat.lt_trans hn (by decide))) mV_X3_put qM_X1_102 rfl h24 rfl rfl hl9.1 (Nat.le_of_ble_eq_true rfl) ⟨⟨Nat.le_of_ble_eq_true rfl, Nat.le_of_ble_eq_true rfl⟩, Nat.le_of_ble_eq_true rfl, Nat.le_of_ble_eq_true rfl⟩ dX1_sendStop_17 (fun E ce q9 f28 H locs hPX hw hS hce hcv hcl => ?_) (fun v f28 H locs hP hw hS => ?_)
      · exact hPX.elim
      · obtain ⟨ev9, hR29, k30⟩ := hP
        subst ev9
        have h31 : f8 en = some (.inr (1, [.ref nw, .ref na, .ref nq, .ref nr, .int (num ix), .int st, .int tm, .int sr, .int li, .int lp, .int mi])) := by rw [ef8, va_up_ne _ _ (hnew ke1 w7)]; exact ke1
        have h32 : f11 en = some (.inr (1, [.ref nw, .ref na, .ref nq, .ref nr, .int (num ix), .int st, .int tm, .int sr, .int li, .int lp, .int mi])) := by rw [e14, va_up_ne _ _ (hnew h31 w13)]; exact h31
        have n34 : en ≠ q6 := hnew ke1 w7
        have h33 : f17 en = some (.inr (1, [.ref nw, .ref na, .ref nq, .ref nr, .int (num ix), .int st, .int tm, .int sr, .int li, .int lp, .int mi])) := by rw [e18, va_up_ne _ _ n34]; exact h32
        have h35 : f8 nq = some (.inl (cI G, 6, .inl gq)) := by rw [ef8, va_up_ne _ _ (hnew kq2 w7)]; exact kq2
        have h36 : f11 nq = some (.inl (cI G, 6, .inl gq)) := by rw [e14, va_up_ne _ _ (hnew h35 w13)]; exact h35
        have n38 : nq ≠ q6 := hnew kq2 w7
        have h37 : f17 nq = some (.inl (cI G, 6, .inl gq)) := by rw [e18, va_up_ne _ _ n38]; exact h36
        have n39 : en ≠ nr := hne ke1 kr3 (Nat.ne_of_beq_eq_false rfl)
        have h40 : f28 en = some (.inr (1, [.ref nw, .ref na, .ref nq, .ref nr, .int (num ix), .int st, .int tm, .int sr, .int li, .int lp, .int mi])) := k30.2 _ _ h33 (ninc n39 nin0) (fun t9 => absurd t9 (Nat.ne_of_beq_eq_false rfl))
        have n41 : nq ≠ nr := hne kq2 kr3 (Nat.ne_of_beq_eq_false rfl)
        have h42 : f28 nq = some (.inl (cI G, 6, .inl gq)) := k30.2 _ _ h37 (ninc n41 nin0) (fun t9 => absurd t9 (Nat.ne_of_beq_eq_false rfl))
        have hE43 : EX G f28 en nw na nq nr (st, li, sr, tm, lp, mi, ix, gq, (L ++ [(4, 0, ix, N6)])) (Q ++ [(q6, q12)]) := ⟨h40, h42, hR29, nd_snoc (hE).2.2.2.1 (CH.fresh hc5 (hN27 (q6, q12) (List.mem_singleton.mpr rfl)).1), nuN (hE).2.2.2.2.1 kq2 hN27, (hE).2.2.2.2.2⟩
        have ke44 : f28 en = some (.inr (1, [.ref nw, .ref na, .ref nq, .ref nr, .int (num ix), .int st, .int tm, .int sr, .int li, .int lp, .int mi])) := (hE43).1
        have kq45 : f28 nq = some (.inl (cI G, 6, .inl gq)) := (hE43).2.1
        obtain ⟨hd47, kr46, hc48⟩ := (hE43).2.2.1
        refine W.eq (g2 := F0 m 20 ls []) rfl ?_
        exact hp_vret B0 hw hS hr ⟨Nat.le_of_ble_eq_true rfl, Nat.le_of_ble_eq_true rfl⟩ dX1_sendStop_20 (⟨rfl, q6, q12, (hN27 _ (List.mem_singleton.mpr rfl)).1, (hN27 _ (List.mem_singleton.mpr rfl)).2, (show EX G f28 en nw na nq nr (st, li, sr, tm, lp, mi, ix, gq, (L ++ [(4, 0, ix, N6)])) (Q ++ [(q6, q12)]) from ⟨ke44, kq45, ⟨_, kr46, hc48⟩, (hE43).2.2.2.1, (hE43).2.2.2.2.1, (hE).2.2.2.2.2⟩), (hK2.trn w7 ((show hK2 [q6, en, nr] Q f f8 from (by rw [ef8]; exact hK2.new w7)).tr (hK2.trn w13 ((show hK2 [q12, q6, en, nr] Q f8 f11 from (by rw [e14]; exact hK2.new w13)).tr ((show hK2 [q12, q6, en, nr] Q f11 f17 from (by rw [e18]; exact hK2.up (List.mem_cons_of_mem _ List.mem_cons_self))).tr (show hK2 [q12, q6, en, nr] Q f17 f28 from (k30.mono (sub_cons (List.mem_cons_of_mem _ (List.mem_cons_of_mem _ (List.mem_cons_of_mem _ List.mem_cons_self))) sub_nil))))))))⟩)

set_option maxHeartbeats 4000000 in
set_option maxRecDepth 100000 in
theorem c_X1_finishX {l : Launch} (hl : l.stackTraces = false) (G : hG) (f : hM) (en nw na nq nr : Nat) (st li sr tm lp mi ix : Int32) (gq : Nat → Int32) (L : List Fr) (Q : List (Nat × Nat)) (hE : EX G f en nw na nq nr (st, li, sr, tm, lp, mi, ix, gq, L) Q) (hn : Q.length < 3900) : CT l yX1_finish (.code yX1_finish cX1_finish 2 (some .int)) 3 63 2 11 G [.ref en] f (fun v f1 => v = some (.int st) ∧ XP G f f1 en nw na nq nr Q (closeS (st, li, sr, tm, lp, mi, ix, gq, L))) (fun E f1 => False) := by
  refine hp_start hl (own := RX1) (by decide) rfl (Nat.le_of_ble_eq_true rfl) ?_
  intro p e s m args below meth c B0 hr hnm hout hw hS ls hl9
  have hx := B0.1
  have hb := B0.2.1
  have hl9 : lv_has ls 2 [(0, .ref en)] := hl9
  have ke1 : f en = some (.inr (1, [.ref nw, .ref na, .ref nq, .ref nr, .int (num ix), .int st, .int tm, .int sr, .int li, .int lp, .int mi])) := (hE).1
  have kq2 : f nq = some (.inl (cI G, 6, .inl gq)) := (hE).2.1
  obtain ⟨hd4, kr3, hc5⟩ := (hE).2.2.1
  refine lv_aload_n hx hb dX1_finish_0 rfl (lv_at hl9 0 rfl) ?_
  refine hp_get B0 hw 1 rfl in_X1 ke1 5 (by decide) qF_X1_28 rfl dX1_finish_1 ?_
  refine lv_istore_n (lv' := [(1, .int st), (0, .ref en)]) hx hb dX1_finish_4 rfl hl9 (by decide) rfl (fun ls hl9 => ?_)
  refine lv_aload_n hx hb dX1_finish_5 rfl (lv_at hl9 1 rfl) ?_
  refine hp_V (ci := 1) (As := []) (rest := []) B0 hw hS (c_X1_sendStopX hl G f en nw na nq nr st li sr tm lp mi ix gq L Q (show EX G f en nw na nq nr (st, li, sr, tm, lp, mi, ix, gq, L) Q from ⟨ke1, kq2, ⟨_, kr3, hc5⟩, (hE).2.2.2.1, (hE).2.2.2.2.1, (hE).2.2.2.2.2⟩) (Nat.lt_trans hn (by decide))) mV_X1_sendStop qM_X1_67 rfl ke1 rfl rfl hl9.1 (Nat.le_of_ble_eq_true rfl) ⟨⟨Nat.le_of_ble_eq_true rfl, Nat.le_of_ble_eq_true rfl⟩, Nat.le_of_ble_eq_true rfl, Nat.le_of_ble_eq_true rfl⟩ dX1_finish_6 (fun E ce q9 f6 H locs hPX hw hS hce hcv hcl => ?_) (fun v f6 H locs hP hw hS => ?_)
  · exact hPX.elim
  · obtain ⟨ev9, w7, u8, hw10, hu11, hE12, k13⟩ := hP
    subst ev9
    have hN14 : ∀ c9 ∈ [(w7, u8)], f c9.1 = none ∧ f c9.2 = none := fun c9 hc9 => by rw [List.mem_singleton.mp hc9]; exact ⟨hw10, hu11⟩
    have ke15 : f6 en = some (.inr (1, [.ref nw, .ref na, .ref nq, .ref nr, .int (num ix), .int st, .int tm, .int sr, .int li, .int lp, .int mi])) := (hE12).1
    have kq16 : f6 nq = some (.inl (cI G, 6, .inl gq)) := (hE12).2.1
    obtain ⟨hd18, kr17, hc19⟩ := (hE12).2.2.1
    refine W.eq (g2 := F0 m 9 ls []) rfl ?_
    refine lv_aload_n hx hb dX1_finish_9 rfl (lv_at hl9 1 rfl) ?_
    refine lv_iconst (v := 0) hx hb dX1_finish_10 (by decide) ?_
    refine hp_put (fs1 := [.ref nw, .ref na, .ref nq, .ref nr, .int (num ix), .int 0, .int tm, .int sr, .int li, .int lp, .int mi]) (ty := .int) B0 hw hS 1 rfl in_X1 tyX1 tyX1_ok nmX1 ke15 5 (by decide) qF_X1_28 rfl (by decide +kernel) rfl rfl (Nat.le_of_ble_eq_true rfl) rfl dX1_finish_11 (fun H locs f20 ef20 hw hS => ?_)
    have h21 : f20 en = some (.inr (1, [.ref nw, .ref na, .ref nq, .ref nr, .int (num ix), .int 0, .int tm, .int sr, .int li, .int lp, .int mi])) := by rw [ef20, va_up_self]
    refine lv_iload_n hx hb dX1_finish_14 rfl (lv_at hl9 0 rfl) ?_
    have n23 : nq ≠ en := hne kq2 ke1 (Nat.ne_of_beq_eq_false rfl)
    have h22 : f20 nq = some (.inl (cI G, 6, .inl gq)) := by rw [ef20, va_up_ne _ _ n23]; exact kq16
    have n25 : nr ≠ en := hne kr3 ke1 (Nat.ne_of_beq_eq_false rfl)
    have h24 : f20 nr = some (.inr (3, [hd18, (lastV (Q ++ [(w7, u8)])), .int (nI ((Q ++ [(w7, u8)])).length)])) := by rw [ef20, va_up_ne _ _ n25]; exact kr17
    exact hp_iret (v := st) B0 hw hS hr ⟨Nat.le_of_ble_eq_true rfl, Nat.le_of_ble_eq_true rfl⟩ dX1_finish_15 (⟨rfl, ⟨_, hN14, (by rw [show closeS (st, li, sr, tm, lp, mi, ix, gq, L) = (0, li, sr, tm, lp, mi, ix, gq, (L ++ [(4, 0, ix, N6)])) from rfl]; exact (show EX G f20 en nw na nq nr (0, li, sr, tm, lp, mi, ix, gq, (L ++ [(4, 0, ix, N6)])) (Q ++ [(w7, u8)]) from ⟨h21, h22, ⟨_, h24, (CH.kp (show hK2 [en, nq, nr] [] f6 f20 from (by rw [ef20]; exact hK2.up List.mem_cons_self)) hc19 (EX.cu (hE12)) (EX.sf (hE12)))⟩, (hE12).2.2.2.1, (hE12).2.2.2.2.1, (hE).2.2.2.2.2⟩)), ((show hK2 [en, nq, nr] Q f f6 from (k13.mono (sub_cons List.mem_cons_self (sub_cons (List.mem_cons_of_mem _ (List.mem_cons_of_mem _ List.mem_cons_self)) sub_nil)))).trq (show hK2 [en, nq, nr] (Q ++ [(w7, u8)]) f6 f20 from (by rw [ef20]; exact hK2.up List.mem_cons_self)) (fun c9 h9 => Or.inl (hN14 c9 h9).1))⟩⟩)

theorem cpy_eq {gw gq : Nat → Int32} : va_cpy gw gq (0 : Int32).toNatClampNeg (0 : Int32).toNatClampNeg (6 : Int32).toNatClampNeg = cpyF gw gq := by
  funext j
  rw [cl0, cl6]
  unfold cpyF
  by_cases h : j < 6
  · rw [pk_cpy_in (Nat.zero_le _) (by omega), if_pos h]; congr 1; omega
  · rw [pk_cpy_out (Or.inr (by omega)), if_neg h]
set_option maxHeartbeats 4000000 in
set_option maxRecDepth 100000 in
theorem c_X1_beginX {l : Launch} (hl : l.stackTraces = false) (G : hG) (f : hM) (en nw na nq nr : Nat) (st li sr tm lp mi ix : Int32) (gq : Nat → Int32) (L : List Fr) (Q : List (Nat × Nat)) (hE : EX G f en nw na nq nr (st, li, sr, tm, lp, mi, ix, gq, L) Q) (hn : Q.length < 3900) (gw : Nat → Int32) (k_nw : f nw = some (.inl (cI G, 6, .inl gw))) (hwq : nw ≠ nq) : CT l yX1_begin (.code yX1_begin cX1_begin 1 (some .int)) 3 57 2 11 G [.ref en] f (fun v f1 => v = some (.int (li + 1)) ∧ XP G f f1 en nw na nq nr Q (openS gw (st, li, sr, tm, lp, mi, ix, gq, L))) (fun E f1 => False) := by
  refine hp_start hl (own := RX1) (by decide) rfl (Nat.le_of_ble_eq_true rfl) ?_
  intro p e s m args below meth c B0 hr hnm hout hw hS ls hl9
  have hx := B0.1
  have hb := B0.2.1
  have hl9 : lv_has ls 1 [(0, .ref en)] := hl9
  have ke1 : f en = some (.inr (1, [.ref nw, .ref na, .ref nq, .ref nr, .int (num ix), .int st, .int tm, .int sr, .int li, .int lp, .int mi])) := (hE).1
  have kq2 : f nq = some (.inl (cI G, 6, .inl gq)) := (hE).2.1
  obtain ⟨hd4, kr3, hc5⟩ := (hE).2.2.1
  refine lv_aload_n hx hb dX1_begin_0 rfl (lv_at hl9 0 rfl) ?_
  refine hp_get B0 hw 1 rfl in_X1 ke1 0 (by decide) qF_X1_9 rfl dX1_begin_1 ?_
  refine lv_iconst (v := 0) hx hb dX1_begin_4 (by decide) ?_
  refine lv_aload_n hx hb dX1_begin_5 rfl (lv_at hl9 0 rfl) ?_
  refine hp_get B0 hw 1 rfl in_X1 ke1 2 (by decide) qF_X1_18 rfl dX1_begin_6 ?_
  refine lv_iconst (v := 0) hx hb dX1_begin_9 (by decide) ?_
  refine lv_bipush (v := 6) hx hb dX1_begin_10 (by decide) ?_
  refine hp_copyI (rest := []) B0 hw hS hl9.1 qM_X1_57 qV_arraycopy qs_arraycopy qN_java_lang_System k_nw kq2 (by decide) (by decide) (by decide) (by decide) (by decide) ⟨Nat.le_of_ble_eq_true rfl, Nat.le_of_ble_eq_true rfl⟩ dX1_begin_12 (fun H locs f6 ef6 hw hS => ?_)
  rw [show va_cpy gw gq (0 : Int32).toNatClampNeg (0 : Int32).toNatClampNeg (6 : Int32).toNatClampNeg = cpyF gw gq from cpy_eq] at ef6
  have h7 : f6 nq = some (.inl (cI G, 6, .inl (cpyF gw gq))) := by rw [ef6, va_up_self]
  refine lv_aload_n hx hb dX1_begin_15 rfl (lv_at hl9 0 rfl) ?_
  refine lv_iconst (v := 0) hx hb dX1_begin_16 (by decide) ?_
  have n10 : en ≠ nq := hne ke1 kq2 (Nat.ne_of_beq_eq_false rfl)
  have h8 : f6 en = some (.inr (1, [.ref nw, .ref na, .ref nq, .ref nr, .int (num ix), .int st, .int tm, .int sr, .int li, .int lp, .int mi])) := by rw [ef6, va_up_ne _ _ n10]; exact ke1
  refine hp_put (fs1 := [.ref nw, .ref na, .ref nq, .ref nr, .int (num ix), .int st, .int tm, .int 0, .int li, .int lp, .int mi]) (ty := .int) B0 hw hS 1 rfl in_X1 tyX1 tyX1_ok nmX1 h8 7 (by decide) qF_X1_35 rfl (by decide +kernel) rfl rfl (Nat.le_of_ble_eq_true rfl) rfl dX1_begin_17 (fun H locs f11 ef11 hw hS => ?_)
  have h12 : f11 en = some (.inr (1, [.ref nw, .ref na, .ref nq, .ref nr, .int (num ix), .int st, .int tm, .int 0, .int li, .int lp, .int mi])) := by rw [ef11, va_up_self]
  refine lv_aload_n hx hb dX1_begin_20 rfl (lv_at hl9 0 rfl) ?_
  refine lv_iconst (v := 1) hx hb dX1_begin_21 (by decide) ?_
  refine hp_put (fs1 := [.ref nw, .ref na, .ref nq, .ref nr, .int (num ix), .int 1, .int tm, .int 0, .int li, .int lp, .int mi]) (ty := .int) B0 hw hS 1 rfl in_X1 tyX1 tyX1_ok nmX1 h12 5 (by decide) qF_X1_28 rfl (by decide +kernel) rfl rfl (Nat.le_of_ble_eq_true rfl) rfl dX1_begin_22 (fun H locs f13 ef13 hw hS => ?_)
  have e14 : f13 = va_up f6 en (some (.inr (1, [.ref nw, .ref na, .ref nq, .ref nr, .int (num ix), .int 1, .int tm, .int 0, .int li, .int lp, .int mi]))) := by rw [ef13, ef11, bx_uu]
  have h15 : f13 en = some (.inr (1, [.ref nw, .ref na, .ref nq, .ref nr, .int (num ix), .int 1, .int tm, .int 0, .int li, .int lp, .int mi])) := by rw [ef13, va_up_self]
  refine lv_aload_n hx hb dX1_begin_25 rfl (lv_at hl9 0 rfl) ?_
  have h16 : f13 nq = some (.inl (cI G, 6, .inl (cpyF gw gq))) := by rw [e14, va_up_ne _ _ (Ne.symm n10)]; exact h7
  have n18 : nr ≠ nq := hne kr3 kq2 (Nat.ne_of_beq_eq_false rfl)
  have h17 : f6 nr = some (.inr (3, [hd4, (lastV Q), .int (nI (Q).length)])) := by rw [ef6, va_up_ne _ _ n18]; exact kr3
  have n20 : nr ≠ en := hne kr3 ke1 (Nat.ne_of_beq_eq_false rfl)
  have h19 : f13 nr = some (.inr (3, [hd4, (lastV Q), .int (nI (Q).length)])) := by rw [e14, va_up_ne _ _ n20]; exact h17
  refine hp_V (ci := 1) (As := []) (rest := []) B0 hw hS (c_X1_askX hl G f13 en nw na nq nr 1 li 0 tm lp mi ix (cpyF gw gq) L Q (show EX G f13 en nw na nq nr (1, li, 0, tm, lp, mi, ix, (cpyF gw gq), L) Q from ⟨h15, h16, ⟨_, h19, (CH.kp ((show hK2 [en, nq, nr] [] f f6 from (by rw [ef6]; exact hK2.up (List.mem_cons_of_mem _ List.mem_cons_self))).tr (show hK2 [en, nq, nr] [] f6 f13 from (by rw [e14]; exact hK2.up List.mem_cons_self))) hc5 (EX.cu (hE)) (EX.sf (hE)))⟩, (hE).2.2.2.1, (hE).2.2.2.2.1, (hE).2.2.2.2.2⟩) (Nat.lt_trans hn (by decide))) mV_X1_ask qM_X1_63 rfl h15 rfl rfl hl9.1 (Nat.le_of_ble_eq_true rfl) ⟨⟨Nat.le_of_ble_eq_true rfl, Nat.le_of_ble_eq_true rfl⟩, Nat.le_of_ble_eq_true rfl, Nat.le_of_ble_eq_true rfl⟩ dX1_begin_26 (fun E ce q9 f21 H locs hPX hw hS hce hcv hcl => ?_) (fun v f21 H locs hP hw hS => ?_)
  · exact hPX.elim
  · rcases hP with ⟨c22, ev9, w23, u24, hw25, hu26, hE27, k28⟩ | ⟨c22, ev9, hE27, k28⟩
    · subst ev9
      have hN29 : ∀ c9 ∈ [(w23, u24)], f13 c9.1 = none ∧ f13 c9.2 = none := fun c9 hc9 => by rw [List.mem_singleton.mp hc9]; exact ⟨hw25, hu26⟩
      have ke30 : f21 en = some (.inr (1, [.ref nw, .ref na, .ref nq, .ref nr, .int (num ix), .int 1, .int 3, .int (0 + 1), .int (li + 1), .int lp, .int mi])) := (hE27).1
      have kq31 : f21 nq = some (.inl (cI G, 6, .inl (cpyF gw gq))) := (hE27).2.1
      obtain ⟨hd33, kr32, hc34⟩ := (hE27).2.2.1
      refine W.eq (g2 := F0 m 29 ls [.int 1]) rfl ?_
      refine lv_pop hx hb dX1_begin_29 rfl ?_
      refine lv_aload_n hx hb dX1_begin_30 rfl (lv_at hl9 0 rfl) ?_
      refine hp_get B0 hw 1 rfl in_X1 ke30 8 (by decide) qF_X1_38 rfl dX1_begin_31 ?_
      exact hp_iret (v := (li + 1)) B0 hw hS hr ⟨Nat.le_of_ble_eq_true rfl, Nat.le_of_ble_eq_true rfl⟩ dX1_begin_34 (⟨rfl, ⟨_, (fun c9 h9 => ⟨((show hK2 [nq, en] [] f f6 from (by rw [ef6]; exact hK2.up List.mem_cons_self)).tr (show hK2 [nq, en] [] f6 f13 from (by rw [e14]; exact hK2.up (List.mem_cons_of_mem _ List.mem_cons_self)))).1 _ (hN29 c9 h9).1, ((show hK2 [nq, en] [] f f6 from (by rw [ef6]; exact hK2.up List.mem_cons_self)).tr (show hK2 [nq, en] [] f6 f13 from (by rw [e14]; exact hK2.up (List.mem_cons_of_mem _ List.mem_cons_self)))).1 _ (hN29 c9 h9).2⟩), (by rw [show openS gw (st, li, sr, tm, lp, mi, ix, gq, L) = (1, (li + 1), (0 + 1), 3, lp, mi, ix, (cpyF gw gq), (L ++ [(0, li + 1, ix, (cpyF gw gq))])) from rfl]; exact (show EX G f21 en nw na nq nr (1, (li + 1), (0 + 1), 3, lp, mi, ix, (cpyF gw gq), (L ++ [(0, li + 1, ix, (cpyF gw gq))])) (Q ++ [(w23, u24)]) from ⟨ke30, kq31, ⟨_, kr32, hc34⟩, (hE27).2.2.2.1, (hE27).2.2.2.2.1, (hE).2.2.2.2.2⟩)), ((show hK2 [en, nq, nr] Q f f6 from (by rw [ef6]; exact hK2.up (List.mem_cons_of_mem _ List.mem_cons_self))).tr ((show hK2 [en, nq, nr] Q f6 f13 from (by rw [e14]; exact hK2.up List.mem_cons_self)).tr (show hK2 [en, nq, nr] Q f13 f21 from (k28.mono (sub_cons List.mem_cons_self (sub_cons (List.mem_cons_of_mem _ (List.mem_cons_of_mem _ List.mem_cons_self)) sub_nil))))))⟩⟩)
    · exact absurd (by decide) c22

set_option maxHeartbeats 4000000 in
set_option maxRecDepth 100000 in
theorem c_X1_tickX {l : Launch} (hl : l.stackTraces = false) (G : hG) (f : hM) (en nw na nq nr : Nat) (st li sr tm lp mi ix : Int32) (gq : Nat → Int32) (L : List Fr) (Q : List (Nat × Nat)) (hE : EX G f en nw na nq nr (st, li, sr, tm, lp, mi, ix, gq, L) Q) (hn : Q.length < 3900) : CT l yX1_tick (.code yX1_tick cX1_tick 1 (some .boolean)) 3 57 2 11 G [.ref en] f (fun v f1 => v = some (.int (tickV (st, li, sr, tm, lp, mi, ix, gq, L))) ∧ XP G f f1 en nw na nq nr Q (tickS (st, li, sr, tm, lp, mi, ix, gq, L))) (fun E f1 => False) := by
  refine hp_start hl (own := RX1) (by decide) rfl (Nat.le_of_ble_eq_true rfl) ?_
  intro p e s m args below meth c B0 hr hnm hout hw hS ls hl9
  have hx := B0.1
  have hb := B0.2.1
  have hl9 : lv_has ls 1 [(0, .ref en)] := hl9
  have ke1 : f en = some (.inr (1, [.ref nw, .ref na, .ref nq, .ref nr, .int (num ix), .int st, .int tm, .int sr, .int li, .int lp, .int mi])) := (hE).1
  have kq2 : f nq = some (.inl (cI G, 6, .inl gq)) := (hE).2.1
  obtain ⟨hd4, kr3, hc5⟩ := (hE).2.2.1
  refine lv_aload_n hx hb dX1_tick_0 rfl (lv_at hl9 0 rfl) ?_
  refine hp_get B0 hw 1 rfl in_X1 ke1 5 (by decide) qF_X1_28 rfl dX1_tick_1 ?_
  refine lv_if_eq (tgt := 15) hx hb dX1_tick_4 (by decide) (fun c6 => ?_) (fun c6 => ?_)
  · refine lv_iconst (v := 0) hx hb dX1_tick_15 (by decide) ?_
    exact hp_zret (v := 0) B0 hw hS hr ⟨Nat.le_of_ble_eq_true rfl, Nat.le_of_ble_eq_true rfl⟩ (rfl) dX1_tick_16 (⟨(by rw [(show tickV (st, li, sr, tm, lp, mi, ix, gq, L) = 0 from if_pos (Or.inl c6))]), (XP.zero (by rw [show tickS (st, li, sr, tm, lp, mi, ix, gq, L) = (st, li, sr, tm, lp, mi, ix, gq, L) from if_pos (Or.inl c6)]; exact (show EX G f en nw na nq nr (st, li, sr, tm, lp, mi, ix, gq, L) Q from ⟨ke1, kq2, ⟨_, kr3, hc5⟩, (hE).2.2.2.1, (hE).2.2.2.2.1, (hE).2.2.2.2.2⟩)) hK2.rf)⟩)
  · refine lv_aload_n hx hb dX1_tick_7 rfl (lv_at hl9 0 rfl) ?_
    refine hp_get B0 hw 1 rfl in_X1 ke1 5 (by decide) qF_X1_28 rfl dX1_tick_8 ?_
    refine lv_iconst (v := 4) hx hb dX1_tick_11 (by decide) ?_
    refine lv_icmp_ne (tgt := 17) hx hb dX1_tick_12 (by decide) (fun c7 => ?_) (fun c7 => ?_)
    · refine lv_aload_n hx hb dX1_tick_17 rfl (lv_at hl9 0 rfl) ?_
      refine lv_dup hx hb dX1_tick_18 rfl ?_
      refine hp_get B0 hw 1 rfl in_X1 ke1 6 (by decide) qF_X1_32 rfl dX1_tick_19 ?_
      refine lv_iconst (v := 1) hx hb dX1_tick_22 (by decide) ?_
      refine lv_isub hx hb dX1_tick_23 ?_
      refine hp_put (fs1 := [.ref nw, .ref na, .ref nq, .ref nr, .int (num ix), .int st, .int (tm - 1), .int sr, .int li, .int lp, .int mi]) (ty := .int) B0 hw hS 1 rfl in_X1 tyX1 tyX1_ok nmX1 ke1 6 (by decide) qF_X1_32 rfl (by decide +kernel) rfl rfl (Nat.le_of_ble_eq_true rfl) rfl dX1_tick_24 (fun H locs f8 ef8 hw hS => ?_)
      have h10 : f8 en = some (.inr (1, [.ref nw, .ref na, .ref nq, .ref nr, .int (num ix), .int st, .int (tm - 1), .int sr, .int li, .int lp, .int mi])) := by rw [ef8, va_up_self]
      refine lv_aload_n hx hb dX1_tick_27 rfl (lv_at hl9 0 rfl) ?_
      refine hp_get B0 hw 1 rfl in_X1 h10 6 (by decide) qF_X1_32 rfl dX1_tick_28 ?_
      refine lv_if_le (tgt := 36) hx hb dX1_tick_31 (by decide) (fun c11 => ?_) (fun c11 => ?_)
      · refine lv_aload_n hx hb dX1_tick_36 rfl (lv_at hl9 0 rfl) ?_
        refine hp_get B0 hw 1 rfl in_X1 h10 5 (by decide) qF_X1_28 rfl dX1_tick_37 ?_
        refine lv_iconst (v := 2) hx hb dX1_tick_40 (by decide) ?_
        refine lv_icmp_ne (tgt := 49) hx hb dX1_tick_41 (by decide) (fun c12 => ?_) (fun c12 => ?_)
        · refine lv_aload_n hx hb dX1_tick_49 rfl (lv_at hl9 0 rfl) ?_
          have n14 : nq ≠ en := hne kq2 ke1 (Nat.ne_of_beq_eq_false rfl)
          have h13 : f8 nq = some (.inl (cI G, 6, .inl gq)) := by rw [ef8, va_up_ne _ _ n14]; exact kq2
          have n16 : nr ≠ en := hne kr3 ke1 (Nat.ne_of_beq_eq_false rfl)
          have h15 : f8 nr = some (.inr (3, [hd4, (lastV Q), .int (nI (Q).length)])) := by rw [ef8, va_up_ne _ _ n16]; exact kr3
          refine hp_V (ci := 1) (As := []) (rest := []) B0 hw hS (c_X1_askX hl G f8 en nw na nq nr st li sr (tm - 1) lp mi ix gq L Q (show EX G f8 en nw na nq nr (st, li, sr, (tm - 1), lp, mi, ix, gq, L) Q from ⟨h10, h13, ⟨_, h15, (CH.kp (show hK2 [en, nq, nr] [] f f8 from (by rw [ef8]; exact hK2.up List.mem_cons_self)) hc5 (EX.cu (hE)) (EX.sf (hE)))⟩, (hE).2.2.2.1, (hE).2.2.2.2.1, (hE).2.2.2.2.2⟩) (Nat.lt_trans hn (by decide))) mV_X1_ask qM_X1_63 rfl h10 rfl rfl hl9.1 (Nat.le_of_ble_eq_true rfl) ⟨⟨Nat.le_of_ble_eq_true rfl, Nat.le_of_ble_eq_true rfl⟩, Nat.le_of_ble_eq_true rfl, Nat.le_of_ble_eq_true rfl⟩ dX1_tick_50 (fun E ce q9 f17 H locs hPX hw hS hce hcv hcl => ?_) (fun v f17 H locs hP hw hS => ?_)
          · exact hPX.elim
          · rcases hP with ⟨c18, ev9, w19, u20, hw21, hu22, hE23, k24⟩ | ⟨c18, ev9, hE23, k24⟩
            · subst ev9
              have hN25 : ∀ c9 ∈ [(w19, u20)], f8 c9.1 = none ∧ f8 c9.2 = none := fun c9 hc9 => by rw [List.mem_singleton.mp hc9]; exact ⟨hw21, hu22⟩
              have ke26 : f17 en = some (.inr (1, [.ref nw, .ref na, .ref nq, .ref nr, .int (num ix), .int st, .int 3, .int (sr + 1), .int (li + 1), .int lp, .int mi])) := (hE23).1
              have kq27 : f17 nq = some (.inl (cI G, 6, .inl gq)) := (hE23).2.1
              obtain ⟨hd29, kr28, hc30⟩ := (hE23).2.2.1
              refine W.eq (g2 := F0 m 53 ls [.int 1]) rfl ?_
              exact hp_zret (v := 1) B0 hw hS hr ⟨Nat.le_of_ble_eq_true rfl, Nat.le_of_ble_eq_true rfl⟩ (rfl) dX1_tick_53 (⟨(by rw [(show tickV (st, li, sr, tm, lp, mi, ix, gq, L) = 1 from ((if_neg (fun h9 => h9.elim c6 c7)).trans (if_pos c11)).trans (if_pos c18))]), ⟨_, (fun c9 h9 => ⟨(show hK2 [en] [] f f8 from (by rw [ef8]; exact hK2.up List.mem_cons_self)).1 _ (hN25 c9 h9).1, (show hK2 [en] [] f f8 from (by rw [ef8]; exact hK2.up List.mem_cons_self)).1 _ (hN25 c9 h9).2⟩), (by rw [show tickS (st, li, sr, tm, lp, mi, ix, gq, L) = (st, (li + 1), (sr + 1), 3, lp, mi, ix, gq, (L ++ [(0, li + 1, ix, gq)])) from ((if_neg (fun h9 => h9.elim c6 c7)).trans (if_pos c11)).trans (by rw [if_neg c12]; exact if_pos c18)]; exact (show EX G f17 en nw na nq nr (st, (li + 1), (sr + 1), 3, lp, mi, ix, gq, (L ++ [(0, li + 1, ix, gq)])) (Q ++ [(w19, u20)]) from ⟨ke26, kq27, ⟨_, kr28, hc30⟩, (hE23).2.2.2.1, (hE23).2.2.2.2.1, (hE).2.2.2.2.2⟩)), ((show hK2 [en, nq, nr] Q f f8 from (by rw [ef8]; exact hK2.up List.mem_cons_self)).tr (show hK2 [en, nq, nr] Q f8 f17 from (k24.mono (sub_cons List.mem_cons_self (sub_cons (List.mem_cons_of_mem _ (List.mem_cons_of_mem _ List.mem_cons_self)) sub_nil)))))⟩⟩)
            · subst ev9
              have ke31 : f17 en = some (.inr (1, [.ref nw, .ref na, .ref nq, .ref nr, .int (num ix), .int 0, .int (tm - 1), .int sr, .int li, .int lp, .int mi])) := (hE23).1
              have kq32 : f17 nq = some (.inl (cI G, 6, .inl gq)) := (hE23).2.1
              obtain ⟨hd34, kr33, hc35⟩ := (hE23).2.2.1
              refine W.eq (g2 := F0 m 53 ls [.int 0]) rfl ?_
              exact hp_zret (v := 0) B0 hw hS hr ⟨Nat.le_of_ble_eq_true rfl, Nat.le_of_ble_eq_true rfl⟩ (rfl) dX1_tick_53 (⟨(by rw [(show tickV (st, li, sr, tm, lp, mi, ix, gq, L) = 0 from ((if_neg (fun h9 => h9.elim c6 c7)).trans (if_pos c11)).trans (if_neg c18))]), (XP.zero (by rw [show tickS (st, li, sr, tm, lp, mi, ix, gq, L) = (0, li, sr, (tm - 1), lp, mi, ix, gq, L) from ((if_neg (fun h9 => h9.elim c6 c7)).trans (if_pos c11)).trans (by rw [if_neg c12]; exact if_neg c18)]; exact (show EX G f17 en nw na nq nr (0, li, sr, (tm - 1), lp, mi, ix, gq, L) Q from ⟨ke31, kq32, ⟨_, kr33, hc35⟩, (hE23).2.2.2.1, (hE23).2.2.2.2.1, (hE).2.2.2.2.2⟩)) ((show hK2 [en, nq, nr] Q f f8 from (by rw [ef8]; exact hK2.up List.mem_cons_self)).tr (show hK2 [en, nq, nr] Q f8 f17 from (k24.mono (sub_cons List.mem_cons_self (sub_cons (List.mem_cons_of_mem _ (List.mem_cons_of_mem _ List.mem_cons_self)) sub_nil))))))⟩)
        · refine lv_aload_n hx hb dX1_tick_44 rfl (lv_at hl9 0 rfl) ?_
          refine lv_iconst (v := 1) hx hb dX1_tick_45 (by decide) ?_
          refine hp_put (fs1 := [.ref nw, .ref na, .ref nq, .ref nr, .int (num ix), .int 1, .int (tm - 1), .int sr, .int li, .int lp, .int mi]) (ty := .int) B0 hw hS 1 rfl in_X1 tyX1 tyX1_ok nmX1 h10 5 (by decide) qF_X1_28 rfl (by decide +kernel) rfl rfl (Nat.le_of_ble_eq_true rfl) rfl dX1_tick_46 (fun H locs f36 ef36 hw hS => ?_)
          have e37 : f36 = va_up f en (some (.inr (1, [.ref nw, .ref na, .ref nq, .ref nr, .int (num ix), .int 1, .int (tm - 1), .int sr, .int li, .int lp, .int mi]))) := by rw [ef36, ef8, bx_uu]
          have h38 : f36 en = some (.inr (1, [.ref nw, .ref na, .ref nq, .ref nr, .int (num ix), .int 1, .int (tm - 1), .int sr, .int li, .int lp, .int mi])) := by rw [ef36, va_up_self]
          refine lv_aload_n hx hb dX1_tick_49 rfl (lv_at hl9 0 rfl) ?_
          have n40 : nq ≠ en := hne kq2 ke1 (Nat.ne_of_beq_eq_false rfl)
          have h39 : f36 nq = some (.inl (cI G, 6, .inl gq)) := by rw [e37, va_up_ne _ _ n40]; exact kq2
          have n42 : nr ≠ en := hne kr3 ke1 (Nat.ne_of_beq_eq_false rfl)
          have h41 : f36 nr = some (.inr (3, [hd4, (lastV Q), .int (nI (Q).length)])) := by rw [e37, va_up_ne _ _ n42]; exact kr3
          refine hp_V (ci := 1) (As := []) (rest := []) B0 hw hS (c_X1_askX hl G f36 en nw na nq nr 1 li sr (tm - 1) lp mi ix gq L Q (show EX G f36 en nw na nq nr (1, li, sr, (tm - 1), lp, mi, ix, gq, L) Q from ⟨h38, h39, ⟨_, h41, (CH.kp (show hK2 [en, nq, nr] [] f f36 from (by rw [e37]; exact hK2.up List.mem_cons_self)) hc5 (EX.cu (hE)) (EX.sf (hE)))⟩, (hE).2.2.2.1, (hE).2.2.2.2.1, (hE).2.2.2.2.2⟩) (Nat.lt_trans hn (by decide))) mV_X1_ask qM_X1_63 rfl h38 rfl rfl hl9.1 (Nat.le_of_ble_eq_true rfl) ⟨⟨Nat.le_of_ble_eq_true rfl, Nat.le_of_ble_eq_true rfl⟩, Nat.le_of_ble_eq_true rfl, Nat.le_of_ble_eq_true rfl⟩ dX1_tick_50 (fun E ce q9 f43 H locs hPX hw hS hce hcv hcl => ?_) (fun v f43 H locs hP hw hS => ?_)
          · exact hPX.elim
          · rcases hP with ⟨c44, ev9, w45, u46, hw47, hu48, hE49, k50⟩ | ⟨c44, ev9, hE49, k50⟩
            · subst ev9
              have hN51 : ∀ c9 ∈ [(w45, u46)], f36 c9.1 = none ∧ f36 c9.2 = none := fun c9 hc9 => by rw [List.mem_singleton.mp hc9]; exact ⟨hw47, hu48⟩
              have ke52 : f43 en = some (.inr (1, [.ref nw, .ref na, .ref nq, .ref nr, .int (num ix), .int 1, .int 3, .int (sr + 1), .int (li + 1), .int lp, .int mi])) := (hE49).1
              have kq53 : f43 nq = some (.inl (cI G, 6, .inl gq)) := (hE49).2.1
              obtain ⟨hd55, kr54, hc56⟩ := (hE49).2.2.1
              refine W.eq (g2 := F0 m 53 ls [.int 1]) rfl ?_
              exact hp_zret (v := 1) B0 hw hS hr ⟨Nat.le_of_ble_eq_true rfl, Nat.le_of_ble_eq_true rfl⟩ (rfl) dX1_tick_53 (⟨(by rw [(show tickV (st, li, sr, tm, lp, mi, ix, gq, L) = 1 from ((if_neg (fun h9 => h9.elim c6 c7)).trans (if_pos c11)).trans (if_pos c44))]), ⟨_, (fun c9 h9 => ⟨(show hK2 [en] [] f f36 from (by rw [e37]; exact hK2.up List.mem_cons_self)).1 _ (hN51 c9 h9).1, (show hK2 [en] [] f f36 from (by rw [e37]; exact hK2.up List.mem_cons_self)).1 _ (hN51 c9 h9).2⟩), (by rw [show tickS (st, li, sr, tm, lp, mi, ix, gq, L) = (1, (li + 1), (sr + 1), 3, lp, mi, ix, gq, (L ++ [(0, li + 1, ix, gq)])) from ((if_neg (fun h9 => h9.elim c6 c7)).trans (if_pos c11)).trans (by rw [if_pos c12]; exact if_pos c44)]; exact (show EX G f43 en nw na nq nr (1, (li + 1), (sr + 1), 3, lp, mi, ix, gq, (L ++ [(0, li + 1, ix, gq)])) (Q ++ [(w45, u46)]) from ⟨ke52, kq53, ⟨_, kr54, hc56⟩, (hE49).2.2.2.1, (hE49).2.2.2.2.1, (hE).2.2.2.2.2⟩)), ((show hK2 [en, nq, nr] Q f f36 from (by rw [e37]; exact hK2.up List.mem_cons_self)).tr (show hK2 [en, nq, nr] Q f36 f43 from (k50.mono (sub_cons List.mem_cons_self (sub_cons (List.mem_cons_of_mem _ (List.mem_cons_of_mem _ List.mem_cons_self)) sub_nil)))))⟩⟩)
            · subst ev9
              have ke57 : f43 en = some (.inr (1, [.ref nw, .ref na, .ref nq, .ref nr, .int (num ix), .int 0, .int (tm - 1), .int sr, .int li, .int lp, .int mi])) := (hE49).1
              have kq58 : f43 nq = some (.inl (cI G, 6, .inl gq)) := (hE49).2.1
              obtain ⟨hd60, kr59, hc61⟩ := (hE49).2.2.1
              refine W.eq (g2 := F0 m 53 ls [.int 0]) rfl ?_
              exact hp_zret (v := 0) B0 hw hS hr ⟨Nat.le_of_ble_eq_true rfl, Nat.le_of_ble_eq_true rfl⟩ (rfl) dX1_tick_53 (⟨(by rw [(show tickV (st, li, sr, tm, lp, mi, ix, gq, L) = 0 from ((if_neg (fun h9 => h9.elim c6 c7)).trans (if_pos c11)).trans (if_neg c44))]), (XP.zero (by rw [show tickS (st, li, sr, tm, lp, mi, ix, gq, L) = (0, li, sr, (tm - 1), lp, mi, ix, gq, L) from ((if_neg (fun h9 => h9.elim c6 c7)).trans (if_pos c11)).trans (by rw [if_pos c12]; exact if_neg c44)]; exact (show EX G f43 en nw na nq nr (0, li, sr, (tm - 1), lp, mi, ix, gq, L) Q from ⟨ke57, kq58, ⟨_, kr59, hc61⟩, (hE49).2.2.2.1, (hE49).2.2.2.2.1, (hE).2.2.2.2.2⟩)) ((show hK2 [en, nq, nr] Q f f36 from (by rw [e37]; exact hK2.up List.mem_cons_self)).tr (show hK2 [en, nq, nr] Q f36 f43 from (k50.mono (sub_cons List.mem_cons_self (sub_cons (List.mem_cons_of_mem _ (List.mem_cons_of_mem _ List.mem_cons_self)) sub_nil))))))⟩)
      · refine lv_iconst (v := 0) hx hb dX1_tick_34 (by decide) ?_
        have n63 : nq ≠ en := hne kq2 ke1 (Nat.ne_of_beq_eq_false rfl)
        have h62 : f8 nq = some (.inl (cI G, 6, .inl gq)) := by rw [ef8, va_up_ne _ _ n63]; exact kq2
        have n65 : nr ≠ en := hne kr3 ke1 (Nat.ne_of_beq_eq_false rfl)
        have h64 : f8 nr = some (.inr (3, [hd4, (lastV Q), .int (nI (Q).length)])) := by rw [ef8, va_up_ne _ _ n65]; exact kr3
        exact hp_zret (v := 0) B0 hw hS hr ⟨Nat.le_of_ble_eq_true rfl, Nat.le_of_ble_eq_true rfl⟩ (rfl) dX1_tick_35 (⟨(by rw [(show tickV (st, li, sr, tm, lp, mi, ix, gq, L) = 0 from (if_neg (fun h9 => h9.elim c6 c7)).trans (if_neg c11))]), (XP.zero (by rw [show tickS (st, li, sr, tm, lp, mi, ix, gq, L) = (st, li, sr, (tm - 1), lp, mi, ix, gq, L) from (if_neg (fun h9 => h9.elim c6 c7)).trans (if_neg c11)]; exact (show EX G f8 en nw na nq nr (st, li, sr, (tm - 1), lp, mi, ix, gq, L) Q from ⟨h10, h62, ⟨_, h64, (CH.kp (show hK2 [en, nq, nr] [] f f8 from (by rw [ef8]; exact hK2.up List.mem_cons_self)) hc5 (EX.cu (hE)) (EX.sf (hE)))⟩, (hE).2.2.2.1, (hE).2.2.2.2.1, (hE).2.2.2.2.2⟩)) (show hK2 [en, nq, nr] Q f f8 from (by rw [ef8]; exact hK2.up List.mem_cons_self)))⟩)
    · refine lv_iconst (v := 0) hx hb dX1_tick_15 (by decide) ?_
      exact hp_zret (v := 0) B0 hw hS hr ⟨Nat.le_of_ble_eq_true rfl, Nat.le_of_ble_eq_true rfl⟩ (rfl) dX1_tick_16 (⟨(by rw [(show tickV (st, li, sr, tm, lp, mi, ix, gq, L) = 0 from if_pos (Or.inr c7))]), (XP.zero (by rw [show tickS (st, li, sr, tm, lp, mi, ix, gq, L) = (st, li, sr, tm, lp, mi, ix, gq, L) from if_pos (Or.inr c7)]; exact (show EX G f en nw na nq nr (st, li, sr, tm, lp, mi, ix, gq, L) Q from ⟨ke1, kq2, ⟨_, kr3, hc5⟩, (hE).2.2.2.1, (hE).2.2.2.2.1, (hE).2.2.2.2.2⟩)) hK2.rf)⟩)

