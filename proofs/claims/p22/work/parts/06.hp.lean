/-! A world is a partial map of addresses to cells; every method of the claim uses the same words and the same two-way contract. -/
section HP
/-- the good words of the tables, one list for every method -/
def gW : List Cond := lw_tbl.filter goodWord
theorem gW_mem (i : Nat) {w : Cond} (h : lw_tbl[i]? = some w) (g : goodWord w = true) : w ∈ gW := List.mem_filter.mpr ⟨List.mem_of_getElem? h, g⟩
theorem gW_all {ws : List Cond} (ps : List Nat) (h : ws = ps.filterMap (fun i => lw_tbl[i]?)) (g : ws.all goodWord = true) : ∀ w ∈ ws, w ∈ gW := by
  intro w hw
  have h1 := List.all_eq_true.mp g w hw
  rw [h] at hw
  obtain ⟨i, -, hi⟩ := List.mem_filterMap.mp hw
  exact gW_mem i hi h1
theorem gW_pay {args : Array Value} {s : State} (hts : ∀ w ∈ gW, w.before args s = true) {hd : Cond} (hhd : hd ∈ gW) : ∀ w ∈ hd :: gW, ∀ (a' : Array Value) (U : State), s.WarmedH U.vm → w.before a' U = true := by
  intro w hw a' U hW
  have hw' : w ∈ gW := by
    rcases List.mem_cons.mp hw with h | h
    · rw [h]; exact hhd
    · exact h
  exact word_at hW (good_of_word (List.mem_filter.mp hw').2) (hts w hw')
/-- the other words -/
def hOw (w : Cond) : Bool := match w with
  | .castable _ _ => true
  | .declares _ => true
  | .fieldLinkNest _ _ _ _ _ _ => true
  | .methodLinkNest _ _ _ _ => true
  | _ => false
theorem hOw_warm {w : Cond} (hm : hOw w = true) {s U : State} (hW : s.WarmedH U.vm) (h : va_Nw w s) : va_Nw w U := by
  cases w <;> first | exact va_Nw.warmC hW h | exact va_Nw.warmD hW h | exact va_Nw.warmF hW h | exact va_Nw.warmM hW h | simp [hOw] at hm
theorem hOw_tabs {w : Cond} (hm : hOw w = true) : w.onTables = true := by
  cases w <;> first | rfl | simp [hOw] at hm
def hOt : List Cond := lw_tbl.filter hOw
def hStr : List (String × Nat × String) := lw_tbl.filterMap (fun w => match w with | .stringRef a k t => some (a, k, t) | _ => none)
abbrev hC : List vw_C := [(RX0, TX0, 9), (RX1, TX1, 11), (RX2, TX2, 5), (RX3, TX3, 3), (RX4, TX4, 3), (RX5, TX5, 27)]
def eI : String := "java/lang/IndexOutOfBoundsException"
def eA : String := "java/lang/IllegalArgumentException"
def eS : String := "java/lang/IllegalStateException"
def hNcs : List (String × String) := [(eI, eA), (eI, eS), (eA, eI), (eA, eS), (eS, eI), (eS, eA)]
abbrev hG : Type := va_G × (ClassId × ClassId × ClassId) × Nat
abbrev cI (G : hG) : ClassId := G.2.1.1
abbrev cZ (G : hG) : ClassId := G.2.1.2.1
abbrev cJ (G : hG) : ClassId := G.2.1.2.2
abbrev hTy (G : hG) : List (ClassId × FieldType) := [(cI G, .int), (cZ G, .boolean), (cJ G, .long)]
def hFr (G : hG) : Nat → Prop := fun q => G.2.2 ≤ q
/-- what the tables, the statics and the strings are, at a method's start -/
def hK (G : hG) (U : State) : Prop :=
  va_K G.1 hC (hTy G) U ∧ vx_Zq Bundle.tN "UNASSIGNED_STACK" Bundle.steD (hFr G) U U.heap ∧ vx_Zq Bundle.tN "SUPPRESSED_SENTINEL" Bundle.listD (hFr G) U U.heap ∧
  (∀ w ∈ hOt, va_Nw w U) ∧ (∀ q ∈ hStr, ∃ sa : Nat, vk_R q.1 q.2.1 q.2.2 sa U) ∧ (∀ q ∈ hNcs, va_Nc q.1 q.2 U) ∧ G.2.2 ≤ U.heap.size
theorem hK.warm {G : hG} {s U : State} (h : hK G s) (hW : s.WarmedH U.vm) (hz : s.heap.size ≤ U.heap.size) (hq : ∀ a : Nat, a < s.heap.size → ¬ hFr G a → U.heap[a]? = s.heap[a]?) : hK G U :=
  ⟨va_K.moved hW.alike h.1, vx_Zq.moved hW.alike (h.2.1.kept hq), vx_Zq.moved hW.alike (h.2.2.1.kept hq), fun w hw => hOw_warm (List.mem_filter.mp hw).2 hW (h.2.2.2.1 w hw),
    fun q hq => by obtain ⟨sa, h9⟩ := h.2.2.2.2.1 q hq; exact ⟨sa, vk_R.warm hW h9⟩, fun q hq => va_Nc.moved hW.alike (h.2.2.2.2.2.1 q hq), Nat.le_trans h.2.2.2.2.2.2 hz⟩
abbrev hM : Type := Nat → Option va_E
/-- the heap holds the map's cells -/
def hW (G : hG) (f : hM) (H : Heap) : Prop := ∃ (L : List Nat) (g : Nat → va_E), (∀ a e, f a = some e → a ∈ L ∧ g a = e) ∧ va_P G.1 hC (va_pl L g) H ∧ va_D (hFr G) (va_pl L g)
/-- the cells of the map outside S stay -/
def hKeep (S : List Nat) (f f1 : hM) : Prop := ∀ a e, f a = some e → a ∉ S → f1 a = some e
theorem hKeep.rf {S : List Nat} {f : hM} : hKeep S f f := fun _ _ h _ => h
theorem hKeep.tr {S : List Nat} {f f1 f2 : hM} (h : hKeep S f f1) (h2 : hKeep S f1 f2) : hKeep S f f2 := fun a e q n => h2 a e (h a e q n) n
theorem hKeep.mono {S T : List Nat} {f f1 : hM} (h : hKeep S f f1) (hs : ∀ a, a ∈ S → a ∈ T) : hKeep T f f1 := fun a e q n => h a e q (fun z => n (hs a z))
theorem hKeep.up {S : List Nat} {f : hM} {a : Nat} {e : Option va_E} (h : a ∈ S) : hKeep S f (va_up f a e) := fun b x q n => by rw [va_up_ne _ _ (fun z => n (by rw [z]; exact h))]; exact q
theorem hKeep.new {S : List Nat} {f : hM} {a : Nat} {e : Option va_E} (h : f a = none) : hKeep S f (va_up f a e) := fun b x q _ => by
  rw [va_up_ne _ _ (fun z => by rw [z, h] at q; cases q)]; exact q
def hTag (e : va_E) : Nat := match e with
  | .inl _ => 0
  | .inr o => o.1 + 1
theorem hne {f : hM} {a b : Nat} {x y : va_E} (ha : f a = some x) (hb : f b = some y) (h : hTag x ≠ hTag y) : a ≠ b := fun e => by
  rw [e, hb] at ha
  cases ha
  exact h rfl
theorem hnew {f : hM} {a q : Nat} {x : va_E} (ha : f a = some x) (hq : f q = none) : a ≠ q := fun e => by
  rw [e, hq] at ha
  cases ha
theorem nin0 {a : Nat} : a ∉ ([] : List Nat) := List.not_mem_nil
theorem ninc {a b : Nat} {l : List Nat} (h : a ≠ b) (t : a ∉ l) : a ∉ b :: l := fun z => (List.mem_cons.mp z).elim h t
/-! what a method owes -/
def hPre (G : hG) (av : List Value) (f : hM) : Array Value → State → Prop := va_Pc av (fun U => hK G U ∧ hW G f U.heap)
def hQ (G : hG) (P : Option Value → hM → Prop) : Array Value → State → Outcome → State → Prop := fun _ st oc t => (∃ (v : Option Value) (f1 : hM), oc = .returned v ∧ P v f1 ∧ hW G f1 t.heap) ∧ va_F (hFr G) st t
def hX (G : hG) (PX : String → hM → Prop) : String → State → State → Prop := fun E st t => (∃ f1 : hM, PX E f1 ∧ hW G f1 t.heap) ∧ va_F (hFr G) st t
theorem hPre.blind {G : hG} {av : List Value} {f : hM} : FrameBlind (hPre G av f) := fun _ U g mk h => ⟨h.1, hK.warm (U := U.calling g mk _) h.2.1 (State.WarmedH.refl U) (Nat.le_refl _) (fun _ _ _ => rfl), h.2.2⟩
def CT (l : Launch) (y : MethodName) (hd : Cond) (fr lo mc ms : Nat) (G : hG) (av : List Value) (f : hM) (P : Option Value → hM → Prop) (PX : String → hM → Prop) : Prop :=
  vx_Met l y (hd :: gW) { frames := fr, cells := mc, slots := ms, locals := lo } (hPre G av f) (hQ G P) (hX G PX) mc ms (hFr G)
def hB (p : Program) (l : Launch) (s : State) (m : MethodId) (args : Array Value) (meth : Method) (c : Code) (cc : ByteArray) (nL : Nat) (own : String) (G : hG) : Prop :=
  p.tables.exec = Jvm.exec ∧ c.code = cc ∧ c.maxLocals = nL ∧ s.vm.findClass own = some m.cls ∧ (∀ w ∈ gW, w.before args s = true) ∧ meth.locks = false ∧ hK G s ∧ l.stackTraces = false
theorem hp_start {l : Launch} (hl : l.stackTraces = false) {own : String} {y : MethodName} {cc : ByteArray} {maxL : Nat} {ret : Option FieldType} {fr lo mc ms : Nat} {G : hG} {av : List Value} {f : hM} {P : Option Value → hM → Prop} {PX : String → hM → Prop}
    (hy : plainName y.cls = true) (ho : y.cls = own) (hlen : (lg_sl av).length ≤ maxL)
    (body : ∀ (p : Program) (e : Env) (s : State) (m : MethodId) (args : Array Value) (below : List Frame) (meth : Method) (c : Code), hB p l s m args meth c cc maxL own G → meth.sig.returnType = ret → meth.name = y.name → (∀ x ∈ c.exceptionTable.toList, False) →
      hW G f s.heap → va_S (hFr G) s.heap s.heap [] → ∀ ls : Array Slot, lv_has ls maxL (lv_args 0 av) → W p l e { frames := fr, cells := mc, slots := ms, locals := lo } s m args below meth c s.heap [] 0 0 (vx_MQ below (hQ G P) (hX G PX) args s mc ms (hFr G)) (F0 m 0 ls [])) :
    CT l y (.code y cc maxL ret) fr lo mc ms G av f P PX := by
  refine vx_ofW (cc := cc) (maxL := maxL) (ret := ret) hy rfl ?_
  intro p e s m args below meth c s₁ B hml hout hv
  obtain ⟨rfl, hk, hw⟩ := hv
  have hts := atoms_spec (ws := (Cond.code y cc maxL ret) :: gW) B.pre
  have hown : s.vm.findClass own = some m.cls := by rw [← ho]; exact findClass_of_methodNamed B.named
  have hl2 := lv_entry av (n := maxL) hlen
  rw [lg_entry_eq]
  exact body p e s m _ below meth c ⟨B.exec, B.bytes, hml, hown, fun w h => hts w (List.mem_cons_of_mem _ h), B.notSynchronized, hk, hl⟩ B.returns (name_of_methodNamed B.named B.method).1 hout hw va_S.rf _ hl2
/-- the start of a method with handlers -/
theorem hp_startH {l : Launch} (hl : l.stackTraces = false) {own : String} {y : MethodName} {cc : ByteArray} {maxL : Nat} {ret : Option FieldType} {hh : List (Nat × Nat × Nat × Nat)} {fr lo mc ms : Nat} {G : hG} {av : List Value} {f : hM} {P : Option Value → hM → Prop} {PX : String → hM → Prop}
    (hy : plainName y.cls = true) (ho : y.cls = own) (hlen : (lg_sl av).length ≤ maxL)
    (body : ∀ (p : Program) (e : Env) (s : State) (m : MethodId) (args : Array Value) (below : List Frame) (meth : Method) (c : Code), hB p l s m args meth c cc maxL own G → meth.sig.returnType = ret → c.exceptionTable.toList = tableOf hh →
      hW G f s.heap → va_S (hFr G) s.heap s.heap [] → ∀ ls : Array Slot, lv_has ls maxL (lv_args 0 av) → W p l e { frames := fr, cells := mc, slots := ms, locals := lo } s m args below meth c s.heap [] 0 0 (vx_MQ below (hQ G P) (hX G PX) args s mc ms (hFr G)) (F0 m 0 ls [])) :
    CT l y (.codeWith y cc maxL ret hh) fr lo mc ms G av f P PX := by
  refine vx_ofWH (cc := cc) (maxL := maxL) (ret := ret) (hh := hh) hy rfl ?_
  intro p e s m args below meth c s₁ B hml hv
  obtain ⟨rfl, hk, hw⟩ := hv
  have hts := atoms_spec (ws := (Cond.codeWith y cc maxL ret hh) :: gW) B.pre
  have hown : s.vm.findClass own = some m.cls := by rw [← ho]; exact findClass_of_methodNamed B.named
  have hl2 := lv_entry av (n := maxL) hlen
  rw [lg_entry_eq]
  exact body p e s m _ below meth c ⟨B.exec, B.bytes, hml, hown, fun w h => hts w (List.mem_cons_of_mem _ h), B.notSynchronized, hk, hl⟩ B.returns (vx_table (x := y) B (hts _ List.mem_cons_self)) hw va_S.rf _ hl2
section Rows9
variable {p : Program} {l : Launch} {e : Env} {R : Room} {s : State} {m : MethodId} {args : Array Value} {below : List Frame} {meth : Method} {c : Code} {H : Heap} {locs : List Loc} {cells slots : Nat} {Q : State → Prop}
variable {cc : ByteArray} {nL pc : Nat} {own : String} {G : hG} {f : hM} {ls : Array Slot} {rest : List Value} {a : Nat}
theorem hp_get (B0 : hB p l s m args meth c cc nL own G) (hw : hW G f H) (ci : Nat) {C : String} {T : u_T} {N : Nat} (hc : hC[ci]? = some (C, T, N)) (hin : ∀ w ∈ u_ws C T N, w ∈ gW) {fs : List Value} (ha : f a = some (.inr (ci, fs))) (k : Nat) (hk : k < N) {index : Nat} (hlink : Cond.fieldLink own index (T k).1 (T k).2.1 (T k).2.2.1 ∈ gW) {v : Value} (hv : fs[k]? = some v) (hdg : decode cc pc = .ok (.getfield index, 3))
    (kk : W p l e R s m args below meth c H locs cells slots Q (F0 m (pc + 3) ls (v :: rest))) : W p l e R s m args below meth c H locs cells slots Q (F0 m pc ls (.ref a :: rest)) := by
  obtain ⟨hx, hb, hml, hown, hts, hlk, hk0, hl⟩ := B0
  obtain ⟨L, g, hf, hP, hD⟩ := hw
  obtain ⟨hL, hg⟩ := hf a _ ha
  obtain ⟨i, hi⟩ := va_pl_get (X := []) (f := g) hL
  rw [hg] at hi
  exact va_get (D := G.1) (cl := hC) (tys := hTy G) hx hb hts hin hown hk0.1 hP i hi hc k hk (hts _ hlink) (fun _ h9 => h9) hv hdg kk
theorem hp_getN (B0 : hB p l s m args meth c cc nL own G) (hw : hW G f H) (ci : Nat) {C : String} {T : u_T} {N : Nat} (hc : hC[ci]? = some (C, T, N)) (hin : ∀ w ∈ u_ws C T N, w ∈ gW) {fs : List Value} (ha : f a = some (.inr (ci, fs))) (k : Nat) (hk : k < N) {index : Nat} {host : String} (hlink : Cond.fieldLinkNest own index (T k).1 (T k).2.1 (T k).2.2.1 host ∈ hOt) {v : Value} (hv : fs[k]? = some v) (hdg : decode cc pc = .ok (.getfield index, 3))
    (kk : W p l e R s m args below meth c H locs cells slots Q (F0 m (pc + 3) ls (v :: rest))) : W p l e R s m args below meth c H locs cells slots Q (F0 m pc ls (.ref a :: rest)) := by
  obtain ⟨hx, hb, hml, hown, hts, hlk, hk0, hl⟩ := B0
  obtain ⟨L, g, hf, hP, hD⟩ := hw
  obtain ⟨hL, hg⟩ := hf a _ ha
  obtain ⟨i, hi⟩ := va_pl_get (X := []) (f := g) hL
  rw [hg] at hi
  exact va_getN (D := G.1) (cl := hC) (tys := hTy G) hx hb hts hin hown hk0.1 hP i hi hc k hk (va_Nw.use rfl (hk0.2.2.2.1 _ hlink)) (fun _ h9 => h9) hv hdg kk
theorem hW.set {e0 e1 : va_E} {L : List Nat} {g : Nat → va_E} {H1 : Heap} {i : Nat} (hf : ∀ a e, f a = some e → a ∈ L ∧ g a = e) (hD : va_D (hFr G) ([] ++ va_pl L g)) (hL : a ∈ L) (hi : ([] ++ va_pl L g)[i]? = some (a, g a)) (hP1 : va_P G.1 hC (([] ++ va_pl L g).set i (a, e1)) H1) (hD1 : va_D (hFr G) (([] ++ va_pl L g).set i (a, e1))) : hW G (va_up f a (some e1)) H1 := by
  rw [va_pl_set hD hL hi] at hP1 hD1
  refine ⟨L, va_up g a e1, fun b x hb => ?_, hP1, hD1⟩
  by_cases hba : b = a
  · rw [hba, va_up_self] at hb
    cases hb
    rw [hba, va_up_self]
    exact ⟨hL, rfl⟩
  · rw [va_up_ne _ _ hba] at hb
    rw [va_up_ne _ _ hba]
    exact hf b x hb
theorem hp_put (B0 : hB p l s m args meth c cc nL own G) (hw : hW G f H) (hS : va_S (hFr G) s.heap H locs) (ci : Nat) {C : String} {T : u_T} {N : Nat} (hc : hC[ci]? = some (C, T, N)) (hin : ∀ w ∈ u_ws C T N, w ∈ gW) (ty0 : Nat → FieldType) (hty : ∀ k, k < N → parseFieldDescriptor (T k).2.2.1 = some (ty0 k)) (hnm : ∀ a, a < N → ∀ b, b < N → a ≠ b → (T a).2.1 ≠ (T b).2.1) {fs fs1 : List Value} (ha : f a = some (.inr (ci, fs))) (k : Nat) (hk : k < N) {index : Nat} (hlink : Cond.fieldLink own index (T k).1 (T k).2.1 (T k).2.2.1 ∈ gW) (hfin : (T k).2.2.2 = false) {ty : FieldType} {v : Value} (hd : parseFieldDescriptor (T k).2.2.1 = some ty) (hn : narrow ty v = v) (hfit : fits ty v = true) (hl : k < fs.length) (hfs : fs.set k v = fs1) (hdg : decode cc pc = .ok (.putfield index, 3))
    (kk : ∀ (H1 : Heap) (locs1 : List Loc) (f1 : hM), f1 = va_up f a (some (.inr (ci, fs1))) → hW G f1 H1 → va_S (hFr G) s.heap H1 locs1 → W p l e R s m args below meth c H1 locs1 cells slots Q (F0 m (pc + 3) ls rest)) : W p l e R s m args below meth c H locs cells slots Q (F0 m pc ls (v :: .ref a :: rest)) := by
  obtain ⟨hx, hb, hml, hown, hts, hlk, hk0, hl9⟩ := B0
  obtain ⟨L, g, hf, hP, hD⟩ := hw
  obtain ⟨hL, hg⟩ := hf a _ ha
  obtain ⟨i, hi0⟩ := va_pl_get (X := []) (f := g) hL
  have hi := hi0
  rw [hg] at hi
  subst hfs
  exact va_put (D := G.1) (cl := hC) (tys := hTy G) hx hb hts hin ty0 hty hnm hown hk0.1 hP hD hS i hi hc k hk (hts _ hlink) (fun _ h9 => h9) hfin hd hn hfit hl hdg (fun H1 locs1 hP1 hD1 hS1 => kk H1 locs1 _ rfl (hW.set (e0 := .inr (ci, fs)) hf hD hL hi0 hP1 hD1) hS1)
theorem hp_putF (B0 : hB p l s m args meth c cc nL own G) (hw : hW G f H) (hS : va_S (hFr G) s.heap H locs) (ci : Nat) {C : String} {T : u_T} {N : Nat} (hc : hC[ci]? = some (C, T, N)) (hin : ∀ w ∈ u_ws C T N, w ∈ gW) (ty0 : Nat → FieldType) (hty : ∀ k, k < N → parseFieldDescriptor (T k).2.2.1 = some (ty0 k)) (hnm : ∀ a, a < N → ∀ b, b < N → a ≠ b → (T a).2.1 ≠ (T b).2.1) {fs fs1 : List Value} (ha : f a = some (.inr (ci, fs))) (k : Nat) (hk : k < N) {index : Nat} (hlink : Cond.fieldLink own index (T k).1 (T k).2.1 (T k).2.2.1 ∈ gW) (hfin : (T k).2.2.2 = true) (hin2 : meth.name = "<init>") (hdecl : (T k).1 = own) {ty : FieldType} {v : Value} (hd : parseFieldDescriptor (T k).2.2.1 = some ty) (hn : narrow ty v = v) (hfit : fits ty v = true) (hl : k < fs.length) (hfs : fs.set k v = fs1) (hdg : decode cc pc = .ok (.putfield index, 3))
    (kk : ∀ (H1 : Heap) (locs1 : List Loc) (f1 : hM), f1 = va_up f a (some (.inr (ci, fs1))) → hW G f1 H1 → va_S (hFr G) s.heap H1 locs1 → W p l e R s m args below meth c H1 locs1 cells slots Q (F0 m (pc + 3) ls rest)) : W p l e R s m args below meth c H locs cells slots Q (F0 m pc ls (v :: .ref a :: rest)) := by
  obtain ⟨hx, hb, hml, hown, hts, hlk, hk0, hl9⟩ := B0
  obtain ⟨L, g, hf, hP, hD⟩ := hw
  obtain ⟨hL, hg⟩ := hf a _ ha
  obtain ⟨i, hi0⟩ := va_pl_get (X := []) (f := g) hL
  have hi := hi0
  rw [hg] at hi
  subst hfs
  exact va_putF (D := G.1) (cl := hC) (tys := hTy G) hx hb hts hin ty0 hty hnm hown hk0.1 hP hD hS i hi hc k hk (hts _ hlink) (fun _ h9 => h9) hfin hin2 hdecl hd hn hfit hl hdg (fun H1 locs1 hP1 hD1 hS1 => kk H1 locs1 _ rfl (hW.set (e0 := .inr (ci, fs)) hf hD hL hi0 hP1 hD1) hS1)
theorem hp_putN (B0 : hB p l s m args meth c cc nL own G) (hw : hW G f H) (hS : va_S (hFr G) s.heap H locs) (ci : Nat) {C : String} {T : u_T} {N : Nat} (hc : hC[ci]? = some (C, T, N)) (hin : ∀ w ∈ u_ws C T N, w ∈ gW) (ty0 : Nat → FieldType) (hty : ∀ k, k < N → parseFieldDescriptor (T k).2.2.1 = some (ty0 k)) (hnm : ∀ a, a < N → ∀ b, b < N → a ≠ b → (T a).2.1 ≠ (T b).2.1) {fs fs1 : List Value} (ha : f a = some (.inr (ci, fs))) (k : Nat) (hk : k < N) {index : Nat} {host : String} (hlink : Cond.fieldLinkNest own index (T k).1 (T k).2.1 (T k).2.2.1 host ∈ hOt) (hfin : (T k).2.2.2 = false) {ty : FieldType} {v : Value} (hd : parseFieldDescriptor (T k).2.2.1 = some ty) (hn : narrow ty v = v) (hfit : fits ty v = true) (hl : k < fs.length) (hfs : fs.set k v = fs1) (hdg : decode cc pc = .ok (.putfield index, 3))
    (kk : ∀ (H1 : Heap) (locs1 : List Loc) (f1 : hM), f1 = va_up f a (some (.inr (ci, fs1))) → hW G f1 H1 → va_S (hFr G) s.heap H1 locs1 → W p l e R s m args below meth c H1 locs1 cells slots Q (F0 m (pc + 3) ls rest)) : W p l e R s m args below meth c H locs cells slots Q (F0 m pc ls (v :: .ref a :: rest)) := by
  obtain ⟨hx, hb, hml, hown, hts, hlk, hk0, hl9⟩ := B0
  obtain ⟨L, g, hf, hP, hD⟩ := hw
  obtain ⟨hL, hg⟩ := hf a _ ha
  obtain ⟨i, hi0⟩ := va_pl_get (X := []) (f := g) hL
  have hi := hi0
  rw [hg] at hi
  subst hfs
  exact va_putN (D := G.1) (cl := hC) (tys := hTy G) hx hb hts hin ty0 hty hnm hown hk0.1 hP hD hS i hi hc k hk (va_Nw.use rfl (hk0.2.2.2.1 _ hlink)) (fun _ h9 => h9) hfin hd hn hfit hl hdg (fun H1 locs1 hP1 hD1 hS1 => kk H1 locs1 _ rfl (hW.set (e0 := .inr (ci, fs)) hf hD hL hi0 hP1 hD1) hS1)
theorem hp_iald (B0 : hB p l s m args meth c cc nL own G) (hw : hW G f H) {n : Nat} {x : Nat → Int32} (ha : f a = some (.inl (cI G, n, .inl x))) {i : Int32} (hin : vp_in i n) (hdg : decode cc pc = .ok (.iaload, 1))
    (kk : W p l e R s m args below meth c H locs cells slots Q (F0 m (pc + 1) ls (.int (x i.toNatClampNeg) :: rest))) : W p l e R s m args below meth c H locs cells slots Q (F0 m pc ls (.int i :: .ref a :: rest)) := by
  obtain ⟨hx, hb, hml, hown, hts, hlk, hk0, hl⟩ := B0
  obtain ⟨L, g, hf, hP, hD⟩ := hw
  obtain ⟨hL, hg⟩ := hf a _ ha
  obtain ⟨j, hj⟩ := va_pl_get (X := []) (f := g) hL
  rw [hg] at hj
  exact va_iald (D := G.1) (cl := hC) (tys := hTy G) hx hb hk0.1 hP j 0 hj rfl hin hdg kk
theorem hp_zald (B0 : hB p l s m args meth c cc nL own G) (hw : hW G f H) {n : Nat} {x : Nat → Int32} (ha : f a = some (.inl (cZ G, n, .inl x))) {i : Int32} (hin : vp_in i n) (hdg : decode cc pc = .ok (.baload, 1))
    (kk : W p l e R s m args below meth c H locs cells slots Q (F0 m (pc + 1) ls (.int (x i.toNatClampNeg) :: rest))) : W p l e R s m args below meth c H locs cells slots Q (F0 m pc ls (.int i :: .ref a :: rest)) := by
  obtain ⟨hx, hb, hml, hown, hts, hlk, hk0, hl⟩ := B0
  obtain ⟨L, g, hf, hP, hD⟩ := hw
  obtain ⟨hL, hg⟩ := hf a _ ha
  obtain ⟨j, hj⟩ := va_pl_get (X := []) (f := g) hL
  rw [hg] at hj
  exact va_zald (D := G.1) (cl := hC) (tys := hTy G) hx hb hk0.1 hP j 1 hj rfl hin hdg kk
theorem hp_lald (B0 : hB p l s m args meth c cc nL own G) (hw : hW G f H) {n : Nat} {x : Nat → Int64} (ha : f a = some (.inl (cJ G, n, .inr (.inl x)))) {i : Int32} (hin : vp_in i n) (hdg : decode cc pc = .ok (.laload, 1))
    (kk : W p l e R s m args below meth c H locs cells slots Q (F0 m (pc + 1) ls (.long (x i.toNatClampNeg) :: rest))) : W p l e R s m args below meth c H locs cells slots Q (F0 m pc ls (.int i :: .ref a :: rest)) := by
  obtain ⟨hx, hb, hml, hown, hts, hlk, hk0, hl⟩ := B0
  obtain ⟨L, g, hf, hP, hD⟩ := hw
  obtain ⟨hL, hg⟩ := hf a _ ha
  obtain ⟨j, hj⟩ := va_pl_get (X := []) (f := g) hL
  rw [hg] at hj
  exact va_lald (D := G.1) (cl := hC) (tys := hTy G) hx hb hk0.1 hP j 2 hj rfl hin hdg kk
theorem hp_iast (B0 : hB p l s m args meth c cc nL own G) (hw : hW G f H) (hS : va_S (hFr G) s.heap H locs) {n : Nat} {x : Nat → Int32} (ha : f a = some (.inl (cI G, n, .inl x))) {i v : Int32} (hin : vp_in i n) (hdg : decode cc pc = .ok (.iastore, 1))
    (kk : ∀ (H1 : Heap) (locs1 : List Loc) (f1 : hM), f1 = va_up f a (some (.inl (cI G, n, .inl (upd x i.toNatClampNeg v)))) → hW G f1 H1 → va_S (hFr G) s.heap H1 locs1 → W p l e R s m args below meth c H1 locs1 cells slots Q (F0 m (pc + 1) ls rest)) : W p l e R s m args below meth c H locs cells slots Q (F0 m pc ls (.int v :: .int i :: .ref a :: rest)) := by
  obtain ⟨hx, hb, hml, hown, hts, hlk, hk0, hl9⟩ := B0
  obtain ⟨L, g, hf, hP, hD⟩ := hw
  obtain ⟨hL, hg⟩ := hf a _ ha
  obtain ⟨j, hj0⟩ := va_pl_get (X := []) (f := g) hL
  have hj := hj0
  rw [hg] at hj
  exact va_iast (D := G.1) (cl := hC) (tys := hTy G) hx hb hk0.1 hP hD hS j 0 hj rfl hin hdg (fun H1 locs1 hP1 hD1 hS1 => kk H1 locs1 _ rfl (hW.set (e0 := .inl (cI G, n, .inl x)) hf hD hL hj0 hP1 hD1) hS1)
theorem hp_zast (B0 : hB p l s m args meth c cc nL own G) (hw : hW G f H) (hS : va_S (hFr G) s.heap H locs) {n : Nat} {x : Nat → Int32} (ha : f a = some (.inl (cZ G, n, .inl x))) {i v : Int32} (hin : vp_in i n) (hdg : decode cc pc = .ok (.bastore, 1))
    (kk : ∀ (H1 : Heap) (locs1 : List Loc) (f1 : hM), f1 = va_up f a (some (.inl (cZ G, n, .inl (upd x i.toNatClampNeg (vp_nar .boolean v))))) → hW G f1 H1 → va_S (hFr G) s.heap H1 locs1 → W p l e R s m args below meth c H1 locs1 cells slots Q (F0 m (pc + 1) ls rest)) : W p l e R s m args below meth c H locs cells slots Q (F0 m pc ls (.int v :: .int i :: .ref a :: rest)) := by
  obtain ⟨hx, hb, hml, hown, hts, hlk, hk0, hl9⟩ := B0
  obtain ⟨L, g, hf, hP, hD⟩ := hw
  obtain ⟨hL, hg⟩ := hf a _ ha
  obtain ⟨j, hj0⟩ := va_pl_get (X := []) (f := g) hL
  have hj := hj0
  rw [hg] at hj
  exact va_zast (D := G.1) (cl := hC) (tys := hTy G) hx hb hk0.1 hP hD hS j 1 hj rfl hin hdg (fun H1 locs1 hP1 hD1 hS1 => kk H1 locs1 _ rfl (hW.set (e0 := .inl (cZ G, n, .inl x)) hf hD hL hj0 hP1 hD1) hS1)
theorem hp_last (B0 : hB p l s m args meth c cc nL own G) (hw : hW G f H) (hS : va_S (hFr G) s.heap H locs) {n : Nat} {x : Nat → Int64} (ha : f a = some (.inl (cJ G, n, .inr (.inl x)))) {i : Int32} {v : Int64} (hin : vp_in i n) (hdg : decode cc pc = .ok (.lastore, 1))
    (kk : ∀ (H1 : Heap) (locs1 : List Loc) (f1 : hM), f1 = va_up f a (some (.inl (cJ G, n, .inr (.inl (vp_updL x i.toNatClampNeg v))))) → hW G f1 H1 → va_S (hFr G) s.heap H1 locs1 → W p l e R s m args below meth c H1 locs1 cells slots Q (F0 m (pc + 1) ls rest)) : W p l e R s m args below meth c H locs cells slots Q (F0 m pc ls (.long v :: .int i :: .ref a :: rest)) := by
  obtain ⟨hx, hb, hml, hown, hts, hlk, hk0, hl9⟩ := B0
  obtain ⟨L, g, hf, hP, hD⟩ := hw
  obtain ⟨hL, hg⟩ := hf a _ ha
  obtain ⟨j, hj0⟩ := va_pl_get (X := []) (f := g) hL
  have hj := hj0
  rw [hg] at hj
  exact va_last (D := G.1) (cl := hC) (tys := hTy G) hx hb hk0.1 hP hD hS j 2 hj rfl hin hdg (fun H1 locs1 hP1 hD1 hS1 => kk H1 locs1 _ rfl (hW.set (e0 := .inl (cJ G, n, .inr (.inl x))) hf hD hL hj0 hP1 hD1) hS1)
end Rows9
end HP
