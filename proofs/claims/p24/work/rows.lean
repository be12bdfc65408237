section
/-- a private method of a class that the tables say can be made, by its rows of tables_1 -/
def lw_okq (q : MethodName × Nat) : Prop := (q.1.cls ≠ "java/lang/invoke/MethodHandle" ∧ q.1.cls ≠ "java/lang/invoke/VarHandle") ∧ Cond.instantiable q.1.cls q.2 ∈ tables_1 ∧ Cond.privateMethod q.1 ∈ tables_1 ∧ Cond.instanceMethod q.1 ∈ tables_1
theorem lw_p0 : lw_okq (⟨"OptionLine", "endAt", "(I)LOptionLine$End;"⟩, 3) := ⟨⟨by decide +kernel, by decide +kernel⟩, List.mem_of_getElem? (i := 16) (by decide +kernel), List.mem_of_getElem? (i := 160) (by decide +kernel), List.mem_of_getElem? (i := 161) (by decide +kernel)⟩
theorem lw_p1 : lw_okq (⟨"java/lang/Throwable", "fillInStackTrace", "(I)Ljava/lang/Throwable;"⟩, 6) := ⟨⟨by decide +kernel, by decide +kernel⟩, List.mem_of_getElem? (i := 202) (by decide +kernel), List.mem_of_getElem? (i := 200) (by decide +kernel), List.mem_of_getElem? (i := 201) (by decide +kernel)⟩
theorem lw_p2 : lw_okq (⟨"OptionLine$End", "ask", "()Z"⟩, 11) := ⟨⟨by decide +kernel, by decide +kernel⟩, List.mem_of_getElem? (i := 24) (by decide +kernel), List.mem_of_getElem? (i := 315) (by decide +kernel), List.mem_of_getElem? (i := 316) (by decide +kernel)⟩
theorem lw_p3 : lw_okq (⟨"OptionLine$End", "sendStop", "()V"⟩, 11) := ⟨⟨by decide +kernel, by decide +kernel⟩, List.mem_of_getElem? (i := 24) (by decide +kernel), List.mem_of_getElem? (i := 384) (by decide +kernel), List.mem_of_getElem? (i := 385) (by decide +kernel)⟩
theorem lw_p4 : lw_okq (⟨"OptionLine$End", "hearRequest", "(LOptionLine$Frame;)V"⟩, 11) := ⟨⟨by decide +kernel, by decide +kernel⟩, List.mem_of_getElem? (i := 24) (by decide +kernel), List.mem_of_getElem? (i := 425) (by decide +kernel), List.mem_of_getElem? (i := 426) (by decide +kernel)⟩
theorem lw_p5 : lw_okq (⟨"OptionLine$End", "answer", "(LOptionLine$Frame;)V"⟩, 11) := ⟨⟨by decide +kernel, by decide +kernel⟩, List.mem_of_getElem? (i := 24) (by decide +kernel), List.mem_of_getElem? (i := 429) (by decide +kernel), List.mem_of_getElem? (i := 430) (by decide +kernel)⟩
theorem lw_p6 : lw_okq (⟨"OptionLine$End", "kindOfAnswer", "([I)I"⟩, 11) := ⟨⟨by decide +kernel, by decide +kernel⟩, List.mem_of_getElem? (i := 24) (by decide +kernel), List.mem_of_getElem? (i := 433) (by decide +kernel), List.mem_of_getElem? (i := 434) (by decide +kernel)⟩
theorem lw_p7 : lw_okq (⟨"OptionLine$End", "isUnknown", "(II)Z"⟩, 11) := ⟨⟨by decide +kernel, by decide +kernel⟩, List.mem_of_getElem? (i := 24) (by decide +kernel), List.mem_of_getElem? (i := 437) (by decide +kernel), List.mem_of_getElem? (i := 438) (by decide +kernel)⟩
theorem lw_p8 : lw_okq (⟨"OptionLine$End", "isRefused", "(II)Z"⟩, 11) := ⟨⟨by decide +kernel, by decide +kernel⟩, List.mem_of_getElem? (i := 24) (by decide +kernel), List.mem_of_getElem? (i := 441) (by decide +kernel), List.mem_of_getElem? (i := 442) (by decide +kernel)⟩
theorem lw_p9 : lw_okq (⟨"OptionLine$End", "allows", "(II)Z"⟩, 11) := ⟨⟨by decide +kernel, by decide +kernel⟩, List.mem_of_getElem? (i := 24) (by decide +kernel), List.mem_of_getElem? (i := 445) (by decide +kernel), List.mem_of_getElem? (i := 446) (by decide +kernel)⟩
theorem lw_p10 : lw_okq (⟨"OptionLine$End", "toldOptions", "(I[I)[I"⟩, 11) := ⟨⟨by decide +kernel, by decide +kernel⟩, List.mem_of_getElem? (i := 24) (by decide +kernel), List.mem_of_getElem? (i := 449) (by decide +kernel), List.mem_of_getElem? (i := 450) (by decide +kernel)⟩
theorem lw_p11 : lw_okq (⟨"OptionLine$End", "lowestAllowed", "(I)I"⟩, 11) := ⟨⟨by decide +kernel, by decide +kernel⟩, List.mem_of_getElem? (i := 24) (by decide +kernel), List.mem_of_getElem? (i := 453) (by decide +kernel), List.mem_of_getElem? (i := 454) (by decide +kernel)⟩
theorem lw_p12 : lw_okq (⟨"OptionLine$End", "hearAnswer", "(LOptionLine$Frame;)V"⟩, 11) := ⟨⟨by decide +kernel, by decide +kernel⟩, List.mem_of_getElem? (i := 24) (by decide +kernel), List.mem_of_getElem? (i := 457) (by decide +kernel), List.mem_of_getElem? (i := 458) (by decide +kernel)⟩
theorem lw_p13 : lw_okq (⟨"OptionLine$End", "changeAskedFor", "(LOptionLine$Frame;)V"⟩, 11) := ⟨⟨by decide +kernel, by decide +kernel⟩, List.mem_of_getElem? (i := 24) (by decide +kernel), List.mem_of_getElem? (i := 461) (by decide +kernel), List.mem_of_getElem? (i := 462) (by decide +kernel)⟩
theorem lw_p14 : lw_okq (⟨"OptionLine", "refuseEmptyLine", "(I)V"⟩, 3) := ⟨⟨by decide +kernel, by decide +kernel⟩, List.mem_of_getElem? (i := 16) (by decide +kernel), List.mem_of_getElem? (i := 513) (by decide +kernel), List.mem_of_getElem? (i := 514) (by decide +kernel)⟩
theorem lw_p15 : lw_okq (⟨"OptionLine$Bundle", "advance", "()Z"⟩, 9) := ⟨⟨by decide +kernel, by decide +kernel⟩, List.mem_of_getElem? (i := 91) (by decide +kernel), List.mem_of_getElem? (i := 531) (by decide +kernel), List.mem_of_getElem? (i := 532) (by decide +kernel)⟩
def lw_privs_1 : List (MethodName × Nat) := [(⟨"OptionLine", "endAt", "(I)LOptionLine$End;"⟩, 3), (⟨"java/lang/Throwable", "fillInStackTrace", "(I)Ljava/lang/Throwable;"⟩, 6), (⟨"OptionLine$End", "ask", "()Z"⟩, 11), (⟨"OptionLine$End", "sendStop", "()V"⟩, 11), (⟨"OptionLine$End", "hearRequest", "(LOptionLine$Frame;)V"⟩, 11), (⟨"OptionLine$End", "answer", "(LOptionLine$Frame;)V"⟩, 11), (⟨"OptionLine$End", "kindOfAnswer", "([I)I"⟩, 11), (⟨"OptionLine$End", "isUnknown", "(II)Z"⟩, 11), (⟨"OptionLine$End", "isRefused", "(II)Z"⟩, 11), (⟨"OptionLine$End", "allows", "(II)Z"⟩, 11), (⟨"OptionLine$End", "toldOptions", "(I[I)[I"⟩, 11), (⟨"OptionLine$End", "lowestAllowed", "(I)I"⟩, 11), (⟨"OptionLine$End", "hearAnswer", "(LOptionLine$Frame;)V"⟩, 11), (⟨"OptionLine$End", "changeAskedFor", "(LOptionLine$Frame;)V"⟩, 11), (⟨"OptionLine", "refuseEmptyLine", "(I)V"⟩, 3), (⟨"OptionLine$Bundle", "advance", "()Z"⟩, 9)]
theorem lw_r1 : ∀ q ∈ lw_privs_1, lw_okq q := List.forall_mem_cons.mpr ⟨lw_p0, List.forall_mem_cons.mpr ⟨lw_p1, List.forall_mem_cons.mpr ⟨lw_p2, List.forall_mem_cons.mpr ⟨lw_p3, List.forall_mem_cons.mpr ⟨lw_p4, List.forall_mem_cons.mpr ⟨lw_p5, List.forall_mem_cons.mpr ⟨lw_p6, List.forall_mem_cons.mpr ⟨lw_p7, List.forall_mem_cons.mpr ⟨lw_p8, List.forall_mem_cons.mpr ⟨lw_p9, List.forall_mem_cons.mpr ⟨lw_p10, List.forall_mem_cons.mpr ⟨lw_p11, List.forall_mem_cons.mpr ⟨lw_p12, List.forall_mem_cons.mpr ⟨lw_p13, List.forall_mem_cons.mpr ⟨lw_p14, List.forall_mem_cons.mpr ⟨lw_p15, fun _ h => absurd h List.not_mem_nil⟩⟩⟩⟩⟩⟩⟩⟩⟩⟩⟩⟩⟩⟩⟩⟩
theorem lw_p16 : lw_okq (⟨"OptionLine$Bundle", "advanceFromFirst", "(I)Z"⟩, 9) := ⟨⟨by decide +kernel, by decide +kernel⟩, List.mem_of_getElem? (i := 91) (by decide +kernel), List.mem_of_getElem? (i := 535) (by decide +kernel), List.mem_of_getElem? (i := 536) (by decide +kernel)⟩
theorem lw_p17 : lw_okq (⟨"OptionLine$Bundle", "firstNotCome", "(I)I"⟩, 9) := ⟨⟨by decide +kernel, by decide +kernel⟩, List.mem_of_getElem? (i := 91) (by decide +kernel), List.mem_of_getElem? (i := 539) (by decide +kernel), List.mem_of_getElem? (i := 540) (by decide +kernel)⟩
theorem lw_p18 : lw_okq (⟨"OptionLine$Bundle", "give", "(I)V"⟩, 9) := ⟨⟨by decide +kernel, by decide +kernel⟩, List.mem_of_getElem? (i := 91) (by decide +kernel), List.mem_of_getElem? (i := 543) (by decide +kernel), List.mem_of_getElem? (i := 544) (by decide +kernel)⟩
theorem lw_p19 : lw_okq (⟨"OptionLine$Bundle", "bound", "()I"⟩, 9) := ⟨⟨by decide +kernel, by decide +kernel⟩, List.mem_of_getElem? (i := 91) (by decide +kernel), List.mem_of_getElem? (i := 547) (by decide +kernel), List.mem_of_getElem? (i := 548) (by decide +kernel)⟩
def lw_privs_2 : List (MethodName × Nat) := [(⟨"OptionLine$Bundle", "advanceFromFirst", "(I)Z"⟩, 9), (⟨"OptionLine$Bundle", "firstNotCome", "(I)I"⟩, 9), (⟨"OptionLine$Bundle", "give", "(I)V"⟩, 9), (⟨"OptionLine$Bundle", "bound", "()I"⟩, 9)]
theorem lw_r2 : ∀ q ∈ lw_privs_2, lw_okq q := List.forall_mem_cons.mpr ⟨lw_p16, List.forall_mem_cons.mpr ⟨lw_p17, List.forall_mem_cons.mpr ⟨lw_p18, List.forall_mem_cons.mpr ⟨lw_p19, fun _ h => absurd h List.not_mem_nil⟩⟩⟩⟩
def lw_privs : List (MethodName × Nat) := lw_privs_1 ++ (lw_privs_2)
def lw_tbl : List Cond := k2_sels lw_privs ++ tables_1
theorem lw_privs_ok : ∀ q ∈ lw_privs, lw_okq q := by
  show ∀ q ∈ lw_privs_1 ++ (lw_privs_2), lw_okq q
  exact List.forall_mem_append.mpr ⟨lw_r1, lw_r2⟩
/-! ===== BEGIN words of one list among another's, by their places ===== -/
theorem goodIn_r {big : List Cond} (ws : List Cond) (ps : List Nat) (hp : ws = ps.filterMap (fun i => big[i]?)) (h : ws.all goodWord = true) : GoodIn big ws := by
  intro w hw
  have h1 := List.all_eq_true.mp h w hw
  rw [hp] at hw
  obtain ⟨i, -, hi⟩ := List.mem_filterMap.mp hw
  have hm : w ∈ big := by first | exact List.mem_of_getElem? hi | exact List.getElem?_mem hi
  exact ⟨hm, good_of_word h1⟩
theorem goodIn_app {big a b : List Cond} (ha : GoodIn big a) (hb : GoodIn big b) : GoodIn big (a ++ b) := fun w h => (List.mem_append.mp h).elim (ha w) (hb w)
theorem goodIn_ca {big a b : List Cond} {c : Cond} (ha : GoodIn big (c :: a)) (hb : GoodIn big b) : GoodIn big (c :: (a ++ b)) := fun w h => (List.mem_cons.mp h).elim (fun e => ha w (List.mem_cons.mpr (Or.inl e))) (fun h => (List.mem_append.mp h).elim (fun h => ha w (List.mem_cons.mpr (Or.inr h))) (hb w))
theorem goodIn_sub {big ws : List Cond} (hm : ∀ w ∈ ws, w ∈ big) (h : ws.all goodWord = true) : GoodIn big ws := fun w hw => ⟨hm w hw, good_of_word (List.all_eq_true.mp h w hw)⟩
/-! ===== END ===== -/

/-! ===== BEGIN exceptions that leave a method, and their catching by the caller (launches without stack traces) ===== -/
section VXA
/-! The laws vx_back, vx_callV, vx_callS, vx_callSW, vx_throw0, vx_throwS follow proofs of the library, with one case more: JvmDerived/Free/Laws.lean (Back.of_free), Shelf42/LK1.lean (callV, callS), Shelf/KitTraced.lean (throwNew0V, throwNewS). -/
/-- where a method has thrown q: the class by its name, the cell, what was written, the world -/
def vx_T (XC : String → State → State → Prop) (st : State) (q : Addr) (t : State) (mc ms : Nat) (free : Addr → Prop) : Prop :=
  ∃ (E : String) (ce : Cell) (L : List Loc), XC E st t ∧ t.heap[q]? = some ce ∧ ce.vm = .none ∧ st.vm.findClass E = some ce.cls ∧ st.WarmedH t.vm ∧ st.sameButNew ({ t with vm := st.vm } : State) L mc ms ∧ ∀ z ∈ L, free z.base
def vx_Q (Qc : Array Value → State → Outcome → State → Prop) (XC : String → State → State → Prop) (mc ms : Nat) (free : Addr → Prop) : Array Value → State → Outcome → State → Prop := fun a st o t =>
  (Qc a st o t ∧ ∃ L, FrameEnd st o t L mc ms ∧ ∀ q ∈ L, free q.base) ∨ ∃ q, o = .threw q ∧ vx_T XC st q t mc ms free
/-- a callee that returns or throws -/
def vx_Met (l : Launch) (y : MethodName) (ws : List Cond) (rm : Room) (Pc : Array Value → State → Prop) (Qc : Array Value → State → Outcome → State → Prop) (XC : String → State → State → Prop) (mc ms : Nat) (free : Addr → Prop) : Prop :=
  MetFree l y (headSpec ws rm) Pc (fun _ _ _ _ _ => True) (vx_Q Qc XC mc ms free)
def vx_Post (XC : String → State → State → Prop) (mc ms : Nat) (free : Addr → Prop) : Pt → Array Value → Addr → Pt → Prop := fun A a q B =>
  ∃ (g : JFrame) (mk : MethodId) (t : State) (L : List Loc) (E : String) (ce : Cell), B.U.heap = t.heap ∧ B.U.vm = t.vm ∧ XC E (A.U.calling g mk a) t ∧ t.heap[q]? = some ce ∧ ce.vm = .none ∧ A.U.vm.findClass E = some ce.cls ∧ B.locs = A.locs ++ L ∧ (∀ z ∈ L, free z.base) ∧ B.cells = A.cells + mc ∧ B.slots = A.slots + ms
def vx_Back (l : Launch) (R : Room) (p : Program) (e : Env) (below : List Frame) (s : State) (sargs : Array Value) (y : MethodName) (len W9 : Nat)
    (Pre : Pt → Array Value → Prop) (Post : Pt → Array Value → Option Value → Pt → Prop) (PostX : Pt → Array Value → Addr → Pt → Prop) : Prop :=
  ∀ (m : MethodId) (meth : Method) (c : Code) (A : Pt) (g : JFrame) (ig : Instr) (mk : MethodId) (a : Array Value),
    Stand p l e R s m sargs below meth c A.U A.locs A.cells A.slots → g.method = m → g.locals.size = c.maxLocals → decode c.code g.pc = .ok (ig, len) →
    2 * g.monitorRoom + (g.stack.map fun v => v.category).sum ≤ W9 → A.U.methodNamed? y = some mk → Pre A a →
    (∃ (v : Option Value) (B : Pt), Stand p l e R s m sargs below meth c B.U B.locs B.cells B.slots ∧ Post A a v B ∧
      Steps p.tables e below (doInvoke e (A.U.setTop g) [] mk a).1 (B.U.setTop { g with pc := g.pc + len, stack := v.toList ++ g.stack })) ∨
    (∃ (q : Addr) (B : Pt), Stand p l e R s m sargs below meth c B.U B.locs B.cells B.slots ∧ PostX A a q B ∧
      Steps p.tables e below (doInvoke e (A.U.setTop g) [] mk a).1 ((B.U.setTop g).pushFrame (.throwing q)))
section Payer
variable {l : Launch} {R : Room} {p : Program} {e : Env} {below : List Frame} {s : State} {sargs : Array Value} {y : MethodName} {len W9 : Nat}
theorem vx_back {ws : List Cond} {rm : Room} {Pc : Array Value → State → Prop} {Qc : Array Value → State → Outcome → State → Prop} {XC : String → State → State → Prop} {mc ms : Nat} {free : Addr → Prop} {bytes : ByteArray} {maxL : Nat} {ret : Option FieldType}
    (hM : vx_Met l y ws rm Pc Qc XC mc ms free) (hblind : FrameBlind Pc) (hrc : rm.cells = mc) (hrs : rm.slots = ms)
    (hframes : rm.frames + 1 ≤ R.frames) (hlocals : W9 + (maxL + 11) + rm.locals ≤ R.locals)
    (hws : ∀ w ∈ ws, ∀ a' U, s.WarmedH U.vm → w.before a' U = true) (hcode : Cond.code y bytes maxL ret ∈ ws) (hinit : ∀ a' U, s.WarmedH U.vm → (Cond.initialized y.cls).before a' U = true) :
    vx_Back l R p e below s sargs y len W9 (PreOf R mc ms Pc) (PostOf Qc mc ms free) (vx_Post XC mc ms free) := by
  intro m meth c A g ig mk a X hg hsize hdg hW hn hp
  have h1 : (headSpec ws rm).pre.before a A.U = true := atoms_intro fun w hw => hws w hw _ _ X.warmed
  have h2 : (Cond.code y bytes maxL ret).before a A.U = true := hws _ hcode _ _ X.warmed
  have h3 : (Cond.initialized y.cls).before a A.U = true := hinit _ _ X.warmed
  have h4 : A.cells + (headSpec ws rm).room.cells ≤ R.cells := by rw [show (headSpec ws rm).room.cells = mc from hrc]; exact hp.1
  have h5 : A.slots + (headSpec ws rm).room.slots ≤ R.slots := by rw [show (headSpec ws rm).room.slots = ms from hrs]; exact hp.2.1
  have hPc : Pc a (A.U.calling g mk a) := hblind _ _ _ _ hp.2.2
  obtain ⟨U, Ls, c0, s0⟩ := A
  dsimp only [Pt.U, Pt.locs, Pt.cells, Pt.slots] at h1 h2 h3 h4 h5 X hn hPc ⊢
  obtain ⟨methY, cY, hmY, hcY, -, hlY, -, -, -, -⟩ := Cond.code_spec hn h2
  obtain ⟨kY, hkY, -⟩ := className_of_methodNamed hn
  have hinitY : kY.init = .initialized := Cond.initialized_spec (findClass_of_methodNamed hn) hkY h3
  have h : At U g.method c below := by rw [hg]; exact X.here
  have hlocals9 : W9 + (maxL + 11) + (headSpec ws rm).room.locals ≤ R.locals := hlocals
  have happ : (headSpec ws rm).appliesLoose y e.platform (U.calling g mk a) = true :=
    Spec.appliesLoose_calling (g := g) h hdg hn hkY hinitY
      (X.room_calling (g := g) (R' := (headSpec ws rm).room) hsize hmY hcY hframes (by rw [hlY]; omega) h4 h5) h1
  obtain ⟨mid, hmid⟩ := h.above
  have hfr : (U.setTop g).frames = (.java g :: mid) ++ below := by rw [State.frames_setTop' g h.top, hmid]; rfl
  obtain ⟨o, s₂, hsteps, -, hend, hq⟩ := Steps.callFree hM p X.admits X.cas X.clock (acts := []) hfr happ hPc trivial
  have hq' : vx_Q Qc XC mc ms free a (U.calling g mk a) o s₂ := hq
  rw [State.frames_setTop' g h.top] at hend
  obtain ⟨g₀, hg0⟩ := Option.isSome_iff_exists.mp h.top
  obtain ⟨r, hr⟩ := State.topJava?_eq_some.mp hg0
  have hr' : (({ U with heap := s₂.heap, slotsUsed := s₂.slotsUsed } : State).setVm s₂.vm).frames = .java g₀ :: r := hr
  rcases hq' with ⟨hqc, L, hfe, hL⟩ | ⟨q, rfl, E, ce, L, hx, hce, hcv, hcl, hW₂, hsm, hL⟩
  · obtain ⟨⟨v, rfl⟩, hW₂, e2, q2, q3, q4, q5, q6⟩ := id hfe
    have e3 : s₂ = ({ (U.calling g mk a).setFrames s₂.frames with heap := s₂.heap, slotsUsed := s₂.slotsUsed } : State).setVm s₂.vm := by
      have : s₂ = ({ s₂ with vm := (U.calling g mk a).vm } : State).setVm s₂.vm := rfl
      rw [e2] at this
      exact this
    obtain ⟨c₂, i₂, len₂, hc₂, hd₂, hf₂⟩ := hend
    have hW' : U.WarmedH s₂.vm := hW₂
    have hcc : c₂ = c := by
      have h1 : s₂.code? g.method = U.code? g.method := by
        rw [State.code?_eq, State.code?_eq, hW'.alike.method?]
      exact Option.some.inj (hc₂.symm.trans (h1.trans h.code))
    subst hcc
    have hlen : len₂ = len := by rw [hdg] at hd₂; cases hd₂; rfl
    subst hlen
    have hs₂ : s₂ = (({ U with heap := s₂.heap, slotsUsed := s₂.slotsUsed } : State).setVm s₂.vm).setTop { g with pc := g.pc + len₂, stack := v.toList ++ g.stack } := by
      refine e3.trans ?_
      rw [hf₂, State.calling_eq h.top, State.setFrames_setFrames, State.setTop_of_frames _ hr', hr]
      rfl
    have hsame : U.sameButNew ({ U with heap := s₂.heap, slotsUsed := s₂.slotsUsed } : State) L mc ms := by
      refine ⟨?_, q2, q3, q4, q5, q6⟩
      obtain ⟨t, ht, -⟩ := State.frames_cons hr
      show ({ U with heap := s₂.heap, slotsUsed := s₂.slotsUsed } : State) = { U.setFrames U.frames with heap := s₂.heap, slotsUsed := s₂.slotsUsed }
      rw [State.setFrames_self ht]
    subst hg
    refine Or.inl ⟨v, ⟨(({ U with heap := s₂.heap, slotsUsed := s₂.slotsUsed } : State).setVm s₂.vm), Ls ++ L, c0 + mc, s0 + ms⟩,
      ⟨X.admits, X.cas, X.clock, X.frames, X.room, X.hears, X.method, X.code, (X.here.setHeapUsed s₂.heap s₂.slotsUsed).setVm hW'.alike, X.tail, State.WarmedH.trans X.warmed hW', X.limits, X.bytes, X.same.trans (hsame.setVm s.vm)⟩,
      ⟨g, mk, s₂, L, rfl, rfl, hqc, rfl, hL, rfl, rfl⟩, ?_⟩
    show Steps p.tables e below _ ((({ U with heap := s₂.heap, slotsUsed := s₂.slotsUsed } : State).setVm s₂.vm).setTop { g with pc := g.pc + len₂, stack := v.toList ++ g.stack })
    rw [← hs₂]
    exact hsteps
  · obtain ⟨e2, q2, q3, q4, q5, q6⟩ := id hsm
    have e3 : s₂ = ({ (U.calling g mk a).setFrames s₂.frames with heap := s₂.heap, slotsUsed := s₂.slotsUsed } : State).setVm s₂.vm := by
      have : s₂ = ({ s₂ with vm := (U.calling g mk a).vm } : State).setVm s₂.vm := rfl
      rw [e2] at this
      exact this
    have hf₂ : s₂.frames = .throwing q :: .java g :: U.frames.tail := hend
    have hW' : U.WarmedH s₂.vm := hW₂
    have hs₂ : s₂ = ((({ U with heap := s₂.heap, slotsUsed := s₂.slotsUsed } : State).setVm s₂.vm).setTop g).pushFrame (.throwing q) := by
      refine e3.trans ?_
      rw [hf₂, State.calling_eq h.top, State.setFrames_setFrames, State.pushFrame, State.frames_setTop _ hr', State.setTop_of_frames _ hr', State.setFrames_setFrames, hr]
      rfl
    have hsame : U.sameButNew ({ U with heap := s₂.heap, slotsUsed := s₂.slotsUsed } : State) L mc ms := by
      refine ⟨?_, q2, q3, q4, q5, q6⟩
      obtain ⟨t, ht, -⟩ := State.frames_cons hr
      show ({ U with heap := s₂.heap, slotsUsed := s₂.slotsUsed } : State) = { U.setFrames U.frames with heap := s₂.heap, slotsUsed := s₂.slotsUsed }
      rw [State.setFrames_self ht]
    subst hg
    refine Or.inr ⟨q, ⟨(({ U with heap := s₂.heap, slotsUsed := s₂.slotsUsed } : State).setVm s₂.vm), Ls ++ L, c0 + mc, s0 + ms⟩,
      ⟨X.admits, X.cas, X.clock, X.frames, X.room, X.hears, X.method, X.code, (X.here.setHeapUsed s₂.heap s₂.slotsUsed).setVm hW'.alike, X.tail, State.WarmedH.trans X.warmed hW', X.limits, X.bytes, X.same.trans (hsame.setVm s.vm)⟩,
      ⟨g, mk, s₂, L, E, ce, rfl, rfl, hx, hce, hcv, hcl, rfl, hL, rfl, rfl⟩, ?_⟩
    show Steps p.tables e below _ (((({ U with heap := s₂.heap, slotsUsed := s₂.slotsUsed } : State).setVm s₂.vm).setTop g).pushFrame (.throwing q))
    rw [← hs₂]
    exact hsteps
end Payer
section Calls
variable {p : Program} {l : Launch} {e : Env} {R : Room} {s : State} {m : MethodId} {args : Array Value} {below : List Frame} {meth : Method} {c : Code} {T : State} {locs : List Loc} {cells slots : Nat}
theorem vx_callV (X : Stand p l e R s m args below meth c T locs cells slots) (hexec : p.tables.exec = Jvm.exec) {own C : String} {index : Nat} {y : MethodName} {bytes : ByteArray} {maxL : Nat} {ret : Option FieldType}
    (hown : s.vm.findClass own = some m.cls) (hlink : (Cond.methodLink own index y).before args s = true) (hinst : (Cond.instanceMethod y).before args s = true) (hsel : (Cond.selects C y y).before args s = true)
    (hcode : (Cond.code y bytes maxL ret).before args s = true) (hy : y.cls ≠ "java/lang/invoke/MethodHandle" ∧ y.cls ≠ "java/lang/invoke/VarHandle")
    {W9 : Nat} {Pre : Pt → Array Value → Prop} {Post : Pt → Array Value → Option Value → Pt → Prop} {PostX : Pt → Array Value → Addr → Pt → Prop} (hK : vx_Back l R p e below s args y 3 W9 Pre Post PostX)
    {b : Addr} {cellB : Cell} (hcell : T.heap[b]? = some cellB) (hobj : cellB.vm.isStatics = false) (hcls : s.vm.findClass C = some cellB.cls)
    {g : JFrame} (hg : g.method = m) (hsize : g.locals.size = c.maxLocals) {argsL rest : List Value} (hlen : ∀ sig, parseMethodDescriptor y.desc = some sig → argsL.length = sig.parameters.length)
    (hstack : g.stack = argsL.reverse ++ .ref b :: rest) (hW : 2 * g.monitorRoom + (rest.map fun v => v.category).sum ≤ W9) (hdg : decode c.code g.pc = .ok (.invokevirtual index, 3))
    (hpre : ∀ vm₁, s.WarmedH vm₁ → Pre ⟨T.setVm vm₁, locs, cells, slots⟩ (Value.ref b :: argsL).toArray) :
    (∃ (v : Option Value) (vm₁ : Vm) (B : Pt), s.WarmedH vm₁ ∧ Stand p l e R s m args below meth c B.U B.locs B.cells B.slots ∧ Post ⟨T.setVm vm₁, locs, cells, slots⟩ (Value.ref b :: argsL).toArray v B ∧
      ∀ target, Steps p.tables e below (B.U.setTop { g with pc := g.pc + 3, stack := v.toList ++ rest }) target → Steps p.tables e below (T.setTop g) target) ∨
    (∃ (q : Addr) (vm₁ : Vm) (B : Pt), s.WarmedH vm₁ ∧ Stand p l e R s m args below meth c B.U B.locs B.cells B.slots ∧ PostX ⟨T.setVm vm₁, locs, cells, slots⟩ (Value.ref b :: argsL).toArray q B ∧
      Steps p.tables e below (T.setTop g) ((B.U.setTop { g with stack := rest }).pushFrame (.throwing q))) := by
  obtain ⟨mk, methM, hnamed, hmethM, hstM, habM⟩ := Cond.instanceMethod_spec hinst
  obtain ⟨methM', cM, hmethM', -, -, -, -, -, -, hsigM⟩ := Cond.code_spec hnamed hcode
  cases hmethM.symm.trans hmethM'
  obtain ⟨c2, r2, m2, q1, q2, q3, q4, kP, hkP, hkPi⟩ := Cond.selects_spec hsel
  cases hcls.symm.trans q1
  cases (State.methodFound?_of_named hnamed hy).symm.trans q2
  cases hnamed.symm.trans q3
  have hselP : selectMethod e.platform s.vm cellB.cls mk = .method mk := by rw [Launch.admits_selectMethod X.admits]; exact q4
  obtain ⟨vm₁, X₁, hstep₁⟩ := X.invokevirtual hexec hown hlink hnamed hmethM hstM hkP hkPi hy (a := b) (cell := cellB) hcell
    (fun z h => by rw [h] at hobj; cases hobj) hselP hmethM habM hkP hkPi (g := g) hg (argsL := argsL) (rest := rest) (hlen _ hsigM) hstack hdg
  rcases hK m meth c ⟨T.setVm vm₁, locs, cells, slots⟩ { g with stack := rest } (.invokevirtual index) mk (Value.ref b :: argsL).toArray X₁ hg hsize hdg hW (X₁.named hnamed) (hpre vm₁ X₁.warmed) with ⟨v, B, X', hpost, hsteps⟩ | ⟨q, B, X', hpost, hsteps⟩
  · exact Or.inl ⟨v, vm₁, B, X₁.warmed, X', hpost, fun target h => hstep₁ _ fun acts => by rw [doInvoke_state]; exact hsteps.trans h⟩
  · exact Or.inr ⟨q, vm₁, B, X₁.warmed, X', hpost, hstep₁ _ fun acts => by rw [doInvoke_state]; exact hsteps⟩
theorem vx_callS (X : Stand p l e R s m args below meth c T locs cells slots) (hexec : p.tables.exec = Jvm.exec) {own : String} {index : Nat} {y : MethodName} {bytes : ByteArray} {maxL : Nat} {ret : Option FieldType}
    (hown : s.vm.findClass own = some m.cls) (hlink : (Cond.methodLink own index y).before args s = true) (hstat : (Cond.static y).before args s = true) (hinit : (Cond.initialized y.cls).before args s = true)
    (hcode : (Cond.code y bytes maxL ret).before args s = true) (hy : y.cls ≠ "java/lang/invoke/MethodHandle" ∧ y.cls ≠ "java/lang/invoke/VarHandle")
    {W9 : Nat} {Pre : Pt → Array Value → Prop} {Post : Pt → Array Value → Option Value → Pt → Prop} {PostX : Pt → Array Value → Addr → Pt → Prop} (hK : vx_Back l R p e below s args y 3 W9 Pre Post PostX)
    {g : JFrame} (hg : g.method = m) (hsize : g.locals.size = c.maxLocals) {argsL rest : List Value} (hlen : ∀ sig, parseMethodDescriptor y.desc = some sig → argsL.length = sig.parameters.length)
    (hstack : g.stack = argsL.reverse ++ rest) (hW : 2 * g.monitorRoom + (rest.map fun v => v.category).sum ≤ W9) (hdg : decode c.code g.pc = .ok (.invokestatic index, 3))
    (hpre : ∀ vm₁, s.WarmedH vm₁ → Pre ⟨T.setVm vm₁, locs, cells, slots⟩ argsL.toArray) :
    (∃ (v : Option Value) (vm₁ : Vm) (B : Pt), s.WarmedH vm₁ ∧ Stand p l e R s m args below meth c B.U B.locs B.cells B.slots ∧ Post ⟨T.setVm vm₁, locs, cells, slots⟩ argsL.toArray v B ∧
      ∀ target, Steps p.tables e below (B.U.setTop { g with pc := g.pc + 3, stack := v.toList ++ rest }) target → Steps p.tables e below (T.setTop g) target) ∨
    (∃ (q : Addr) (vm₁ : Vm) (B : Pt), s.WarmedH vm₁ ∧ Stand p l e R s m args below meth c B.U B.locs B.cells B.slots ∧ PostX ⟨T.setVm vm₁, locs, cells, slots⟩ argsL.toArray q B ∧
      Steps p.tables e below (T.setTop g) ((B.U.setTop { g with stack := rest }).pushFrame (.throwing q))) := by
  obtain ⟨mk, hnamed⟩ := Cond.code_named hcode
  obtain ⟨methM, cM, hmethM, -, -, -, -, -, -, hsigM⟩ := Cond.code_spec hnamed hcode
  have hstatic : methM.isStatic = true := Cond.static_spec hnamed hmethM hstat
  obtain ⟨kP, hkP, -⟩ := className_of_methodNamed hnamed
  have hinitP : kP.init = .initialized := Cond.initialized_spec (findClass_of_methodNamed hnamed) hkP hinit
  obtain ⟨vm₁, X₁, hstep₁⟩ := X.invokestatic hexec hown hlink hnamed hmethM hstatic hkP hinitP hy (g := g) hg (argsL := argsL) (rest := rest) (hlen _ hsigM) hstack hdg
  rcases hK m meth c ⟨T.setVm vm₁, locs, cells, slots⟩ { g with stack := rest } (.invokestatic index) mk argsL.toArray X₁ hg hsize hdg hW (X₁.named hnamed) (hpre vm₁ X₁.warmed) with ⟨v, B, X', hpost, hsteps⟩ | ⟨q, B, X', hpost, hsteps⟩
  · exact Or.inl ⟨v, vm₁, B, X₁.warmed, X', hpost, fun target h => hstep₁ _ fun acts => by rw [doInvoke_state]; exact hsteps.trans h⟩
  · exact Or.inr ⟨q, vm₁, B, X₁.warmed, X', hpost, hstep₁ _ fun acts => by rw [doInvoke_state]; exact hsteps⟩
end Calls
theorem vx_cls {s : State} {T : State} {vm₁ : Vm} {E : String} {k : ClassId} (hW : s.WarmedH vm₁) (h : (T.setVm vm₁).vm.findClass E = some k) : s.vm.findClass E = some k := by
  have h1 : vm₁.findClass E = some k := h
  rw [hW.alike.findClass] at h1
  exact h1
/-- the method's frame g, with q thrown over it -/
def vx_W (p : Program) (l : Launch) (e : Env) (R : Room) (s : State) (m : MethodId) (args : Array Value) (below : List Frame) (meth : Method) (c : Code) (H : Heap) (locs : List Loc) (cells slots : Nat) (Q : State → Prop) (g : JFrame) (q : Addr) : Prop :=
  ∀ T : State, T.heap = H → Stand p l e R s m args below meth c T locs cells slots → ∃ t, Steps p.tables e below ((T.setTop g).pushFrame (.throwing q)) t ∧ Q t
def vx_Run (p : Program) (l : Launch) (e : Env) (R : Room) (s : State) (m : MethodId) (args : Array Value) (below : List Frame) (meth : Method) (c : Code) (H : Heap) (locs : List Loc) (cells slots mc ms : Nat) (g : JFrame) (rest : List Value) (Qa : State → Outcome → State → Prop) (XC : String → State → State → Prop) (free : Addr → Prop) : Prop :=
  ∀ T : State, T.heap = H → Stand p l e R s m args below meth c T locs cells slots →
    (∃ (v : Option Value) (st₀ t T' : State) (L : List Loc), st₀.heap = H ∧ Stand p l e R s m args below meth c T' (locs ++ L) (cells + mc) (slots + ms) ∧ (∀ q ∈ L, free q.base) ∧ T'.heap = t.heap ∧ T'.vm = t.vm ∧ Qa st₀ (.returned v) t ∧
      Goes p e below T g T' { g with pc := g.pc + 3, stack := v.toList ++ rest }) ∨
    (∃ (q : Addr) (st₀ t T' : State) (L : List Loc) (E : String) (ce : Cell), st₀.heap = H ∧ Stand p l e R s m args below meth c T' (locs ++ L) (cells + mc) (slots + ms) ∧ (∀ z ∈ L, free z.base) ∧ T'.heap = t.heap ∧ T'.vm = t.vm ∧ XC E st₀ t ∧ t.heap[q]? = some ce ∧ ce.vm = .none ∧ s.vm.findClass E = some ce.cls ∧
      Steps p.tables e below (T.setTop g) ((T'.setTop { g with stack := rest }).pushFrame (.throwing q)))
def vx_X {S : Type} (px : S → Prop) (B : String → S → State → Prop) (A : Nat → Prop) : String → State → State → Prop := fun E st t => ∃ u : S, px u ∧ B E u t ∧ va_F A st t
section Runs
variable {p : Program} {l : Launch} {e : Env} {R : Room} {s : State} {m : MethodId} {args : Array Value} {below : List Frame} {meth : Method} {c : Code} {H : Heap} {locs : List Loc} {cells slots : Nat}
variable {y : MethodName} {bytes cc : ByteArray} {maxL nL mc ms n index : Nat} {ret : Option FieldType} {ws : List Cond} {rm : Room} {Pc : Array Value → State → Prop} {Qc : Array Value → State → Outcome → State → Prop} {XC : String → State → State → Prop} {free : Addr → Prop} {Ts : List Cond} {own C : String} {b : Addr} {As rest : List Value} {g : JFrame}
theorem vx_callBack (cb : CallB R s args own index y bytes maxL ret ws rm mc ms n) (hM : vx_Met l y ws rm Pc Qc XC mc ms free) (hbl : FrameBlind Pc) : vx_Back l R p e below s args y 3 8 (PreOf R mc ms Pc) (PostOf Qc mc ms free) (vx_Post XC mc ms free) := by
  obtain ⟨hrc, hrs, hfr, hlo, hws, hcw, -, hini, -⟩ := cb
  exact vx_back (bytes := bytes) (maxL := maxL) (ret := ret) hM hbl hrc hrs hfr hlo hws hcw (fun a' U hW => word_at hW (Or.inl (by first | rfl | simp [Cond.onTables, Cond.keeps, Cond.steady])) hini)
theorem vx_runV (S : CallFix p m c cc nL s args Ts own) (hM : vx_Met l y ws rm Pc Qc XC mc ms free) (cw : CallW R s args own C index y bytes maxL ret ws rm mc ms n) (hp : PreV s H C b Pc As)
    (hg : g.method = m) (hn : As.length = n) (hsize : g.locals.size = nL) (hstack : g.stack = As.reverse ++ .ref b :: rest) (hW : 2 * g.monitorRoom + (rest.map fun v => v.category).sum ≤ 8) (hdg : decode cc g.pc = .ok (.invokevirtual index, 3)) (hf : cells + mc ≤ R.cells ∧ slots + ms ≤ R.slots) :
    vx_Run p l e R s m args below meth c H locs cells slots mc ms g rest (Qc (Value.ref b :: As).toArray) XC free := by
  have hK : vx_Back l R p e below s args y 3 8 (PreOf R mc ms Pc) (PostOf Qc mc ms free) (vx_Post XC mc ms free) := vx_callBack cw.1 hM hp.1
  obtain ⟨⟨-, -, -, -, -, -, hcode, -, hy, hlen, hl⟩, hin, hse⟩ := cw
  obtain ⟨hx, hb, hml, ho, -⟩ := S
  obtain ⟨-, ⟨cellB, hcB, hoB, hclB⟩, hPc⟩ := hp
  intro T hT X
  rcases vx_callV X hx (C := C) (bytes := bytes) (maxL := maxL) (ret := ret) ho hl hin hse hcode hy hK (by rw [hT]; exact hcB) hoB hclB hg (hsize.trans hml.symm) (argsL := As) (rest := rest) (fun sig h => hn.trans (hlen sig h)) hstack hW (by rw [hb]; exact hdg)
    (fun vm₁ hW₁ => ⟨hf.1, hf.2, hPc (T.setVm vm₁) hT hW₁⟩) with ⟨v, vm₁, ⟨U', l2, c2, s2⟩, hW₁, X', ⟨g', mk, t, L, e1, e2, hq, h1, hL, h2, h3⟩, st⟩ | ⟨q, vm₁, ⟨U', l2, c2, s2⟩, hW₁, X', ⟨g', mk, t, L, E, ce, e1, e2, hq, hce, hcv, hcl, h1, hL, h2, h3⟩, st⟩
  · dsimp only [Pt.U, Pt.locs, Pt.cells, Pt.slots] at X' e1 e2 h1 h2 h3 st
    subst h1; subst h2; subst h3
    exact Or.inl ⟨v, (T.setVm vm₁).calling g' mk (Value.ref b :: As).toArray, t, U', L, hT, X', hL, e1, e2, hq, st⟩
  · dsimp only [Pt.U, Pt.locs, Pt.cells, Pt.slots] at X' e1 e2 h1 h2 h3 st hcl
    subst h1; subst h2; subst h3
    exact Or.inr ⟨q, (T.setVm vm₁).calling g' mk (Value.ref b :: As).toArray, t, U', L, E, ce, hT, X', hL, e1, e2, hq, hce, hcv, vx_cls hW₁ hcl, st⟩
theorem vx_runS (S : CallFix p m c cc nL s args Ts own) (hM : vx_Met l y ws rm Pc Qc XC mc ms free) (cw : CallB R s args own index y bytes maxL ret ws rm mc ms n ∧ (Cond.static y).before args s = true) (hp : PreS s H Pc As)
    (hg : g.method = m) (hn : As.length = n) (hsize : g.locals.size = nL) (hstack : g.stack = As.reverse ++ rest) (hW : 2 * g.monitorRoom + (rest.map fun v => v.category).sum ≤ 8) (hdg : decode cc g.pc = .ok (.invokestatic index, 3)) (hf : cells + mc ≤ R.cells ∧ slots + ms ≤ R.slots) :
    vx_Run p l e R s m args below meth c H locs cells slots mc ms g rest (Qc As.toArray) XC free := by
  have hK : vx_Back l R p e below s args y 3 8 (PreOf R mc ms Pc) (PostOf Qc mc ms free) (vx_Post XC mc ms free) := vx_callBack cw.1 hM hp.1
  obtain ⟨⟨-, -, -, -, -, -, hcode, hini, hy, hlen, hl⟩, hstt⟩ := cw
  obtain ⟨hx, hb, hml, ho, -⟩ := S
  intro T hT X
  rcases vx_callS X hx (bytes := bytes) (maxL := maxL) (ret := ret) ho hl hstt hini hcode hy hK hg (hsize.trans hml.symm) (argsL := As) (rest := rest) (fun sig h => hn.trans (hlen sig h)) hstack hW (by rw [hb]; exact hdg)
    (fun vm₁ hW₁ => ⟨hf.1, hf.2, hp.2 (T.setVm vm₁) hT hW₁⟩) with ⟨v, vm₁, ⟨U', l2, c2, s2⟩, hW₁, X', ⟨g', mk, t, L, e1, e2, hq, h1, hL, h2, h3⟩, st⟩ | ⟨q, vm₁, ⟨U', l2, c2, s2⟩, hW₁, X', ⟨g', mk, t, L, E, ce, e1, e2, hq, hce, hcv, hcl, h1, hL, h2, h3⟩, st⟩
  · dsimp only [Pt.U, Pt.locs, Pt.cells, Pt.slots] at X' e1 e2 h1 h2 h3 st
    subst h1; subst h2; subst h3
    exact Or.inl ⟨v, (T.setVm vm₁).calling g' mk As.toArray, t, U', L, hT, X', hL, e1, e2, hq, st⟩
  · dsimp only [Pt.U, Pt.locs, Pt.cells, Pt.slots] at X' e1 e2 h1 h2 h3 st hcl
    subst h1; subst h2; subst h3
    exact Or.inr ⟨q, (T.setVm vm₁).calling g' mk As.toArray, t, U', L, E, ce, hT, X', hL, e1, e2, hq, hce, hcv, vx_cls hW₁ hcl, st⟩
end Runs
section Rows
variable {p : Program} {l : Launch} {e : Env} {R : Room} {s : State} {m : MethodId} {args : Array Value} {below : List Frame} {meth : Method} {c : Code} {H : Heap} {locs : List Loc} {cells slots : Nat} {Q : State → Prop}
variable {mc ms : Nat} {free : Addr → Prop} {A0 A1 : Nat → Prop} {H0 : Heap} {a : Array Value} {pc : Nat} {ls : Array Slot} {st0 rest : List Value}
theorem vx_keep {st₀ t T' : State} {L : List Loc} (h0 : st₀.heap = H) (e1 : T'.heap = t.heap) (hS : va_S A0 H0 H locs) (hA : ∀ q, q < H.size → A1 q → A0 q) (hf : ∀ q, free q → A0 q) (hL : ∀ q ∈ L, free q.base) (hF : va_F A1 st₀ t) :
    H.size ≤ T'.heap.size ∧ (∀ q : Nat, q < H.size → ¬ A1 q → T'.heap[q]? = H[q]?) ∧ va_S A0 H0 T'.heap (locs ++ L) := by
  obtain ⟨hz, hk⟩ := hF
  rw [h0] at hz hk
  exact ⟨by rw [e1]; exact hz, fun q h1 h2 => by rw [e1]; exact hk q h1 h2,
    ⟨Nat.le_trans hS.1 (by rw [e1]; exact hz), fun q h1 h2 => by rw [e1, hk q (Nat.lt_of_lt_of_le h1 hS.1) (fun z => h2 (hA q (Nat.lt_of_lt_of_le h1 hS.1) z))]; exact hS.2.1 q h1 h2, fun q hq => by
      rcases List.mem_append.mp hq with h | h
      · exact hS.2.2 q h
      · exact hf _ (hL q h)⟩⟩
theorem vx_calli {S SX : Type} {post : Int32 → S → Prop} {px : SX → Prop} {B : S → State → Prop} {BX : String → SX → State → Prop} {AX : Nat → Prop} (hr : vx_Run p l e R s m args below meth c H locs cells slots mc ms (F0 m pc ls st0) rest (va_Qi post B A1 a) (vx_X px BX AX) free) (hS : va_S A0 H0 H locs) (hA : ∀ q, q < H.size → A1 q → A0 q) (hf : ∀ q, free q → A0 q) (hAX : ∀ q, q < H.size → AX q → A0 q)
    (kx : ∀ (E : String) (ce : Cell) (q9 : Addr) (u : SX) (t : State) (H1 : Heap) (locs1 : List Loc), t.heap = H1 → s.vm.Alike t.vm → px u → BX E u t → H.size ≤ H1.size → (∀ q : Nat, q < H.size → ¬ AX q → H1[q]? = H[q]?) → va_S A0 H0 H1 locs1 → H1[q9]? = some ce → ce.vm = .none → s.vm.findClass E = some ce.cls → vx_W p l e R s m args below meth c H1 locs1 (cells + mc) (slots + ms) Q (F0 m pc ls rest) q9)
    (kk : ∀ (r : Int32) (u : S) (t : State) (H1 : Heap) (locs1 : List Loc), t.heap = H1 → s.vm.Alike t.vm → post r u → B u t → H.size ≤ H1.size → (∀ q : Nat, q < H.size → ¬ A1 q → H1[q]? = H[q]?) → va_S A0 H0 H1 locs1 → W p l e R s m args below meth c H1 locs1 (cells + mc) (slots + ms) Q (F0 m (pc + 3) ls (.int r :: rest))) : W p l e R s m args below meth c H locs cells slots Q (F0 m pc ls st0) := by
  intro T hT X
  rcases hr T hT X with ⟨v, st₀, t, T', L, h0, X', hL, e1, e2, ⟨⟨r, u, hv, hp, hb⟩, hF⟩, st⟩ | ⟨q, st₀, t, T', L, E, ce, h0, X', hL, e1, e2, ⟨u, hp, hb, hF⟩, hce, hcv, hcl, st⟩
  · cases hv
    obtain ⟨k1, k2, k3⟩ := vx_keep h0 e1 hS hA hf hL hF
    obtain ⟨t2, a1, b1⟩ := kk r u t T'.heap (locs ++ L) e1.symm (by rw [← e2]; exact X'.warmed.alike) hp hb k1 k2 k3 T' rfl X'
    exact ⟨t2, st t2 a1, b1⟩
  · obtain ⟨k1, k2, k3⟩ := vx_keep h0 e1 hS hAX hf hL hF
    obtain ⟨t2, a1, b1⟩ := kx E ce q u t T'.heap (locs ++ L) e1.symm (by rw [← e2]; exact X'.warmed.alike) hp hb k1 k2 k3 (by rw [e1]; exact hce) hcv hcl T' rfl X'
    exact ⟨t2, st.trans a1, b1⟩
theorem vx_calll {S SX : Type} {post : Int64 → S → Prop} {px : SX → Prop} {B : S → State → Prop} {BX : String → SX → State → Prop} {AX : Nat → Prop} (hr : vx_Run p l e R s m args below meth c H locs cells slots mc ms (F0 m pc ls st0) rest (va_Ql post B A1 a) (vx_X px BX AX) free) (hS : va_S A0 H0 H locs) (hA : ∀ q, q < H.size → A1 q → A0 q) (hf : ∀ q, free q → A0 q) (hAX : ∀ q, q < H.size → AX q → A0 q)
    (kx : ∀ (E : String) (ce : Cell) (q9 : Addr) (u : SX) (t : State) (H1 : Heap) (locs1 : List Loc), t.heap = H1 → s.vm.Alike t.vm → px u → BX E u t → H.size ≤ H1.size → (∀ q : Nat, q < H.size → ¬ AX q → H1[q]? = H[q]?) → va_S A0 H0 H1 locs1 → H1[q9]? = some ce → ce.vm = .none → s.vm.findClass E = some ce.cls → vx_W p l e R s m args below meth c H1 locs1 (cells + mc) (slots + ms) Q (F0 m pc ls rest) q9)
    (kk : ∀ (r : Int64) (u : S) (t : State) (H1 : Heap) (locs1 : List Loc), t.heap = H1 → s.vm.Alike t.vm → post r u → B u t → H.size ≤ H1.size → (∀ q : Nat, q < H.size → ¬ A1 q → H1[q]? = H[q]?) → va_S A0 H0 H1 locs1 → W p l e R s m args below meth c H1 locs1 (cells + mc) (slots + ms) Q (F0 m (pc + 3) ls (.long r :: rest))) : W p l e R s m args below meth c H locs cells slots Q (F0 m pc ls st0) := by
  intro T hT X
  rcases hr T hT X with ⟨v, st₀, t, T', L, h0, X', hL, e1, e2, ⟨⟨r, u, hv, hp, hb⟩, hF⟩, st⟩ | ⟨q, st₀, t, T', L, E, ce, h0, X', hL, e1, e2, ⟨u, hp, hb, hF⟩, hce, hcv, hcl, st⟩
  · cases hv
    obtain ⟨k1, k2, k3⟩ := vx_keep h0 e1 hS hA hf hL hF
    obtain ⟨t2, a1, b1⟩ := kk r u t T'.heap (locs ++ L) e1.symm (by rw [← e2]; exact X'.warmed.alike) hp hb k1 k2 k3 T' rfl X'
    exact ⟨t2, st t2 a1, b1⟩
  · obtain ⟨k1, k2, k3⟩ := vx_keep h0 e1 hS hAX hf hL hF
    obtain ⟨t2, a1, b1⟩ := kx E ce q u t T'.heap (locs ++ L) e1.symm (by rw [← e2]; exact X'.warmed.alike) hp hb k1 k2 k3 (by rw [e1]; exact hce) hcv hcl T' rfl X'
    exact ⟨t2, st.trans a1, b1⟩
theorem vx_callf {S SX : Type} {post : UInt32 → S → Prop} {px : SX → Prop} {B : S → State → Prop} {BX : String → SX → State → Prop} {AX : Nat → Prop} (hr : vx_Run p l e R s m args below meth c H locs cells slots mc ms (F0 m pc ls st0) rest (va_Qf post B A1 a) (vx_X px BX AX) free) (hS : va_S A0 H0 H locs) (hA : ∀ q, q < H.size → A1 q → A0 q) (hf : ∀ q, free q → A0 q) (hAX : ∀ q, q < H.size → AX q → A0 q)
    (kx : ∀ (E : String) (ce : Cell) (q9 : Addr) (u : SX) (t : State) (H1 : Heap) (locs1 : List Loc), t.heap = H1 → s.vm.Alike t.vm → px u → BX E u t → H.size ≤ H1.size → (∀ q : Nat, q < H.size → ¬ AX q → H1[q]? = H[q]?) → va_S A0 H0 H1 locs1 → H1[q9]? = some ce → ce.vm = .none → s.vm.findClass E = some ce.cls → vx_W p l e R s m args below meth c H1 locs1 (cells + mc) (slots + ms) Q (F0 m pc ls rest) q9)
    (kk : ∀ (r : UInt32) (u : S) (t : State) (H1 : Heap) (locs1 : List Loc), t.heap = H1 → s.vm.Alike t.vm → post r u → B u t → H.size ≤ H1.size → (∀ q : Nat, q < H.size → ¬ A1 q → H1[q]? = H[q]?) → va_S A0 H0 H1 locs1 → W p l e R s m args below meth c H1 locs1 (cells + mc) (slots + ms) Q (F0 m (pc + 3) ls (.float r :: rest))) : W p l e R s m args below meth c H locs cells slots Q (F0 m pc ls st0) := by
  intro T hT X
  rcases hr T hT X with ⟨v, st₀, t, T', L, h0, X', hL, e1, e2, ⟨⟨r, u, hv, hp, hb⟩, hF⟩, st⟩ | ⟨q, st₀, t, T', L, E, ce, h0, X', hL, e1, e2, ⟨u, hp, hb, hF⟩, hce, hcv, hcl, st⟩
  · cases hv
    obtain ⟨k1, k2, k3⟩ := vx_keep h0 e1 hS hA hf hL hF
    obtain ⟨t2, a1, b1⟩ := kk r u t T'.heap (locs ++ L) e1.symm (by rw [← e2]; exact X'.warmed.alike) hp hb k1 k2 k3 T' rfl X'
    exact ⟨t2, st t2 a1, b1⟩
  · obtain ⟨k1, k2, k3⟩ := vx_keep h0 e1 hS hAX hf hL hF
    obtain ⟨t2, a1, b1⟩ := kx E ce q u t T'.heap (locs ++ L) e1.symm (by rw [← e2]; exact X'.warmed.alike) hp hb k1 k2 k3 (by rw [e1]; exact hce) hcv hcl T' rfl X'
    exact ⟨t2, st.trans a1, b1⟩
theorem vx_calld {S SX : Type} {post : UInt64 → S → Prop} {px : SX → Prop} {B : S → State → Prop} {BX : String → SX → State → Prop} {AX : Nat → Prop} (hr : vx_Run p l e R s m args below meth c H locs cells slots mc ms (F0 m pc ls st0) rest (va_Qd post B A1 a) (vx_X px BX AX) free) (hS : va_S A0 H0 H locs) (hA : ∀ q, q < H.size → A1 q → A0 q) (hf : ∀ q, free q → A0 q) (hAX : ∀ q, q < H.size → AX q → A0 q)
    (kx : ∀ (E : String) (ce : Cell) (q9 : Addr) (u : SX) (t : State) (H1 : Heap) (locs1 : List Loc), t.heap = H1 → s.vm.Alike t.vm → px u → BX E u t → H.size ≤ H1.size → (∀ q : Nat, q < H.size → ¬ AX q → H1[q]? = H[q]?) → va_S A0 H0 H1 locs1 → H1[q9]? = some ce → ce.vm = .none → s.vm.findClass E = some ce.cls → vx_W p l e R s m args below meth c H1 locs1 (cells + mc) (slots + ms) Q (F0 m pc ls rest) q9)
    (kk : ∀ (r : UInt64) (u : S) (t : State) (H1 : Heap) (locs1 : List Loc), t.heap = H1 → s.vm.Alike t.vm → post r u → B u t → H.size ≤ H1.size → (∀ q : Nat, q < H.size → ¬ A1 q → H1[q]? = H[q]?) → va_S A0 H0 H1 locs1 → W p l e R s m args below meth c H1 locs1 (cells + mc) (slots + ms) Q (F0 m (pc + 3) ls (.double r :: rest))) : W p l e R s m args below meth c H locs cells slots Q (F0 m pc ls st0) := by
  intro T hT X
  rcases hr T hT X with ⟨v, st₀, t, T', L, h0, X', hL, e1, e2, ⟨⟨r, u, hv, hp, hb⟩, hF⟩, st⟩ | ⟨q, st₀, t, T', L, E, ce, h0, X', hL, e1, e2, ⟨u, hp, hb, hF⟩, hce, hcv, hcl, st⟩
  · cases hv
    obtain ⟨k1, k2, k3⟩ := vx_keep h0 e1 hS hA hf hL hF
    obtain ⟨t2, a1, b1⟩ := kk r u t T'.heap (locs ++ L) e1.symm (by rw [← e2]; exact X'.warmed.alike) hp hb k1 k2 k3 T' rfl X'
    exact ⟨t2, st t2 a1, b1⟩
  · obtain ⟨k1, k2, k3⟩ := vx_keep h0 e1 hS hAX hf hL hF
    obtain ⟨t2, a1, b1⟩ := kx E ce q u t T'.heap (locs ++ L) e1.symm (by rw [← e2]; exact X'.warmed.alike) hp hb k1 k2 k3 (by rw [e1]; exact hce) hcv hcl T' rfl X'
    exact ⟨t2, st.trans a1, b1⟩
theorem vx_callv {S SX : Type} {post : S → Prop} {px : SX → Prop} {B : S → State → Prop} {BX : String → SX → State → Prop} {AX : Nat → Prop} (hr : vx_Run p l e R s m args below meth c H locs cells slots mc ms (F0 m pc ls st0) rest (va_Qv post B A1 a) (vx_X px BX AX) free) (hS : va_S A0 H0 H locs) (hA : ∀ q, q < H.size → A1 q → A0 q) (hf : ∀ q, free q → A0 q) (hAX : ∀ q, q < H.size → AX q → A0 q)
    (kx : ∀ (E : String) (ce : Cell) (q9 : Addr) (u : SX) (t : State) (H1 : Heap) (locs1 : List Loc), t.heap = H1 → s.vm.Alike t.vm → px u → BX E u t → H.size ≤ H1.size → (∀ q : Nat, q < H.size → ¬ AX q → H1[q]? = H[q]?) → va_S A0 H0 H1 locs1 → H1[q9]? = some ce → ce.vm = .none → s.vm.findClass E = some ce.cls → vx_W p l e R s m args below meth c H1 locs1 (cells + mc) (slots + ms) Q (F0 m pc ls rest) q9)
    (kk : ∀ (u : S) (t : State) (H1 : Heap) (locs1 : List Loc), t.heap = H1 → s.vm.Alike t.vm → post u → B u t → H.size ≤ H1.size → (∀ q : Nat, q < H.size → ¬ A1 q → H1[q]? = H[q]?) → va_S A0 H0 H1 locs1 → W p l e R s m args below meth c H1 locs1 (cells + mc) (slots + ms) Q (F0 m (pc + 3) ls (rest))) : W p l e R s m args below meth c H locs cells slots Q (F0 m pc ls st0) := by
  intro T hT X
  rcases hr T hT X with ⟨v, st₀, t, T', L, h0, X', hL, e1, e2, ⟨⟨u, hv, hp, hb⟩, hF⟩, st⟩ | ⟨q, st₀, t, T', L, E, ce, h0, X', hL, e1, e2, ⟨u, hp, hb, hF⟩, hce, hcv, hcl, st⟩
  · cases hv
    obtain ⟨k1, k2, k3⟩ := vx_keep h0 e1 hS hA hf hL hF
    obtain ⟨t2, a1, b1⟩ := kk u t T'.heap (locs ++ L) e1.symm (by rw [← e2]; exact X'.warmed.alike) hp hb k1 k2 k3 T' rfl X'
    exact ⟨t2, st t2 a1, b1⟩
  · obtain ⟨k1, k2, k3⟩ := vx_keep h0 e1 hS hAX hf hL hF
    obtain ⟨t2, a1, b1⟩ := kx E ce q u t T'.heap (locs ++ L) e1.symm (by rw [← e2]; exact X'.warmed.alike) hp hb k1 k2 k3 (by rw [e1]; exact hce) hcv hcl T' rfl X'
    exact ⟨t2, st.trans a1, b1⟩
/-- caught by the row x of this method's table; the rows ahead don't take it -/
theorem vx_catch {own name : String} {E : String} {ce : Cell} {q : Addr} (hown : s.vm.findClass own = some m.cls) (pre : List ExceptionTableEntry) (x : ExceptionTableEntry) (suf : List ExceptionTableEntry) (hsplit : c.exceptionTable.toList = pre ++ x :: suf)
    (hpass : ∀ z ∈ pre, covers z pc = false ∨ (z.catchType ≠ 0 ∧ ∃ nm : String, (Cond.classLink own z.catchType nm).before args s = true ∧ va_Nc E nm s)) (hx : covers x pc = true) (h0 : x.catchType ≠ 0)
    (hlink : (Cond.classLink own x.catchType name).before args s = true) (hcast : (Cond.castable E name).before args s = true) (hcell : H[q]? = some ce) (hv : ce.vm = .none) (hcl : s.vm.findClass E = some ce.cls)
    (kk : W p l e R s m args below meth c H locs cells slots Q (F0 m x.handlerPc ls [.ref q])) : vx_W p l e R s m args below meth c H locs cells slots Q (F0 m pc ls rest) q := by
  intro T hT X
  have hpl : e.platform.magicAccessors = ({} : Platform).magicAccessors := by rw [X.admits.platform]
  obtain ⟨c3, c4, hc3, hc4, hasg⟩ := Cond.castable_spec hcast
  cases Option.some.inj (hc3.symm.trans hcl)
  obtain ⟨c5, hc5, hcl5⟩ := Cond.classLink_spec hown hlink e.platform hpl
  cases Option.some.inj (hc4.symm.trans hc5)
  obtain ⟨vm', X', st⟩ := X.thenCaughtThrough q (g := F0 m pc ls rest) rfl (Steps.refl _) (by rw [hT]; exact hcell) (by rw [hv]; rfl) (by obtain ⟨k9, h9, -⟩ := Vm.findClass_spec hcl; exact ⟨k9, h9⟩) pre x suf hsplit
    (fun z hz => by
      rcases hpass z hz with h | ⟨hz0, nm, hl1, hn1⟩
      · exact Or.inl h
      · obtain ⟨c6, hc6, hcl6⟩ := Cond.classLink_spec hown hl1 e.platform hpl
        obtain ⟨a8, b8, h1, h2, h3⟩ := hn1
        cases Option.some.inj (h1.symm.trans hcl)
        cases Option.some.inj (h2.symm.trans hc6)
        exact Or.inr ⟨hz0, _, hcl6, h3⟩) hx (Or.inr ⟨h0, c4, hcl5, hasg⟩)
  obtain ⟨t, a1, b1⟩ := kk (T.setVm vm') hT X'
  exact ⟨t, st.trans a1, b1⟩
end Rows
section Ends
variable {p : Program} {l : Launch} {e : Env} {R : Room} {s : State} {m : MethodId} {args : Array Value} {below : List Frame} {meth : Method} {c : Code} {H : Heap} {locs : List Loc} {cells slots : Nat} {Q : State → Prop}
variable {mc ms : Nat} {free : Addr → Prop} {A0 A1 : Nat → Prop} {H0 : Heap} {a : Array Value} {ls : Array Slot} {st0 rest : List Value}
variable {Qc : Array Value → State → Outcome → State → Prop} {XC : String → State → State → Prop}
/-- what a body that may throw owes at its end -/
def vx_MQ (below : List Frame) (Qc : Array Value → State → Outcome → State → Prop) (XC : String → State → State → Prop) (a : Array Value) (s : State) (mc ms : Nat) (free : Addr → Prop) : State → Prop := fun t =>
  ∃ o, t.status = .running ∧ Ended t below o ∧ vx_Q Qc XC mc ms free a s o t
theorem vx_ret {g : JFrame} {mc ms : Nat} (k : W p l e R s m args below meth c H locs cells slots (MQ below Qc args s mc ms free) g) : W p l e R s m args below meth c H locs cells slots (vx_MQ below Qc XC args s mc ms free) g := by
  intro T hT X
  obtain ⟨t, a1, o, b1, b2, b3, b4⟩ := k T hT X
  exact ⟨t, a1, o, b1, b2, Or.inl ⟨b3, b4⟩⟩
/-- not caught here: it goes on to the caller -/
theorem vx_widen {g : JFrame} {q : Addr} {k n : Nat} (h1 : cells ≤ k) (h2 : slots ≤ n) (kk : vx_W p l e R s m args below meth c H locs k n Q g q) : vx_W p l e R s m args below meth c H locs cells slots Q g q := fun T hT X => kk T hT (stand_widen X h1 h2)
theorem vx_out {pc : Nat} {E : String} {ce : Cell} {q : Addr} {mc ms : Nat} (hout : ∀ x ∈ c.exceptionTable.toList, covers x pc = false) (hlocks : meth.locks = false) (hcell : H[q]? = some ce) (hv : ce.vm = .none) (hcl : s.vm.findClass E = some ce.cls)
    (hx : ∀ t : State, t.heap = H → s.vm.Alike t.vm → XC E s t) (hf : ∀ z ∈ locs, free z.base) (hc : cells ≤ mc) (hs : slots ≤ ms) :
    vx_W p l e R s m args below meth c H locs cells slots (vx_MQ below Qc XC args s mc ms free) (F0 m pc ls rest) q := by
  intro T hT X
  obtain ⟨st1, hrun, hend, hW, hsm⟩ := X.leaveThrown q (g := F0 m pc ls rest) rfl rfl rfl hout hlocks
  have hcell9 : (T.setFrames (.throwing q :: below)).heap[q]? = some ce := by
    show T.heap[q]? = some ce
    rw [hT]; exact hcell
  exact ⟨_, st1, .threw q, hrun, hend, Or.inr ⟨q, rfl, E, ce, locs, hx _ hT hW.alike, hcell9, hv, hcl, hW, hsm.mono hc hs, hf⟩⟩
theorem vx_frame {U : State} {k n : Nat} (h : s.sameButNew ({ U with vm := s.vm } : State) locs k n) : s.heap.size ≤ U.heap.size ∧ ∀ q : Nat, q < s.heap.size → (∀ z ∈ locs, z.base ≠ q) → U.heap[q]? = s.heap[q]? := by
  obtain ⟨-, h2, -, -, -, h6⟩ := h
  refine ⟨h2, fun q hq hz => ?_⟩
  obtain ⟨c9, e1, e2, e3, e4⟩ := h6 q _ (Array.getElem?_eq_getElem hq)
  have hs : c9.slots = (s.heap[q]).slots := Array.ext_getElem? fun i => e4 i fun hm => hz _ hm rfl
  have h9 : c9 = s.heap[q] := by
    rw [hs] at e2
    exact e2
  have e5 : U.heap[q]? = some c9 := e1
  rw [e5, h9, Array.getElem?_eq_getElem hq]
/-- the words of a throw but the four that speak of the heap -/
def vx_no (w : Cond) : Bool := decide (w ≠ .isRef (.static Bundle.tN "UNASSIGNED_STACK" Bundle.steD)) && decide (w ≠ .isRef (.static Bundle.tN "SUPPRESSED_SENTINEL" Bundle.listD)) && decide (w ≠ .laysStatic Bundle.tN "UNASSIGNED_STACK" Bundle.steD) && decide (w ≠ .laysStatic Bundle.tN "SUPPRESSED_SENTINEL" Bundle.listD)
def vx_at0 (own : String) (ic : Nat) (X : String) (names : List String) : List Cond := (Bundle.ownAtoms0 own ic X names).filter vx_no
def vx_atS (own : String) (ic : Nat) (X : String) (names : List String) : List Cond := (Bundle.ownAtoms own ic X names).filter vx_no
/-- a word that the tables alone decide, or a good one -/
def vx_ot (w : Cond) : Bool := w.onTables || goodWord w
theorem vx_ot_at {args a' : Array Value} {s U : State} {w : Cond} (hW : s.WarmedH U.vm) (hvm : s.vm = U.vm) (hg : vx_ot w = true) (h : w.before args s = true) : w.before a' U = true := by
  simp only [vx_ot, Bool.or_eq_true] at hg
  rcases hg with hg | hg
  · exact va_tabs hg hvm h
  · exact word_at hW (good_of_word hg) h
/-- a list's words: the good ones out of the method's own list, the others by premises of their own -/
theorem vx_hat {args : Array Value} {s : State} {L B : List Cond} (h1 : ∀ w ∈ L.filter goodWord, w.before args s = true) (h2 : ∀ w ∈ L.filter (fun w => !goodWord w), w ∈ B) (h3 : ∀ w ∈ B, w.before args s = true) : ∀ w ∈ L, w.before args s = true := by
  intro w hw
  by_cases g : goodWord w = true
  · exact h1 w (List.mem_filter.mpr ⟨hw, g⟩)
  · refine h3 w (h2 w (List.mem_filter.mpr ⟨hw, ?_⟩))
    show (!goodWord w) = true
    cases hgw : goodWord w
    · rfl
    · exact absurd hgw g
theorem vx_c {args : Array Value} {s : State} {w : Cond} {B : List Cond} (h : w.before args s = true) (t : ∀ w ∈ B, w.before args s = true) : ∀ w' ∈ w :: B, w'.before args s = true := fun w' h' => (List.mem_cons.mp h').elim (fun e => by rw [e]; exact h) (t w')
theorem vx_n {args : Array Value} {s : State} : ∀ w ∈ ([] : List Cond), w.before args s = true := fun _ h => nomatch h
theorem vx_own {args : Array Value} {s : State} {L : List Cond} (h1 : ∀ w ∈ L.filter vx_no, w.before args s = true)
    (hU : (Cond.isRef (.static Bundle.tN "UNASSIGNED_STACK" Bundle.steD)).before args s = true) (hN : (Cond.isRef (.static Bundle.tN "SUPPRESSED_SENTINEL" Bundle.listD)).before args s = true)
    (lU : (Cond.laysStatic Bundle.tN "UNASSIGNED_STACK" Bundle.steD).before args s = true) (lN : (Cond.laysStatic Bundle.tN "SUPPRESSED_SENTINEL" Bundle.listD).before args s = true) : ∀ w ∈ L, w.before args s = true := by
  intro w hw
  by_cases e1 : w = .isRef (.static Bundle.tN "UNASSIGNED_STACK" Bundle.steD)
  · rw [e1]; exact hU
  · by_cases e2 : w = .isRef (.static Bundle.tN "SUPPRESSED_SENTINEL" Bundle.listD)
    · rw [e2]; exact hN
    · by_cases e3 : w = .laysStatic Bundle.tN "UNASSIGNED_STACK" Bundle.steD
      · rw [e3]; exact lU
      · by_cases e4 : w = .laysStatic Bundle.tN "SUPPRESSED_SENTINEL" Bundle.listD
        · rw [e4]; exact lN
        · exact h1 w (List.mem_filter.mpr ⟨hw, by unfold vx_no; rw [decide_eq_true e1, decide_eq_true e2, decide_eq_true e3, decide_eq_true e4]; rfl⟩)
/-- where a static field lies, its class's statics cell in H -/
def vx_L (C n d : String) (A : Nat → Prop) (U : State) (H : Heap) : Prop := ∃ (c : ClassId) (k : Class) (i : Nat) (f : Field) (a : Nat) (cell : Cell), U.vm.findClass C = some c ∧ U.fieldFound? C n d = some (c, k, i, f) ∧ f.isStatic = true ∧ k.statics = some a ∧ H[a]? = some cell ∧ cell.vm.isStatics = true ∧ cell.cls = c ∧ f.slot < cell.slots.size ∧ k.staticTypes[f.slot]? = some f.type ∧ ¬ A a
theorem vx_L.moved {C n d : String} {A : Nat → Prop} {u U : State} {H : Heap} (hvm : u.vm.Alike U.vm) (h : vx_L C n d A u H) : vx_L C n d A U H := by
  obtain ⟨c, k, i, f, a, cell, h1, h2, h3, h4, h5, h6, h7, h8, h9, h10⟩ := h
  obtain ⟨k', hi', he⟩ := State.fieldFound?_setVm hvm h2
  exact ⟨c, k', i, f, a, cell, by rw [hvm.findClass]; exact h1, hi', h3, by rw [he]; exact h4, h5, h6, h7, h8, by rw [he]; exact h9, h10⟩
theorem vx_L.kept {C n d : String} {A : Nat → Prop} {U : State} {H H1 : Heap} (h : vx_L C n d A U H) (hq : ∀ a : Nat, a < H.size → ¬ A a → H1[a]? = H[a]?) : vx_L C n d A U H1 := by
  obtain ⟨c, k, i, f, a, cell, h1, h2, h3, h4, h5, h6, h7, h8, h9, h10⟩ := h
  exact ⟨c, k, i, f, a, cell, h1, h2, h3, h4, by rw [hq a (Array.getElem?_eq_some_iff.mp h5).1 h10]; exact h5, h6, h7, h8, h9, h10⟩
theorem vx_L.narrow {C n d : String} {A B : Nat → Prop} {U : State} {H : Heap} (h : vx_L C n d A U H) (hAB : ∀ q, B q → A q) : vx_L C n d B U H := by
  obtain ⟨c, k, i, f, a, cell, h1, h2, h3, h4, h5, h6, h7, h8, h9, h10⟩ := h
  exact ⟨c, k, i, f, a, cell, h1, h2, h3, h4, h5, h6, h7, h8, h9, fun z => h10 (hAB _ z)⟩
theorem vx_L.word {C n d : String} {A : Nat → Prop} {s : State} {args : Array Value} (h : vx_L C n d A s s.heap) : (Cond.laysStatic C n d).before args s = true := by
  obtain ⟨c, k, i, f, a, cell, h1, h2, h3, h4, h5, h6, h7, h8, h9, -⟩ := h
  show (Cond.laysStatic C n d).holds args s none s [] = true
  exact Cond.laysStatic_of h1 h2 h3 h4 h5 h6 h7 h8 h9
/-- .. and what it holds: null or some reference -/
def vx_Zq (C n d : String) (A : Nat → Prop) (U : State) (H : Heap) : Prop := va_Zq C n d A U H ∧ vx_L C n d A U H
theorem vx_Zq.moved {C n d : String} {A : Nat → Prop} {u U : State} {H : Heap} (hvm : u.vm.Alike U.vm) (h : vx_Zq C n d A u H) : vx_Zq C n d A U H := ⟨va_Zq.moved hvm h.1, vx_L.moved hvm h.2⟩
theorem vx_Zq.kept {C n d : String} {A : Nat → Prop} {U : State} {H H1 : Heap} (h : vx_Zq C n d A U H) (hq : ∀ a : Nat, a < H.size → ¬ A a → H1[a]? = H[a]?) : vx_Zq C n d A U H1 := ⟨va_Zq.kept h.1 hq, vx_L.kept h.2 hq⟩
theorem vx_Zq.narrow {C n d : String} {A B : Nat → Prop} {U : State} {H : Heap} (h : vx_Zq C n d A U H) (hAB : ∀ q, B q → A q) : vx_Zq C n d B U H := ⟨va_Zq.narrow h.1 hAB, vx_L.narrow h.2 hAB⟩
theorem vx_Zqof {args : Array Value} {s : State} {C n d : String} {A : Nat → Prop} (hl : (Cond.laysStatic C n d).before args s = true) (hini : (Cond.initialized C).before args s = true) (h : (Cond.isRef (.static C n d)).before args s = true) (hA : ∀ a : Nat, a < s.heap.size → ¬ A a) : vx_Zq C n d A s s.heap := by
  refine ⟨va_Zqof hl hini h hA, ?_⟩
  obtain ⟨c, k, i, f, a, cell, h1, h2, h3, h4, h5, h6, h7, h8, h9⟩ := Cond.laysStatic_spec hl
  exact ⟨c, k, i, f, a, cell, h1, h2, h3, h4, h5, h6, h7, h8, h9, hA a (Array.getElem?_eq_some_iff.mp h5).1⟩
theorem vx_isRef {C n d : String} {v : Value} {A : Nat → Prop} {s : State} {args : Array Value} (h : va_Z C n d v A s s.heap) (hv : v.isRef = true) : (Cond.isRef (.static C n d)).before args s = true := by
  obtain ⟨cf, kf, fi, f, a, cell, h1, h2, h3, h4, h5, h6, h7, -⟩ := h
  have he : (Term.static C n d).eval args s none [] s = some v := by
    simp [Term.eval, State.fieldNamed?, h1, h2, h4, h5, h6, h7]
  simp only [Cond.before, Cond.holds, Cond.value, he]
  cases v <;> simp_all [Value.isRef]
theorem vx_isRefq {C n d : String} {A : Nat → Prop} {s : State} {args : Array Value} (h : va_Zq C n d A s s.heap) : (Cond.isRef (.static C n d)).before args s = true := by
  rcases h with h | ⟨t, h⟩
  · exact vx_isRef h rfl
  · exact vx_isRef h rfl
/-- the same frame, seen from here: as if the method were called anew in this heap -/
theorem vx_rebase {T : State} (X : Stand p l e R s m args below meth c T locs cells slots) {R' : Room} (hf : R'.frames ≤ R.frames) (hl : R'.locals ≤ R.locals) (hc : cells + R'.cells ≤ R.cells) (hs : slots + R'.slots ≤ R.slots) :
    Stand p l e R' ((T.setVm s.vm).setFrames (.invoking m args :: below)) m args below meth c T [] 0 0 := by
  have htop : (T.setVm s.vm).topJava?.isSome := X.here.top
  have hF : ((T.setVm s.vm).setFrames (.invoking m args :: below)).frames = .invoking m args :: below := State.frames_setFrames _ (State.cur_lt_of_top htop)
  obtain ⟨g₀, hg0⟩ := Option.isSome_iff_exists.mp htop
  obtain ⟨r, hr⟩ := State.topJava?_eq_some.mp hg0
  have hl9 : e.platform.stackLimits (T.setVm s.vm).me = e.platform.stackLimits s.me := X.limits
  have hb9 : (T.setVm s.vm).me.stackBytes = s.me.stackBytes := X.bytes
  refine ⟨X.admits, X.cas, X.clock, hF, ?_, X.hears, X.method, X.code, X.here, X.tail, X.warmed, ?_, ?_, ?_⟩
  · have h := X.room
    have hU : ((T.setVm s.vm).setFrames (.invoking m args :: below)).localsInUse = s.localsInUse := by
      rw [State.localsInUse_invoking hF (meth := meth) (c := c) X.method X.code, State.localsInUse_invoking X.frames X.method X.code]
    simp only [State.hasRoom, Bool.and_eq_true, decide_eq_true_eq] at h ⊢
    obtain ⟨⟨⟨⟨h1, h2, h3, h4, h5, h6⟩, h7⟩, h8⟩, h9⟩ := h
    rw [X.frames, List.length_cons] at h2 h3
    have q1 := X.heapSize
    have q2 := X.used
    simp only [hF, hU, List.length_cons, State.stackLimits_setFrames, State.stackBytes_setFrames, hl9, hb9]
    refine ⟨⟨⟨⟨by omega, by omega, by omega, by omega, by omega, h6⟩, ?_⟩, ?_⟩, X.book⟩
    · show T.heap.size + R'.cells ≤ e.platform.maxCells
      omega
    · show T.slotsUsed + R'.slots ≤ e.platform.maxSlots
      omega
  · rw [State.stackLimits_setFrames]; rfl
  · rw [State.stackBytes_setFrames]; rfl
  · refine ⟨?_, Nat.le_refl _, Nat.le_refl _, ?_, ?_, fun a c9 h9 => ⟨c9, h9, rfl, rfl, fun _ _ => rfl⟩⟩
    · obtain ⟨t, ht, -⟩ := State.frames_cons hr
      show T.setVm s.vm = { ((T.setVm s.vm).setFrames (.invoking m args :: below)).setFrames (T.setVm s.vm).frames with heap := T.heap, slotsUsed := T.slotsUsed }
      rw [State.setFrames_setFrames, State.setFrames_self ht]
      rfl
    · show T.slotsUsed = T.slotsUsed + ((T.heap.toList.drop T.heap.size).map (·.slots.size)).sum
      rw [List.drop_eq_nil_of_le (Nat.le_of_eq Array.length_toList)]
      rfl
    · show ((T.heap.toList.drop T.heap.size).map (·.slots.size)).sum ≤ 0
      rw [List.drop_eq_nil_of_le (Nat.le_of_eq Array.length_toList)]
      exact Nat.le_refl _
/-- 'throw new E()': new; dup; invokespecial; athrow -/
theorem vx_throw0 {cc : ByteArray} {pc : Nat} (hexec : p.tables.exec = Jvm.exec) (hb : c.code = cc) (hl : l.stackTraces = false) {own cls : String} {names : List String} {ik ic mc ms : Nat} {A : Nat → Prop}
    (hown : s.vm.findClass own = some m.cls) (hcls : Bundle.fit cls = true) (hnames : ∀ n ∈ names, Bundle.fit n = true)
    (hk : (Cond.classLink own ik cls).before args s = true) (hini : (Cond.initialized cls).before args s = true) (hat : ∀ w ∈ vx_at0 own ic cls names, w.before args s = true)
    (hgood : ∀ w ∈ Cond.classLink own ik cls :: Cond.initialized cls :: vx_at0 own ic cls names, vx_ot w = true)
    (hU : vx_Zq Bundle.tN "UNASSIGNED_STACK" Bundle.steD A s s.heap) (hN : vx_Zq Bundle.tN "SUPPRESSED_SENTINEL" Bundle.listD A s s.heap) (hS : va_S A s.heap H locs) (hsize : ls.size = c.maxLocals)
    (d0 : decode cc pc = .ok (.new ik, 3)) (d3 : decode cc (pc + 3) = .ok (.dup, 1)) (d4 : decode cc (pc + 4) = .ok (.invokespecial ic, 3)) (d7 : decode cc (pc + 7) = .ok (.athrow, 1))
    (hout : ∀ x ∈ c.exceptionTable.toList, covers x (pc + 7) = false)
    (hRframes : names.length + 3 < R.frames) (hRlocals : (rest.map fun v => v.category).sum + (13 * (names.length + 1) + 42) ≤ R.locals) (hRcells : cells + 1 ≤ R.cells) (hRslots : slots + 6 ≤ R.slots) (hlocks : meth.locks = false)
    (hx : ∀ t : State, s.vm.Alike t.vm → H.size ≤ t.heap.size → (∀ q : Nat, q < H.size → t.heap[q]? = H[q]?) → XC cls s t)
    (hf : ∀ z ∈ locs, free z.base) (hc : cells + 1 ≤ mc) (hs : slots + 6 ≤ ms) :
    W p l e R s m args below meth c H locs cells slots (vx_MQ below Qc XC args s mc ms free) (F0 m pc ls rest) := by
  intro T hT X
  have htr : e.platform.stackTraces = false := (show e.platform.stackTraces = l.stackTraces by rw [X.admits.platform]).trans hl
  have Y := vx_rebase X (R' := { frames := R.frames, locals := R.locals, cells := 1, slots := 6 }) (Nat.le_refl _) (Nat.le_refl _) hRcells hRslots
  obtain ⟨s', hA⟩ : ∃ z, z = (T.setVm s.vm).setFrames (.invoking m args :: below) := ⟨_, rfl⟩
  rw [← hA] at Y
  have hvm : s'.vm = s.vm := by rw [hA]; rfl
  have hhp : s'.heap = H := by rw [hA]; exact hT
  have hW0 : s.WarmedH s'.vm := by rw [hvm]; exact State.WarmedH.refl s
  have hat' : ∀ w ∈ vx_at0 own ic cls names, w.before args s' = true := fun w hw => vx_ot_at hW0 hvm.symm (hgood w (List.mem_cons_of_mem _ (List.mem_cons_of_mem _ hw))) (hat w hw)
  have hk' : (Cond.classLink own ik cls).before args s' = true := vx_ot_at hW0 hvm.symm (hgood _ List.mem_cons_self) hk
  have hini' : (Cond.initialized cls).before args s' = true := vx_ot_at hW0 hvm.symm (hgood _ (List.mem_cons_of_mem _ List.mem_cons_self)) hini
  have hU' : vx_Zq Bundle.tN "UNASSIGNED_STACK" Bundle.steD A s' s'.heap := by rw [hhp]; exact vx_Zq.moved hW0.alike (hU.kept hS.2.1)
  have hN' : vx_Zq Bundle.tN "SUPPRESSED_SENTINEL" Bundle.listD A s' s'.heap := by rw [hhp]; exact vx_Zq.moved hW0.alike (hN.kept hS.2.1)
  have h : ∀ w ∈ Bundle.ownAtoms0 own ic cls names, w.before args s' = true := vx_own hat' (vx_isRefq hU'.1) (vx_isRefq hN'.1) hU'.2.word hN'.2.word
  have hown' : s'.vm.findClass own = some m.cls := by rw [hvm]; exact hown
  have hins : (Cond.instantiable cls 6).before args s' = true := h _ (by simp [Bundle.ownAtoms0])
  obtain ⟨vm₁, cX, kX, hfX, hkX, -, -, X₁, st1⟩ := Y.newCold hexec (own := own) (C := cls) (index := ik) (n := 6) hown' hk' hins hini'
    (g := F0 m pc ls rest) rfl (by rw [hb]; exact d0) (Nat.le_refl _) (Nat.le_refl _)
  generalize hT1 : (T.setVm vm₁).pushCell { cls := cX, slots := kX.instanceTypes.map defaultValue, vm := .none } = T1 at X₁ st1
  have hcat : (Value.ref T.heap.size).category = 1 := rfl
  have hcellA : T1.heap[T.heap.size]? = some (freshCell cX kX) := by rw [← hT1]; exact State.heap_pushCell_size _ _
  have d3' : decode c.code (pc + 3) = .ok (.dup, 1) := by rw [hb]; exact d3
  obtain ⟨U, hsteps, hrun, hend, hW, hsame, ce, hce, hO⟩ := X₁.ctorThrow0 hexec htr (own := own) (cls := cls) (names := names) (ic := ic) hown' hcls hnames h (fun x hx => nomatch hx) hfX hkX hcellA (by rw [hhp, hT]; exact Nat.le_refl _)
    (g := { method := m, pc := pc + 4, locals := ls, stack := .ref T.heap.size :: .ref T.heap.size :: rest, locked := none }) rfl hsize rfl rfl (rest := rest) rfl
    (by rw [hb]; exact d4) (by rw [hb]; exact d7) hout hRframes (by simp only [List.map_cons, List.sum_cons, hcat]; omega) hlocks
  obtain ⟨f1, f2⟩ := vx_frame hsame
  rw [hhp] at f1 f2
  have hWs : s.WarmedH U.vm := State.WarmedH.trans hW0 hW
  have hcl : s.vm.findClass cls = some ce.cls := by
    have h9 := hO.cls
    rw [hvm] at h9
    exact h9
  have hall : s.sameButNew ({ U with vm := s.vm } : State) locs mc ms := by
    subst hA
    obtain ⟨e1, e2⟩ := hsame
    rw [State.setFrames_setFrames] at e1
    have h2 : (T.setVm s.vm).sameButNew ({ U with vm := s.vm } : State) [] (0 + 1) (0 + 6) := ⟨e1, e2⟩
    have h3 := X.same.trans h2
    rw [List.append_nil] at h3
    exact h3.mono hc hs
  refine ⟨U, ?_, .threw T.heap.size, hrun, hend, Or.inr ⟨T.heap.size, rfl, cls, ce, locs, hx U hWs.alike f1 (fun q hq => f2 q hq (fun z hz => nomatch hz)), hce, hO.vm, hcl, hWs, hall, hf⟩⟩
  refine st1 _ ?_
  show Steps p.tables e below (T1.setTop { method := m, pc := pc + 3, locals := ls, stack := .ref T.heap.size :: rest, locked := none }) _
  jvm_step X₁.here [X₁.here.top, hexec, d3', Value.category]
  exact hsteps
/-- 'throw new E("text")': new; dup; ldc; invokespecial; athrow -/
theorem vx_throwS {cc : ByteArray} {pc : Nat} (hexec : p.tables.exec = Jvm.exec) (hb : c.code = cc) (hl : l.stackTraces = false) {own cls text : String} {names : List String} {ik is ic mc ms sa : Nat} {A : Nat → Prop}
    (hown : s.vm.findClass own = some m.cls) (hcls : Bundle.fit cls = true) (hnames : ∀ n ∈ names, Bundle.fit n = true)
    (hk : (Cond.classLink own ik cls).before args s = true) (hini : (Cond.initialized cls).before args s = true) (hstr : vk_R own is text sa s) (hat : ∀ w ∈ vx_atS own ic cls names, w.before args s = true)
    (hgood : ∀ w ∈ Cond.classLink own ik cls :: Cond.initialized cls :: vx_atS own ic cls names, vx_ot w = true)
    (hU : vx_Zq Bundle.tN "UNASSIGNED_STACK" Bundle.steD A s s.heap) (hN : vx_Zq Bundle.tN "SUPPRESSED_SENTINEL" Bundle.listD A s s.heap) (hS : va_S A s.heap H locs) (hsize : ls.size = c.maxLocals)
    (d0 : decode cc pc = .ok (.new ik, 3)) (d3 : decode cc (pc + 3) = .ok (.dup, 1)) (d4 : decode cc (pc + 4) = .ok (.ldc is, 2)) (d6 : decode cc (pc + 6) = .ok (.invokespecial ic, 3)) (d9 : decode cc (pc + 9) = .ok (.athrow, 1))
    (hout : ∀ x ∈ c.exceptionTable.toList, covers x (pc + 9) = false)
    (hRframes : names.length + 3 < R.frames) (hRlocals : (rest.map fun v => v.category).sum + (13 * (names.length + 1) + 43) ≤ R.locals) (hRcells : cells + 1 ≤ R.cells) (hRslots : slots + 6 ≤ R.slots) (hlocks : meth.locks = false)
    (hx : ∀ t : State, s.vm.Alike t.vm → H.size ≤ t.heap.size → (∀ q : Nat, q < H.size → t.heap[q]? = H[q]?) → XC cls s t)
    (hf : ∀ z ∈ locs, free z.base) (hc : cells + 1 ≤ mc) (hs : slots + 6 ≤ ms) :
    W p l e R s m args below meth c H locs cells slots (vx_MQ below Qc XC args s mc ms free) (F0 m pc ls rest) := by
  intro T hT X
  have htr : e.platform.stackTraces = false := (show e.platform.stackTraces = l.stackTraces by rw [X.admits.platform]).trans hl
  have Y := vx_rebase X (R' := { frames := R.frames, locals := R.locals, cells := 1, slots := 6 }) (Nat.le_refl _) (Nat.le_refl _) hRcells hRslots
  obtain ⟨s', hA⟩ : ∃ z, z = (T.setVm s.vm).setFrames (.invoking m args :: below) := ⟨_, rfl⟩
  rw [← hA] at Y
  have hvm : s'.vm = s.vm := by rw [hA]; rfl
  have hhp : s'.heap = H := by rw [hA]; exact hT
  have hW0 : s.WarmedH s'.vm := by rw [hvm]; exact State.WarmedH.refl s
  have hat' : ∀ w ∈ vx_atS own ic cls names, w.before args s' = true := fun w hw => vx_ot_at hW0 hvm.symm (hgood w (List.mem_cons_of_mem _ (List.mem_cons_of_mem _ hw))) (hat w hw)
  have hk' : (Cond.classLink own ik cls).before args s' = true := vx_ot_at hW0 hvm.symm (hgood _ List.mem_cons_self) hk
  have hini' : (Cond.initialized cls).before args s' = true := vx_ot_at hW0 hvm.symm (hgood _ (List.mem_cons_of_mem _ List.mem_cons_self)) hini
  have hU' : vx_Zq Bundle.tN "UNASSIGNED_STACK" Bundle.steD A s' s'.heap := by rw [hhp]; exact vx_Zq.moved hW0.alike (hU.kept hS.2.1)
  have hN' : vx_Zq Bundle.tN "SUPPRESSED_SENTINEL" Bundle.listD A s' s'.heap := by rw [hhp]; exact vx_Zq.moved hW0.alike (hN.kept hS.2.1)
  have h : ∀ w ∈ Bundle.ownAtoms own ic cls names, w.before args s' = true := vx_own hat' (vx_isRefq hU'.1) (vx_isRefq hN'.1) hU'.2.word hN'.2.word
  have hown' : s'.vm.findClass own = some m.cls := by rw [hvm]; exact hown
  have hins : (Cond.instantiable cls 6).before args s' = true := h _ (by simp [Bundle.ownAtoms])
  obtain ⟨vm₁, cX, kX, hfX, hkX, -, -, X₁, st1⟩ := Y.newCold hexec (own := own) (C := cls) (index := ik) (n := 6) hown' hk' hins hini'
    (g := F0 m pc ls rest) rfl (by rw [hb]; exact d0) (Nat.le_refl _) (Nat.le_refl _)
  generalize hT1 : (T.setVm vm₁).pushCell { cls := cX, slots := kX.instanceTypes.map defaultValue, vm := .none } = T1 at X₁ st1
  have hcat : (Value.ref T.heap.size).category = 1 := rfl
  have hcellA : T1.heap[T.heap.size]? = some (freshCell cX kX) := by rw [← hT1]; exact State.heap_pushCell_size _ _
  have d3' : decode c.code (pc + 3) = .ok (.dup, 1) := by rw [hb]; exact d3
  have d4' : decode c.code (pc + 4) = .ok (.ldc is, 2) := by rw [hb]; exact d4
  have hstr' : vk_R own is text sa s' := vk_R.warm hW0 hstr
  obtain ⟨U, hsteps, hrun, hend, hW, hsame, ce, hce, hO⟩ := X₁.ctorThrowS hexec htr (own := own) (cls := cls) (names := names) (ic := ic) hown' hcls hnames h (fun x hx => nomatch hx) hfX hkX hcellA (by rw [hhp, hT]; exact Nat.le_refl _) (msg := .ref sa) rfl
    (g := { method := m, pc := pc + 6, locals := ls, stack := .ref sa :: .ref T.heap.size :: .ref T.heap.size :: rest, locked := none }) rfl hsize rfl rfl (rest := rest) rfl
    (by rw [hb]; exact d6) (by rw [hb]; exact d9) hout hRframes (by simp only [List.map_cons, List.sum_cons, hcat]; omega) hlocks
  obtain ⟨f1, f2⟩ := vx_frame hsame
  rw [hhp] at f1 f2
  have hWs : s.WarmedH U.vm := State.WarmedH.trans hW0 hW
  have hcl : s.vm.findClass cls = some ce.cls := by
    have h9 := hO.cls
    rw [hvm] at h9
    exact h9
  have hall : s.sameButNew ({ U with vm := s.vm } : State) locs mc ms := by
    subst hA
    obtain ⟨e1, e2⟩ := hsame
    rw [State.setFrames_setFrames] at e1
    have h2 : (T.setVm s.vm).sameButNew ({ U with vm := s.vm } : State) [] (0 + 1) (0 + 6) := ⟨e1, e2⟩
    have h3 := X.same.trans h2
    rw [List.append_nil] at h3
    exact h3.mono hc hs
  refine ⟨U, ?_, .threw T.heap.size, hrun, hend, Or.inr ⟨T.heap.size, rfl, cls, ce, locs, hx U hWs.alike f1 (fun q hq => f2 q hq (fun z hz => nomatch hz)), hce, hO.vm, hcl, hWs, hall, hf⟩⟩
  refine st1 _ ?_
  show Steps p.tables e below (T1.setTop { method := m, pc := pc + 3, locals := ls, stack := .ref T.heap.size :: rest, locked := none }) _
  jvm_step X₁.here [X₁.here.top, hexec, d3', Value.category]
  exact X₁.ldcString hexec (own := own) (text := text) (index := is) (a := sa) hown' hstr'.1 hstr'.2
    (g := { method := m, pc := pc + 4, locals := ls, stack := .ref T.heap.size :: .ref T.heap.size :: rest, locked := none }) rfl d4' _ hsteps
/-- 'throw new E("text")', the text by a wide index -/
theorem vx_throwSW {cc : ByteArray} {pc : Nat} (hexec : p.tables.exec = Jvm.exec) (hb : c.code = cc) (hl : l.stackTraces = false) {own cls text : String} {names : List String} {ik is ic mc ms sa : Nat} {A : Nat → Prop}
    (hown : s.vm.findClass own = some m.cls) (hcls : Bundle.fit cls = true) (hnames : ∀ n ∈ names, Bundle.fit n = true)
    (hk : (Cond.classLink own ik cls).before args s = true) (hini : (Cond.initialized cls).before args s = true) (hstr : vk_R own is text sa s) (hat : ∀ w ∈ vx_atS own ic cls names, w.before args s = true)
    (hgood : ∀ w ∈ Cond.classLink own ik cls :: Cond.initialized cls :: vx_atS own ic cls names, vx_ot w = true)
    (hU : vx_Zq Bundle.tN "UNASSIGNED_STACK" Bundle.steD A s s.heap) (hN : vx_Zq Bundle.tN "SUPPRESSED_SENTINEL" Bundle.listD A s s.heap) (hS : va_S A s.heap H locs) (hsize : ls.size = c.maxLocals)
    (d0 : decode cc pc = .ok (.new ik, 3)) (d3 : decode cc (pc + 3) = .ok (.dup, 1)) (d4 : decode cc (pc + 4) = .ok (.ldc_w is, 3)) (d7 : decode cc (pc + 7) = .ok (.invokespecial ic, 3)) (d10 : decode cc (pc + 10) = .ok (.athrow, 1))
    (hout : ∀ x ∈ c.exceptionTable.toList, covers x (pc + 10) = false)
    (hRframes : names.length + 3 < R.frames) (hRlocals : (rest.map fun v => v.category).sum + (13 * (names.length + 1) + 43) ≤ R.locals) (hRcells : cells + 1 ≤ R.cells) (hRslots : slots + 6 ≤ R.slots) (hlocks : meth.locks = false)
    (hx : ∀ t : State, s.vm.Alike t.vm → H.size ≤ t.heap.size → (∀ q : Nat, q < H.size → t.heap[q]? = H[q]?) → XC cls s t)
    (hf : ∀ z ∈ locs, free z.base) (hc : cells + 1 ≤ mc) (hs : slots + 6 ≤ ms) :
    W p l e R s m args below meth c H locs cells slots (vx_MQ below Qc XC args s mc ms free) (F0 m pc ls rest) := by
  intro T hT X
  have htr : e.platform.stackTraces = false := (show e.platform.stackTraces = l.stackTraces by rw [X.admits.platform]).trans hl
  have Y := vx_rebase X (R' := { frames := R.frames, locals := R.locals, cells := 1, slots := 6 }) (Nat.le_refl _) (Nat.le_refl _) hRcells hRslots
  obtain ⟨s', hA⟩ : ∃ z, z = (T.setVm s.vm).setFrames (.invoking m args :: below) := ⟨_, rfl⟩
  rw [← hA] at Y
  have hvm : s'.vm = s.vm := by rw [hA]; rfl
  have hhp : s'.heap = H := by rw [hA]; exact hT
  have hW0 : s.WarmedH s'.vm := by rw [hvm]; exact State.WarmedH.refl s
  have hat' : ∀ w ∈ vx_atS own ic cls names, w.before args s' = true := fun w hw => vx_ot_at hW0 hvm.symm (hgood w (List.mem_cons_of_mem _ (List.mem_cons_of_mem _ hw))) (hat w hw)
  have hk' : (Cond.classLink own ik cls).before args s' = true := vx_ot_at hW0 hvm.symm (hgood _ List.mem_cons_self) hk
  have hini' : (Cond.initialized cls).before args s' = true := vx_ot_at hW0 hvm.symm (hgood _ (List.mem_cons_of_mem _ List.mem_cons_self)) hini
  have hU' : vx_Zq Bundle.tN "UNASSIGNED_STACK" Bundle.steD A s' s'.heap := by rw [hhp]; exact vx_Zq.moved hW0.alike (hU.kept hS.2.1)
  have hN' : vx_Zq Bundle.tN "SUPPRESSED_SENTINEL" Bundle.listD A s' s'.heap := by rw [hhp]; exact vx_Zq.moved hW0.alike (hN.kept hS.2.1)
  have h : ∀ w ∈ Bundle.ownAtoms own ic cls names, w.before args s' = true := vx_own hat' (vx_isRefq hU'.1) (vx_isRefq hN'.1) hU'.2.word hN'.2.word
  have hown' : s'.vm.findClass own = some m.cls := by rw [hvm]; exact hown
  have hins : (Cond.instantiable cls 6).before args s' = true := h _ (by simp [Bundle.ownAtoms])
  obtain ⟨vm₁, cX, kX, hfX, hkX, -, -, X₁, st1⟩ := Y.newCold hexec (own := own) (C := cls) (index := ik) (n := 6) hown' hk' hins hini'
    (g := F0 m pc ls rest) rfl (by rw [hb]; exact d0) (Nat.le_refl _) (Nat.le_refl _)
  generalize hT1 : (T.setVm vm₁).pushCell { cls := cX, slots := kX.instanceTypes.map defaultValue, vm := .none } = T1 at X₁ st1
  have hcat : (Value.ref T.heap.size).category = 1 := rfl
  have hcellA : T1.heap[T.heap.size]? = some (freshCell cX kX) := by rw [← hT1]; exact State.heap_pushCell_size _ _
  have d3' : decode c.code (pc + 3) = .ok (.dup, 1) := by rw [hb]; exact d3
  have d4' : decode c.code (pc + 4) = .ok (.ldc_w is, 3) := by rw [hb]; exact d4
  have hstr' : vk_R own is text sa s' := vk_R.warm hW0 hstr
  obtain ⟨U, hsteps, hrun, hend, hW, hsame, ce, hce, hO⟩ := X₁.ctorThrowS hexec htr (own := own) (cls := cls) (names := names) (ic := ic) hown' hcls hnames h (fun x hx => nomatch hx) hfX hkX hcellA (by rw [hhp, hT]; exact Nat.le_refl _) (msg := .ref sa) rfl
    (g := { method := m, pc := pc + 7, locals := ls, stack := .ref sa :: .ref T.heap.size :: .ref T.heap.size :: rest, locked := none }) rfl hsize rfl rfl (rest := rest) rfl
    (by rw [hb]; exact d7) (by rw [hb]; exact d10) hout hRframes (by simp only [List.map_cons, List.sum_cons, hcat]; omega) hlocks
  obtain ⟨f1, f2⟩ := vx_frame hsame
  rw [hhp] at f1 f2
  have hWs : s.WarmedH U.vm := State.WarmedH.trans hW0 hW
  have hcl : s.vm.findClass cls = some ce.cls := by
    have h9 := hO.cls
    rw [hvm] at h9
    exact h9
  have hall : s.sameButNew ({ U with vm := s.vm } : State) locs mc ms := by
    subst hA
    obtain ⟨e1, e2⟩ := hsame
    rw [State.setFrames_setFrames] at e1
    have h2 : (T.setVm s.vm).sameButNew ({ U with vm := s.vm } : State) [] (0 + 1) (0 + 6) := ⟨e1, e2⟩
    have h3 := X.same.trans h2
    rw [List.append_nil] at h3
    exact h3.mono hc hs
  refine ⟨U, ?_, .threw T.heap.size, hrun, hend, Or.inr ⟨T.heap.size, rfl, cls, ce, locs, hx U hWs.alike f1 (fun q hq => f2 q hq (fun z hz => nomatch hz)), hce, hO.vm, hcl, hWs, hall, hf⟩⟩
  refine st1 _ ?_
  show Steps p.tables e below (T1.setTop { method := m, pc := pc + 3, locals := ls, stack := .ref T.heap.size :: rest, locked := none }) _
  jvm_step X₁.here [X₁.here.top, hexec, d3', Value.category]
  exact X₁.ldcStringW hexec (own := own) (text := text) (index := is) (a := sa) hown' hstr'.1 hstr'.2
    (g := { method := m, pc := pc + 4, locals := ls, stack := .ref T.heap.size :: .ref T.heap.size :: rest, locked := none }) rfl d4' _ hsteps
end Ends
section Bodies
variable {l : Launch}
theorem vx_ofW {y : MethodName} {ws ws' : List Cond} {rm : Room} {Pc : Array Value → State → Prop} {Qc : Array Value → State → Outcome → State → Prop} {XC : String → State → State → Prop} {mc ms : Nat} {free : Addr → Prop} {cc : ByteArray} {maxL : Nat} {ret : Option FieldType}
    (hy : plainName y.cls = true) (hw : ws = Cond.code y cc maxL ret :: ws')
    (body : ∀ p e s m args below meth c s₁, BodyLoose p l y (headSpec ws rm) cc maxL ret e s m args below meth c s₁ → c.maxLocals = maxL → (∀ x ∈ c.exceptionTable.toList, False) → Pc args s →
      W p l e (headSpec ws rm).room s m args below meth c s.heap [] 0 0 (vx_MQ below Qc XC args s mc ms free) (entryFrame m args maxL)) : vx_Met l y ws rm Pc Qc XC mc ms free := by
  refine MetFree.of_bodyS (code := cc) (maxLocals := maxL) (ret := ret) hy ?_ ?_
  · intro args s m h hn
    obtain ⟨meth, c, h1, h2, h3, h4, h5, h6, -, -⟩ := Cond.code_spec hn (atoms_spec (ws := ws) h _ (by rw [hw]; exact List.mem_cons_self))
    exact ⟨meth, c, h1, h2, h3, h4, h5, h6⟩
  · intro p e s m args below meth c s₁ B hml hP _
    have hh0 : s₁.heap = s.heap := by rw [B.state]; rfl
    have ht : ∀ x ∈ c.exceptionTable.toList, False := by
      obtain ⟨meth9, c9, h1, h2, -, -, -, -, h7, -⟩ := Cond.code_spec B.named (atoms_spec (ws := ws) B.pre _ (by rw [hw]; exact List.mem_cons_self))
      cases Option.some.inj (h1.symm.trans B.method)
      cases Option.some.inj (h2.symm.trans (Stand.of_body B).code)
      intro x hx
      rw [Array.isEmpty_iff.mp h7] at hx
      cases hx
    obtain ⟨t, a1, o, b1, b2, b3⟩ := body p e s m args below meth c s₁ B hml ht hP s₁ hh0 (Stand.of_body B)
    exact ⟨t, o, a1, b1, b2, b3⟩
/-- the table of a body with handlers -/
theorem vx_table {p : Program} {x y : MethodName} {S : Spec} {cc bytes : ByteArray} {maxL maxL' : Nat} {ret ret' : Option FieldType} {e : Env} {s s₁ : State} {m : MethodId} {args : Array Value} {below : List Frame} {meth : Method} {c : Code} {hh : List (Nat × Nat × Nat × Nat)}
    (B : BodyLoose p l y S cc maxL ret e s m args below meth c s₁) (h : (Cond.codeWith y bytes maxL' ret' hh).before args s = true) : c.exceptionTable.toList = tableOf hh := by
  obtain ⟨m9, meth9, c9, hn9, h1, h2, -, -, h6, -⟩ := Cond.codeWith_spec h
  cases Option.some.inj (hn9.symm.trans B.named)
  cases Option.some.inj (h1.symm.trans B.method)
  cases Option.some.inj (h2.symm.trans (Stand.of_body B).code)
  rw [← h6, table_eq]
end Bodies
end VXA
/-! ===== END ===== -/
/-! ===== BEGIN a static call of a method with an exception table ===== -/
section VXS
variable {p : Program} {l : Launch} {e : Env} {R : Room} {s : State} {m : MethodId} {args : Array Value} {below : List Frame} {meth : Method} {c : Code} {T : State} {H : Heap} {locs : List Loc} {cells slots : Nat}
abbrev vx_CSW (R : Room) (s : State) (args : Array Value) (own : String) (index : Nat) (y : MethodName) (bytes : ByteArray) (maxL : Nat) (ret : Option FieldType) (hh : List (Nat × Nat × Nat × Nat)) (ws : List Cond) (rm : Room) (mc ms n : Nat) : Prop :=
  (rm.cells = mc ∧ rm.slots = ms ∧ rm.frames + 1 ≤ R.frames ∧ 8 + (maxL + 11) + rm.locals ≤ R.locals ∧ (∀ w ∈ ws, ∀ (a' : Array Value) (U : State), s.WarmedH U.vm → w.before a' U = true) ∧ Cond.codeWith y bytes maxL ret hh ∈ ws) ∧
  (Cond.codeWith y bytes maxL ret hh).before args s = true ∧ (Cond.initialized y.cls).before args s = true ∧ (y.cls ≠ "java/lang/invoke/MethodHandle" ∧ y.cls ≠ "java/lang/invoke/VarHandle") ∧
  (∀ sig, parseMethodDescriptor y.desc = some sig → n = sig.parameters.length) ∧ (Cond.methodLink own index y).before args s = true ∧ (Cond.static y).before args s = true
theorem vx_cwSW {own : String} {index maxL mc ms : Nat} {y : MethodName} {bytes : ByteArray} {ret : Option FieldType} {hh : List (Nat × Nat × Nat × Nat)} {Ts ws ws' : List Cond} {rm : Room} (n : Nat) (ht : ∀ w ∈ Ts, w.before args s = true) (hT : GoodIn Ts (va_wsS own index y ws)) (hw : ws = Cond.codeWith y bytes maxL ret hh :: ws') (hrc : rm.cells = mc) (hrs : rm.slots = ms)
    (hd : y.cls ≠ "java/lang/invoke/MethodHandle" ∧ y.cls ≠ "java/lang/invoke/VarHandle" ∧ (parseMethodDescriptor y.desc).map (fun d => d.parameters.length) = some n) (hR : rm.frames + 1 ≤ R.frames ∧ 8 + (maxL + 11) + rm.locals ≤ R.locals) :
    vx_CSW R s args own index y bytes maxL ret hh ws rm mc ms n := by
  have ok : ∀ w ∈ va_wsS own index y ws, w.before args s = true := fun w h => ht w (hT w h).1
  have hG : GoodIn Ts ws := fun w h => hT w (by unfold va_wsS; exact List.mem_append_right _ h)
  have hc : Cond.codeWith y bytes maxL ret hh ∈ ws := by rw [hw]; exact List.mem_cons_self
  refine ⟨⟨hrc, hrs, hR.1, hR.2, pay_in ht hG, hc⟩, ht _ (hG _ hc).1, ok _ (by simp [va_wsS]), ⟨hd.1, hd.2.1⟩, fun sig h => ?_, ok _ (by simp [va_wsS]), ok _ (by simp [va_wsS])⟩
  have h2 := hd.2.2
  rw [h] at h2
  exact (Option.some.inj h2).symm
theorem vx_callSW (X : Stand p l e R s m args below meth c T locs cells slots) (hexec : p.tables.exec = Jvm.exec) {own : String} {index : Nat} {y : MethodName} {bytes : ByteArray} {maxL : Nat} {ret : Option FieldType} {hh : List (Nat × Nat × Nat × Nat)}
    (hown : s.vm.findClass own = some m.cls) (hlink : (Cond.methodLink own index y).before args s = true) (hstat : (Cond.static y).before args s = true) (hinit : (Cond.initialized y.cls).before args s = true)
    (hcode : (Cond.codeWith y bytes maxL ret hh).before args s = true) (hy : y.cls ≠ "java/lang/invoke/MethodHandle" ∧ y.cls ≠ "java/lang/invoke/VarHandle")
    {W9 : Nat} {Pre : Pt → Array Value → Prop} {Post : Pt → Array Value → Option Value → Pt → Prop} (hK : Back l R p e below s args y 3 W9 Pre Post)
    {g : JFrame} (hg : g.method = m) (hsize : g.locals.size = c.maxLocals) {argsL rest : List Value} (hlen : ∀ sig, parseMethodDescriptor y.desc = some sig → argsL.length = sig.parameters.length)
    (hstack : g.stack = argsL.reverse ++ rest) (hW : 2 * g.monitorRoom + (rest.map fun v => v.category).sum ≤ W9) (hdg : decode c.code g.pc = .ok (.invokestatic index, 3))
    (hpre : ∀ vm₁, s.WarmedH vm₁ → Pre ⟨T.setVm vm₁, locs, cells, slots⟩ argsL.toArray) :
    ∃ (v : Option Value) (vm₁ : Vm) (B : Pt), s.WarmedH vm₁ ∧ Stand p l e R s m args below meth c B.U B.locs B.cells B.slots ∧ Post ⟨T.setVm vm₁, locs, cells, slots⟩ argsL.toArray v B ∧
      ∀ target, Steps p.tables e below (B.U.setTop { g with pc := g.pc + 3, stack := v.toList ++ rest }) target → Steps p.tables e below (T.setTop g) target := by
  obtain ⟨mk, methM, cM, hnamed, hmethM, -, -, -, -, -, -, hsigM⟩ := Cond.codeWith_spec hcode
  have hstatic : methM.isStatic = true := Cond.static_spec hnamed hmethM hstat
  obtain ⟨kP, hkP, -⟩ := className_of_methodNamed hnamed
  have hinitP : kP.init = .initialized := Cond.initialized_spec (findClass_of_methodNamed hnamed) hkP hinit
  obtain ⟨vm₁, X₁, hstep₁⟩ := X.invokestatic hexec hown hlink hnamed hmethM hstatic hkP hinitP hy (g := g) hg (argsL := argsL) (rest := rest) (hlen _ hsigM) hstack hdg
  obtain ⟨v, B, X', hpost, hsteps⟩ := hK m meth c ⟨T.setVm vm₁, locs, cells, slots⟩ { g with stack := rest } (.invokestatic index) mk argsL.toArray X₁ hg hsize hdg hW (X₁.named hnamed) (hpre vm₁ X₁.warmed)
  exact ⟨v, vm₁, B, X₁.warmed, X', hpost, fun target h => hstep₁ _ fun acts => by rw [doInvoke_state]; exact hsteps.trans h⟩
theorem vx_runSW {y : MethodName} {bytes cc : ByteArray} {maxL nL mc ms n index : Nat} {ret : Option FieldType} {hh : List (Nat × Nat × Nat × Nat)} {ws : List Cond} {rm : Room} {Pc : Array Value → State → Prop} {Qc : Array Value → State → Outcome → State → Prop} {free : Addr → Prop} {Ts : List Cond} {own : String} {As rest : List Value} {g : JFrame}
    (S : CallFix p m c cc nL s args Ts own) (hM : Met l y ws rm Pc Qc mc ms free) (cw : vx_CSW R s args own index y bytes maxL ret hh ws rm mc ms n) (hp : PreS s H Pc As)
    (hg : g.method = m) (hn : As.length = n) (hsize : g.locals.size = nL) (hstack : g.stack = As.reverse ++ rest) (hW : 2 * g.monitorRoom + (rest.map fun v => v.category).sum ≤ 8) (hdg : decode cc g.pc = .ok (.invokestatic index, 3)) (hf : cells + mc ≤ R.cells ∧ slots + ms ≤ R.slots) :
    va_Run p l e R s m args below meth c H locs cells slots mc ms g rest (Qc As.toArray) (free) := by
  obtain ⟨⟨hrc, hrs, hfr, hlo, hws, hcw⟩, hcode, hini, hy, hlen, hl, hstt⟩ := cw
  have hK : Back l R p e below s args y 3 8 (PreOf R mc ms Pc) (PostOf Qc mc ms free) := va_backW (hh := hh) (bytes := bytes) (maxL := maxL) (ret := ret) hM hp.1 hrc hrs hfr hlo hws hcw (fun a' U hW => word_at hW (Or.inl (by first | rfl | simp [Cond.onTables, Cond.keeps, Cond.steady])) hini)
  obtain ⟨hx, hb, hml, ho, -⟩ := S
  intro T hT X
  obtain ⟨v, vm₁, ⟨U', l2, c2, s2⟩, hW₁, X', ⟨g', mk, t, L, e1, e2, hq, h1, hL, h2, h3⟩, st⟩ := vx_callSW X hx (hh := hh) (bytes := bytes) (maxL := maxL) (ret := ret) ho hl hstt hini hcode hy hK hg (hsize.trans hml.symm) (argsL := As) (rest := rest) (fun sig h => hn.trans (hlen sig h)) hstack hW (by rw [hb]; exact hdg)
    (fun vm₁ hW₁ => ⟨hf.1, hf.2, hp.2 (T.setVm vm₁) hT hW₁⟩)
  dsimp only [Pt.U, Pt.locs, Pt.cells, Pt.slots] at X' e1 e2 h1 h2 h3 st
  subst h1; subst h2; subst h3
  exact ⟨v, (T.setVm vm₁).calling g' mk As.toArray, t, U', L, hT, X', hL, e1, e2, hq, st⟩
/-- not caught here, past rows that name other classes: it goes on to the caller -/
theorem vx_outP {p : Program} {l : Launch} {e : Env} {R : Room} {s : State} {m : MethodId} {args : Array Value} {below : List Frame} {meth : Method} {c : Code} {H : Heap} {locs : List Loc} {cells slots : Nat} {free : Addr → Prop} {ls : Array Slot} {rest : List Value} {Qc : Array Value → State → Outcome → State → Prop} {XC : String → State → State → Prop}
    {pc : Nat} {own E : String} {ce : Cell} {q : Addr} {mc ms : Nat} (hown : s.vm.findClass own = some m.cls) (hlocks : meth.locks = false)
    (hpass : ∀ z ∈ c.exceptionTable.toList, covers z pc = false ∨ (z.catchType ≠ 0 ∧ ∃ nm : String, (Cond.classLink own z.catchType nm).before args s = true ∧ va_Nc E nm s)) (hcell : H[q]? = some ce) (hv : ce.vm = .none) (hcl : s.vm.findClass E = some ce.cls)
    (hx : ∀ t : State, t.heap = H → s.vm.Alike t.vm → XC E s t) (hf : ∀ z ∈ locs, free z.base) (hc : cells ≤ mc) (hs : slots ≤ ms) :
    vx_W p l e R s m args below meth c H locs cells slots (vx_MQ below Qc XC args s mc ms free) (F0 m pc ls rest) q := by
  intro T hT X
  have hpl : e.platform.magicAccessors = ({} : Platform).magicAccessors := by rw [X.admits.platform]
  obtain ⟨vm', hW', X', st⟩ := X.outThrough hlocks q (g := F0 m pc ls rest) rfl rfl rfl (cell := ce) (by rw [hT]; exact hcell) (by rw [hv]; rfl)
    (by obtain ⟨k9, h9, -⟩ := Vm.findClass_spec hcl; exact ⟨k9, h9⟩) (fun z hz => by
      rcases hpass z hz with h | ⟨hz0, nm, hl1, hn1⟩
      · exact Or.inl h
      · obtain ⟨c6, hc6, hcl6⟩ := Cond.classLink_spec hown hl1 e.platform hpl
        obtain ⟨a8, b8, h1, h2, h3⟩ := hn1
        cases Option.some.inj (h1.symm.trans hcl)
        cases Option.some.inj (h2.symm.trans hc6)
        exact Or.inr ⟨hz0, _, hcl6, h3⟩)
  obtain ⟨g₀, hfr⟩ := X'.frames_eq
  have hcell9 : ((T.setVm vm').setFrames (.throwing q :: below)).heap[q]? = some ce := by
    show T.heap[q]? = some ce
    rw [hT]; exact hcell
  have hend : Ended ((T.setVm vm').setFrames (.throwing q :: below)) below (.threw q) := State.frames_setFrames _ (State.cur_lt_of_frames hfr)
  refine ⟨(T.setVm vm').setFrames (.throwing q :: below), ?_, .threw q, X'.here.running, hend, Or.inr ⟨q, rfl, E, ce, locs, hx _ hT (X'.ends _).1.alike, hcell9, hv, hcl, (X'.ends _).1, (X'.ends _).2.mono hc hs, hf⟩⟩
  rw [X.pushThrowing_eq]
  exact st
/-- a thing of a world lies in the heap -/
theorem vx_lt {D : va_G} {cl : List vw_C} {ws : va_W} {H1 : Heap} (h : va_P D cl ws H1) {k : Nat} {q : Nat × va_E} (hk : ws[k]? = some q) : q.1 < H1.size := (h k q hk).lt
end VXS
/-! ===== END ===== -/
/-! ===== BEGIN methods with a table of their own: called by a name, returning or throwing ===== -/
section VXH
/-! vx_backW, vx_callVX, vx_callSX, vx_callVW, vx_runVW, vx_runVX, vx_runSX, vx_ofWH follow the same proofs as their sisters above (Free/Laws.lean, Shelf42/LK1.lean); vx_outP calls Shelf42/NT130.lean (outThrough). -/
section
variable {l : Launch} {R : Room} {p : Program} {e : Env} {below : List Frame} {s : State} {sargs : Array Value} {y : MethodName} {len W9 : Nat}
theorem vx_backW {ws : List Cond} {rm : Room} {Pc : Array Value → State → Prop} {Qc : Array Value → State → Outcome → State → Prop} {XC : String → State → State → Prop} {mc ms : Nat} {free : Addr → Prop} {bytes : ByteArray} {maxL : Nat} {ret : Option FieldType} {hh : List (Nat × Nat × Nat × Nat)}
    (hM : vx_Met l y ws rm Pc Qc XC mc ms free) (hblind : FrameBlind Pc) (hrc : rm.cells = mc) (hrs : rm.slots = ms)
    (hframes : rm.frames + 1 ≤ R.frames) (hlocals : W9 + (maxL + 11) + rm.locals ≤ R.locals)
    (hws : ∀ w ∈ ws, ∀ a' U, s.WarmedH U.vm → w.before a' U = true) (hcode : Cond.codeWith y bytes maxL ret hh ∈ ws) (hinit : ∀ a' U, s.WarmedH U.vm → (Cond.initialized y.cls).before a' U = true) :
    vx_Back l R p e below s sargs y len W9 (PreOf R mc ms Pc) (PostOf Qc mc ms free) (vx_Post XC mc ms free) := by
  intro m meth c A g ig mk a X hg hsize hdg hW hn hp
  have h1 : (headSpec ws rm).pre.before a A.U = true := atoms_intro fun w hw => hws w hw _ _ X.warmed
  have h2 : (Cond.codeWith y bytes maxL ret hh).before a A.U = true := hws _ hcode _ _ X.warmed
  have h3 : (Cond.initialized y.cls).before a A.U = true := hinit _ _ X.warmed
  have h4 : A.cells + (headSpec ws rm).room.cells ≤ R.cells := by rw [show (headSpec ws rm).room.cells = mc from hrc]; exact hp.1
  have h5 : A.slots + (headSpec ws rm).room.slots ≤ R.slots := by rw [show (headSpec ws rm).room.slots = ms from hrs]; exact hp.2.1
  have hPc : Pc a (A.U.calling g mk a) := hblind _ _ _ _ hp.2.2
  obtain ⟨U, Ls, c0, s0⟩ := A
  dsimp only [Pt.U, Pt.locs, Pt.cells, Pt.slots] at h1 h2 h3 h4 h5 X hn hPc ⊢
  obtain ⟨m9, methY, cY, hn9, hmY, hcY, -, hlY, -⟩ := Cond.codeWith_spec h2
  cases Option.some.inj (hn9.symm.trans hn)
  obtain ⟨kY, hkY, -⟩ := className_of_methodNamed hn
  have hinitY : kY.init = .initialized := Cond.initialized_spec (findClass_of_methodNamed hn) hkY h3
  have h : At U g.method c below := by rw [hg]; exact X.here
  have hlocals9 : W9 + (maxL + 11) + (headSpec ws rm).room.locals ≤ R.locals := hlocals
  have happ : (headSpec ws rm).appliesLoose y e.platform (U.calling g mk a) = true :=
    Spec.appliesLoose_calling (g := g) h hdg hn hkY hinitY
      (X.room_calling (g := g) (R' := (headSpec ws rm).room) hsize hmY hcY hframes (by rw [hlY]; omega) h4 h5) h1
  obtain ⟨mid, hmid⟩ := h.above
  have hfr : (U.setTop g).frames = (.java g :: mid) ++ below := by rw [State.frames_setTop' g h.top, hmid]; rfl
  obtain ⟨o, s₂, hsteps, -, hend, hq⟩ := Steps.callFree hM p X.admits X.cas X.clock (acts := []) hfr happ hPc trivial
  have hq' : vx_Q Qc XC mc ms free a (U.calling g mk a) o s₂ := hq
  rw [State.frames_setTop' g h.top] at hend
  obtain ⟨g₀, hg0⟩ := Option.isSome_iff_exists.mp h.top
  obtain ⟨r, hr⟩ := State.topJava?_eq_some.mp hg0
  have hr' : (({ U with heap := s₂.heap, slotsUsed := s₂.slotsUsed } : State).setVm s₂.vm).frames = .java g₀ :: r := hr
  rcases hq' with ⟨hqc, L, hfe, hL⟩ | ⟨q, rfl, E, ce, L, hx, hce, hcv, hcl, hW₂, hsm, hL⟩
  · obtain ⟨⟨v, rfl⟩, hW₂, e2, q2, q3, q4, q5, q6⟩ := id hfe
    have e3 : s₂ = ({ (U.calling g mk a).setFrames s₂.frames with heap := s₂.heap, slotsUsed := s₂.slotsUsed } : State).setVm s₂.vm := by
      have : s₂ = ({ s₂ with vm := (U.calling g mk a).vm } : State).setVm s₂.vm := rfl
      rw [e2] at this
      exact this
    obtain ⟨c₂, i₂, len₂, hc₂, hd₂, hf₂⟩ := hend
    have hW' : U.WarmedH s₂.vm := hW₂
    have hcc : c₂ = c := by
      have h1 : s₂.code? g.method = U.code? g.method := by
        rw [State.code?_eq, State.code?_eq, hW'.alike.method?]
      exact Option.some.inj (hc₂.symm.trans (h1.trans h.code))
    subst hcc
    have hlen : len₂ = len := by rw [hdg] at hd₂; cases hd₂; rfl
    subst hlen
    have hs₂ : s₂ = (({ U with heap := s₂.heap, slotsUsed := s₂.slotsUsed } : State).setVm s₂.vm).setTop { g with pc := g.pc + len₂, stack := v.toList ++ g.stack } := by
      refine e3.trans ?_
      rw [hf₂, State.calling_eq h.top, State.setFrames_setFrames, State.setTop_of_frames _ hr', hr]
      rfl
    have hsame : U.sameButNew ({ U with heap := s₂.heap, slotsUsed := s₂.slotsUsed } : State) L mc ms := by
      refine ⟨?_, q2, q3, q4, q5, q6⟩
      obtain ⟨t, ht, -⟩ := State.frames_cons hr
      show ({ U with heap := s₂.heap, slotsUsed := s₂.slotsUsed } : State) = { U.setFrames U.frames with heap := s₂.heap, slotsUsed := s₂.slotsUsed }
      rw [State.setFrames_self ht]
    subst hg
    refine Or.inl ⟨v, ⟨(({ U with heap := s₂.heap, slotsUsed := s₂.slotsUsed } : State).setVm s₂.vm), Ls ++ L, c0 + mc, s0 + ms⟩,
      ⟨X.admits, X.cas, X.clock, X.frames, X.room, X.hears, X.method, X.code, (X.here.setHeapUsed s₂.heap s₂.slotsUsed).setVm hW'.alike, X.tail, State.WarmedH.trans X.warmed hW', X.limits, X.bytes, X.same.trans (hsame.setVm s.vm)⟩,
      ⟨g, mk, s₂, L, rfl, rfl, hqc, rfl, hL, rfl, rfl⟩, ?_⟩
    show Steps p.tables e below _ ((({ U with heap := s₂.heap, slotsUsed := s₂.slotsUsed } : State).setVm s₂.vm).setTop { g with pc := g.pc + len₂, stack := v.toList ++ g.stack })
    rw [← hs₂]
    exact hsteps
  · obtain ⟨e2, q2, q3, q4, q5, q6⟩ := id hsm
    have e3 : s₂ = ({ (U.calling g mk a).setFrames s₂.frames with heap := s₂.heap, slotsUsed := s₂.slotsUsed } : State).setVm s₂.vm := by
      have : s₂ = ({ s₂ with vm := (U.calling g mk a).vm } : State).setVm s₂.vm := rfl
      rw [e2] at this
      exact this
    have hf₂ : s₂.frames = .throwing q :: .java g :: U.frames.tail := hend
    have hW' : U.WarmedH s₂.vm := hW₂
    have hs₂ : s₂ = ((({ U with heap := s₂.heap, slotsUsed := s₂.slotsUsed } : State).setVm s₂.vm).setTop g).pushFrame (.throwing q) := by
      refine e3.trans ?_
      rw [hf₂, State.calling_eq h.top, State.setFrames_setFrames, State.pushFrame, State.frames_setTop _ hr', State.setTop_of_frames _ hr', State.setFrames_setFrames, hr]
      rfl
    have hsame : U.sameButNew ({ U with heap := s₂.heap, slotsUsed := s₂.slotsUsed } : State) L mc ms := by
      refine ⟨?_, q2, q3, q4, q5, q6⟩
      obtain ⟨t, ht, -⟩ := State.frames_cons hr
      show ({ U with heap := s₂.heap, slotsUsed := s₂.slotsUsed } : State) = { U.setFrames U.frames with heap := s₂.heap, slotsUsed := s₂.slotsUsed }
      rw [State.setFrames_self ht]
    subst hg
    refine Or.inr ⟨q, ⟨(({ U with heap := s₂.heap, slotsUsed := s₂.slotsUsed } : State).setVm s₂.vm), Ls ++ L, c0 + mc, s0 + ms⟩,
      ⟨X.admits, X.cas, X.clock, X.frames, X.room, X.hears, X.method, X.code, (X.here.setHeapUsed s₂.heap s₂.slotsUsed).setVm hW'.alike, X.tail, State.WarmedH.trans X.warmed hW', X.limits, X.bytes, X.same.trans (hsame.setVm s.vm)⟩,
      ⟨g, mk, s₂, L, E, ce, rfl, rfl, hx, hce, hcv, hcl, rfl, hL, rfl, rfl⟩, ?_⟩
    show Steps p.tables e below _ (((({ U with heap := s₂.heap, slotsUsed := s₂.slotsUsed } : State).setVm s₂.vm).setTop g).pushFrame (.throwing q))
    rw [← hs₂]
    exact hsteps
end
variable {p : Program} {l : Launch} {e : Env} {R : Room} {s : State} {m : MethodId} {args : Array Value} {below : List Frame} {meth : Method} {c : Code} {T : State} {H : Heap} {locs : List Loc} {cells slots : Nat}
theorem vx_callVX (X : Stand p l e R s m args below meth c T locs cells slots) (hexec : p.tables.exec = Jvm.exec) {own C : String} {index : Nat} {y : MethodName} {bytes : ByteArray} {maxL : Nat} {ret : Option FieldType} {hh : List (Nat × Nat × Nat × Nat)}
    (hown : s.vm.findClass own = some m.cls) (hlink : (Cond.methodLink own index y).before args s = true) (hinst : (Cond.instanceMethod y).before args s = true) (hsel : (Cond.selects C y y).before args s = true)
    (hcode : (Cond.codeWith y bytes maxL ret hh).before args s = true) (hy : y.cls ≠ "java/lang/invoke/MethodHandle" ∧ y.cls ≠ "java/lang/invoke/VarHandle")
    {W9 : Nat} {Pre : Pt → Array Value → Prop} {Post : Pt → Array Value → Option Value → Pt → Prop} {PostX : Pt → Array Value → Addr → Pt → Prop} (hK : vx_Back l R p e below s args y 3 W9 Pre Post PostX)
    {b : Addr} {cellB : Cell} (hcell : T.heap[b]? = some cellB) (hobj : cellB.vm.isStatics = false) (hcls : s.vm.findClass C = some cellB.cls)
    {g : JFrame} (hg : g.method = m) (hsize : g.locals.size = c.maxLocals) {argsL rest : List Value} (hlen : ∀ sig, parseMethodDescriptor y.desc = some sig → argsL.length = sig.parameters.length)
    (hstack : g.stack = argsL.reverse ++ .ref b :: rest) (hW : 2 * g.monitorRoom + (rest.map fun v => v.category).sum ≤ W9) (hdg : decode c.code g.pc = .ok (.invokevirtual index, 3))
    (hpre : ∀ vm₁, s.WarmedH vm₁ → Pre ⟨T.setVm vm₁, locs, cells, slots⟩ (Value.ref b :: argsL).toArray) :
    (∃ (v : Option Value) (vm₁ : Vm) (B : Pt), s.WarmedH vm₁ ∧ Stand p l e R s m args below meth c B.U B.locs B.cells B.slots ∧ Post ⟨T.setVm vm₁, locs, cells, slots⟩ (Value.ref b :: argsL).toArray v B ∧
      ∀ target, Steps p.tables e below (B.U.setTop { g with pc := g.pc + 3, stack := v.toList ++ rest }) target → Steps p.tables e below (T.setTop g) target) ∨
    (∃ (q : Addr) (vm₁ : Vm) (B : Pt), s.WarmedH vm₁ ∧ Stand p l e R s m args below meth c B.U B.locs B.cells B.slots ∧ PostX ⟨T.setVm vm₁, locs, cells, slots⟩ (Value.ref b :: argsL).toArray q B ∧
      Steps p.tables e below (T.setTop g) ((B.U.setTop { g with stack := rest }).pushFrame (.throwing q))) := by
  obtain ⟨mk, methM, hnamed, hmethM, hstM, habM⟩ := Cond.instanceMethod_spec hinst
  obtain ⟨m8, methM', cM, hn8, hmethM', -, -, -, -, -, -, hsigM⟩ := Cond.codeWith_spec hcode
  cases Option.some.inj (hn8.symm.trans hnamed)
  cases hmethM.symm.trans hmethM'
  obtain ⟨c2, r2, m2, q1, q2, q3, q4, kP, hkP, hkPi⟩ := Cond.selects_spec hsel
  cases hcls.symm.trans q1
  cases (State.methodFound?_of_named hnamed hy).symm.trans q2
  cases hnamed.symm.trans q3
  have hselP : selectMethod e.platform s.vm cellB.cls mk = .method mk := by rw [Launch.admits_selectMethod X.admits]; exact q4
  obtain ⟨vm₁, X₁, hstep₁⟩ := X.invokevirtual hexec hown hlink hnamed hmethM hstM hkP hkPi hy (a := b) (cell := cellB) hcell
    (fun z h => by rw [h] at hobj; cases hobj) hselP hmethM habM hkP hkPi (g := g) hg (argsL := argsL) (rest := rest) (hlen _ hsigM) hstack hdg
  rcases hK m meth c ⟨T.setVm vm₁, locs, cells, slots⟩ { g with stack := rest } (.invokevirtual index) mk (Value.ref b :: argsL).toArray X₁ hg hsize hdg hW (X₁.named hnamed) (hpre vm₁ X₁.warmed) with ⟨v, B, X', hpost, hsteps⟩ | ⟨q, B, X', hpost, hsteps⟩
  · exact Or.inl ⟨v, vm₁, B, X₁.warmed, X', hpost, fun target h => hstep₁ _ fun acts => by rw [doInvoke_state]; exact hsteps.trans h⟩
  · exact Or.inr ⟨q, vm₁, B, X₁.warmed, X', hpost, hstep₁ _ fun acts => by rw [doInvoke_state]; exact hsteps⟩
theorem vx_callSX (X : Stand p l e R s m args below meth c T locs cells slots) (hexec : p.tables.exec = Jvm.exec) {own : String} {index : Nat} {y : MethodName} {bytes : ByteArray} {maxL : Nat} {ret : Option FieldType} {hh : List (Nat × Nat × Nat × Nat)}
    (hown : s.vm.findClass own = some m.cls) (hlink : (Cond.methodLink own index y).before args s = true) (hstat : (Cond.static y).before args s = true) (hinit : (Cond.initialized y.cls).before args s = true)
    (hcode : (Cond.codeWith y bytes maxL ret hh).before args s = true) (hy : y.cls ≠ "java/lang/invoke/MethodHandle" ∧ y.cls ≠ "java/lang/invoke/VarHandle")
    {W9 : Nat} {Pre : Pt → Array Value → Prop} {Post : Pt → Array Value → Option Value → Pt → Prop} {PostX : Pt → Array Value → Addr → Pt → Prop} (hK : vx_Back l R p e below s args y 3 W9 Pre Post PostX)
    {g : JFrame} (hg : g.method = m) (hsize : g.locals.size = c.maxLocals) {argsL rest : List Value} (hlen : ∀ sig, parseMethodDescriptor y.desc = some sig → argsL.length = sig.parameters.length)
    (hstack : g.stack = argsL.reverse ++ rest) (hW : 2 * g.monitorRoom + (rest.map fun v => v.category).sum ≤ W9) (hdg : decode c.code g.pc = .ok (.invokestatic index, 3))
    (hpre : ∀ vm₁, s.WarmedH vm₁ → Pre ⟨T.setVm vm₁, locs, cells, slots⟩ argsL.toArray) :
    (∃ (v : Option Value) (vm₁ : Vm) (B : Pt), s.WarmedH vm₁ ∧ Stand p l e R s m args below meth c B.U B.locs B.cells B.slots ∧ Post ⟨T.setVm vm₁, locs, cells, slots⟩ argsL.toArray v B ∧
      ∀ target, Steps p.tables e below (B.U.setTop { g with pc := g.pc + 3, stack := v.toList ++ rest }) target → Steps p.tables e below (T.setTop g) target) ∨
    (∃ (q : Addr) (vm₁ : Vm) (B : Pt), s.WarmedH vm₁ ∧ Stand p l e R s m args below meth c B.U B.locs B.cells B.slots ∧ PostX ⟨T.setVm vm₁, locs, cells, slots⟩ argsL.toArray q B ∧
      Steps p.tables e below (T.setTop g) ((B.U.setTop { g with stack := rest }).pushFrame (.throwing q))) := by
  obtain ⟨mk, methM, cM, hnamed, hmethM, -, -, -, -, -, -, hsigM⟩ := Cond.codeWith_spec hcode
  have hstatic : methM.isStatic = true := Cond.static_spec hnamed hmethM hstat
  obtain ⟨kP, hkP, -⟩ := className_of_methodNamed hnamed
  have hinitP : kP.init = .initialized := Cond.initialized_spec (findClass_of_methodNamed hnamed) hkP hinit
  obtain ⟨vm₁, X₁, hstep₁⟩ := X.invokestatic hexec hown hlink hnamed hmethM hstatic hkP hinitP hy (g := g) hg (argsL := argsL) (rest := rest) (hlen _ hsigM) hstack hdg
  rcases hK m meth c ⟨T.setVm vm₁, locs, cells, slots⟩ { g with stack := rest } (.invokestatic index) mk argsL.toArray X₁ hg hsize hdg hW (X₁.named hnamed) (hpre vm₁ X₁.warmed) with ⟨v, B, X', hpost, hsteps⟩ | ⟨q, B, X', hpost, hsteps⟩
  · exact Or.inl ⟨v, vm₁, B, X₁.warmed, X', hpost, fun target h => hstep₁ _ fun acts => by rw [doInvoke_state]; exact hsteps.trans h⟩
  · exact Or.inr ⟨q, vm₁, B, X₁.warmed, X', hpost, hstep₁ _ fun acts => by rw [doInvoke_state]; exact hsteps⟩
theorem vx_callVW (X : Stand p l e R s m args below meth c T locs cells slots) (hexec : p.tables.exec = Jvm.exec) {own C : String} {index : Nat} {y : MethodName} {bytes : ByteArray} {maxL : Nat} {ret : Option FieldType} {hh : List (Nat × Nat × Nat × Nat)}
    (hown : s.vm.findClass own = some m.cls) (hlink : (Cond.methodLink own index y).before args s = true) (hinst : (Cond.instanceMethod y).before args s = true) (hsel : (Cond.selects C y y).before args s = true)
    (hcode : (Cond.codeWith y bytes maxL ret hh).before args s = true) (hy : y.cls ≠ "java/lang/invoke/MethodHandle" ∧ y.cls ≠ "java/lang/invoke/VarHandle")
    {W9 : Nat} {Pre : Pt → Array Value → Prop} {Post : Pt → Array Value → Option Value → Pt → Prop} (hK : Back l R p e below s args y 3 W9 Pre Post)
    {b : Addr} {cellB : Cell} (hcell : T.heap[b]? = some cellB) (hobj : cellB.vm.isStatics = false) (hcls : s.vm.findClass C = some cellB.cls)
    {g : JFrame} (hg : g.method = m) (hsize : g.locals.size = c.maxLocals) {argsL rest : List Value} (hlen : ∀ sig, parseMethodDescriptor y.desc = some sig → argsL.length = sig.parameters.length)
    (hstack : g.stack = argsL.reverse ++ .ref b :: rest) (hW : 2 * g.monitorRoom + (rest.map fun v => v.category).sum ≤ W9) (hdg : decode c.code g.pc = .ok (.invokevirtual index, 3))
    (hpre : ∀ vm₁, s.WarmedH vm₁ → Pre ⟨T.setVm vm₁, locs, cells, slots⟩ (Value.ref b :: argsL).toArray) :
    ∃ (v : Option Value) (vm₁ : Vm) (B : Pt), s.WarmedH vm₁ ∧ Stand p l e R s m args below meth c B.U B.locs B.cells B.slots ∧ Post ⟨T.setVm vm₁, locs, cells, slots⟩ (Value.ref b :: argsL).toArray v B ∧
      ∀ target, Steps p.tables e below (B.U.setTop { g with pc := g.pc + 3, stack := v.toList ++ rest }) target → Steps p.tables e below (T.setTop g) target := by
  obtain ⟨mk, methM, hnamed, hmethM, hstM, habM⟩ := Cond.instanceMethod_spec hinst
  obtain ⟨m8, methM', cM, hn8, hmethM', -, -, -, -, -, -, hsigM⟩ := Cond.codeWith_spec hcode
  cases Option.some.inj (hn8.symm.trans hnamed)
  cases hmethM.symm.trans hmethM'
  obtain ⟨c2, r2, m2, q1, q2, q3, q4, kP, hkP, hkPi⟩ := Cond.selects_spec hsel
  cases hcls.symm.trans q1
  cases (State.methodFound?_of_named hnamed hy).symm.trans q2
  cases hnamed.symm.trans q3
  have hselP : selectMethod e.platform s.vm cellB.cls mk = .method mk := by rw [Launch.admits_selectMethod X.admits]; exact q4
  obtain ⟨vm₁, X₁, hstep₁⟩ := X.invokevirtual hexec hown hlink hnamed hmethM hstM hkP hkPi hy (a := b) (cell := cellB) hcell
    (fun z h => by rw [h] at hobj; cases hobj) hselP hmethM habM hkP hkPi (g := g) hg (argsL := argsL) (rest := rest) (hlen _ hsigM) hstack hdg
  obtain ⟨v, B, X', hpost, hsteps⟩ := hK m meth c ⟨T.setVm vm₁, locs, cells, slots⟩ { g with stack := rest } (.invokevirtual index) mk (Value.ref b :: argsL).toArray X₁ hg hsize hdg hW (X₁.named hnamed) (hpre vm₁ X₁.warmed)
  exact ⟨v, vm₁, B, X₁.warmed, X', hpost, fun target h => hstep₁ _ fun acts => by rw [doInvoke_state]; exact hsteps.trans h⟩
abbrev vx_CVW (R : Room) (s : State) (args : Array Value) (own C : String) (index : Nat) (y : MethodName) (bytes : ByteArray) (maxL : Nat) (ret : Option FieldType) (hh : List (Nat × Nat × Nat × Nat)) (ws : List Cond) (rm : Room) (mc ms n : Nat) : Prop :=
  (rm.cells = mc ∧ rm.slots = ms ∧ rm.frames + 1 ≤ R.frames ∧ 8 + (maxL + 11) + rm.locals ≤ R.locals ∧ (∀ w ∈ ws, ∀ (a' : Array Value) (U : State), s.WarmedH U.vm → w.before a' U = true) ∧ Cond.codeWith y bytes maxL ret hh ∈ ws) ∧
  (Cond.codeWith y bytes maxL ret hh).before args s = true ∧ (Cond.initialized y.cls).before args s = true ∧ (y.cls ≠ "java/lang/invoke/MethodHandle" ∧ y.cls ≠ "java/lang/invoke/VarHandle") ∧
  (∀ sig, parseMethodDescriptor y.desc = some sig → n = sig.parameters.length) ∧ (Cond.methodLink own index y).before args s = true ∧ (Cond.instanceMethod y).before args s = true ∧ (Cond.selects C y y).before args s = true
theorem vx_cwVW {own C : String} {index maxL mc ms : Nat} {y : MethodName} {bytes : ByteArray} {ret : Option FieldType} {hh : List (Nat × Nat × Nat × Nat)} {Ts ws ws' : List Cond} {rm : Room} (n : Nat) (ht : ∀ w ∈ Ts, w.before args s = true) (hT : GoodIn Ts (wsV own index C y ws)) (hw : ws = Cond.codeWith y bytes maxL ret hh :: ws') (hrc : rm.cells = mc) (hrs : rm.slots = ms)
    (hd : y.cls = C ∧ y.cls ≠ "java/lang/invoke/MethodHandle" ∧ y.cls ≠ "java/lang/invoke/VarHandle" ∧ (parseMethodDescriptor y.desc).map (fun d => d.parameters.length) = some n) (hR : rm.frames + 1 ≤ R.frames ∧ 8 + (maxL + 11) + rm.locals ≤ R.locals) :
    vx_CVW R s args own C index y bytes maxL ret hh ws rm mc ms n := by
  obtain ⟨hC, hd⟩ := hd
  subst hC
  have ok : ∀ w ∈ wsV own index y.cls y ws, w.before args s = true := fun w h => ht w (hT w h).1
  have hG : GoodIn Ts ws := fun w h => hT w (by unfold wsV; exact List.mem_append_right _ h)
  have hc : Cond.codeWith y bytes maxL ret hh ∈ ws := by rw [hw]; exact List.mem_cons_self
  refine ⟨⟨hrc, hrs, hR.1, hR.2, pay_in ht hG, hc⟩, ht _ (hG _ hc).1, ok _ (by simp [wsV]), ⟨hd.1, hd.2.1⟩, fun sig h => ?_, ok _ (by simp [wsV]), ok _ (by simp [wsV]), ok _ (by simp [wsV])⟩
  have h2 := hd.2.2
  rw [h] at h2
  exact (Option.some.inj h2).symm
theorem vx_runVW {y : MethodName} {bytes cc : ByteArray} {maxL nL mc ms n index : Nat} {ret : Option FieldType} {hh : List (Nat × Nat × Nat × Nat)} {ws : List Cond} {rm : Room} {Pc : Array Value → State → Prop} {Qc : Array Value → State → Outcome → State → Prop} {free : Addr → Prop} {Ts : List Cond} {own C : String} {b : Addr} {As rest : List Value} {g : JFrame}
    (S : CallFix p m c cc nL s args Ts own) (hM : Met l y ws rm Pc Qc mc ms free) (cw : vx_CVW R s args own C index y bytes maxL ret hh ws rm mc ms n) (hp : PreV s H C b Pc As)
    (hg : g.method = m) (hn : As.length = n) (hsize : g.locals.size = nL) (hstack : g.stack = As.reverse ++ .ref b :: rest) (hW : 2 * g.monitorRoom + (rest.map fun v => v.category).sum ≤ 8) (hdg : decode cc g.pc = .ok (.invokevirtual index, 3)) (hf : cells + mc ≤ R.cells ∧ slots + ms ≤ R.slots) :
    va_Run p l e R s m args below meth c H locs cells slots mc ms g rest (Qc (Value.ref b :: As).toArray) free := by
  obtain ⟨⟨hrc, hrs, hfr, hlo, hws, hcw⟩, hcode, hini, hy, hlen, hl, hin, hse⟩ := cw
  have hK : Back l R p e below s args y 3 8 (PreOf R mc ms Pc) (PostOf Qc mc ms free) := va_backW (hh := hh) (bytes := bytes) (maxL := maxL) (ret := ret) hM hp.1 hrc hrs hfr hlo hws hcw (fun a' U hW => word_at hW (Or.inl (by first | rfl | simp [Cond.onTables, Cond.keeps, Cond.steady])) hini)
  obtain ⟨hx, hb, hml, ho, -⟩ := S
  obtain ⟨-, ⟨cellB, hcB, hoB, hclB⟩, hPc⟩ := hp
  intro T hT X
  obtain ⟨v, vm₁, ⟨U', l2, c2, s2⟩, hW₁, X', ⟨g', mk, t, L, e1, e2, hq, h1, hL, h2, h3⟩, st⟩ := vx_callVW X hx (C := C) (hh := hh) (bytes := bytes) (maxL := maxL) (ret := ret) ho hl hin hse hcode hy hK (by rw [hT]; exact hcB) hoB hclB hg (hsize.trans hml.symm) (argsL := As) (rest := rest) (fun sig h => hn.trans (hlen sig h)) hstack hW (by rw [hb]; exact hdg)
    (fun vm₁ hW₁ => ⟨hf.1, hf.2, hPc (T.setVm vm₁) hT hW₁⟩)
  dsimp only [Pt.U, Pt.locs, Pt.cells, Pt.slots] at X' e1 e2 h1 h2 h3 st
  subst h1; subst h2; subst h3
  exact ⟨v, (T.setVm vm₁).calling g' mk (Value.ref b :: As).toArray, t, U', L, hT, X', hL, e1, e2, hq, st⟩
section
variable {y : MethodName} {bytes cc : ByteArray} {maxL nL mc ms n index : Nat} {ret : Option FieldType} {ws : List Cond} {rm : Room} {Pc : Array Value → State → Prop} {Qc : Array Value → State → Outcome → State → Prop} {XC : String → State → State → Prop} {free : Addr → Prop} {Ts : List Cond} {own C : String} {b : Addr} {As rest : List Value} {g : JFrame}
theorem vx_runVX {hh : List (Nat × Nat × Nat × Nat)} (S : CallFix p m c cc nL s args Ts own) (hM : vx_Met l y ws rm Pc Qc XC mc ms free) (cw : vx_CVW R s args own C index y bytes maxL ret hh ws rm mc ms n) (hp : PreV s H C b Pc As)
    (hg : g.method = m) (hn : As.length = n) (hsize : g.locals.size = nL) (hstack : g.stack = As.reverse ++ .ref b :: rest) (hW : 2 * g.monitorRoom + (rest.map fun v => v.category).sum ≤ 8) (hdg : decode cc g.pc = .ok (.invokevirtual index, 3)) (hf : cells + mc ≤ R.cells ∧ slots + ms ≤ R.slots) :
    vx_Run p l e R s m args below meth c H locs cells slots mc ms g rest (Qc (Value.ref b :: As).toArray) XC free := by
  obtain ⟨⟨hrc, hrs, hfr, hlo, hws, hcw⟩, hcode, hini, hy, hlen, hl, hin, hse⟩ := cw
  have hK : vx_Back l R p e below s args y 3 8 (PreOf R mc ms Pc) (PostOf Qc mc ms free) (vx_Post XC mc ms free) := vx_backW (hh := hh) (bytes := bytes) (maxL := maxL) (ret := ret) hM hp.1 hrc hrs hfr hlo hws hcw (fun a' U hW => word_at hW (Or.inl (by first | rfl | simp [Cond.onTables, Cond.keeps, Cond.steady])) hini)
  obtain ⟨hx, hb, hml, ho, -⟩ := S
  obtain ⟨-, ⟨cellB, hcB, hoB, hclB⟩, hPc⟩ := hp
  intro T hT X
  rcases vx_callVX X hx (C := C) (hh := hh) (bytes := bytes) (maxL := maxL) (ret := ret) ho hl hin hse hcode hy hK (by rw [hT]; exact hcB) hoB hclB hg (hsize.trans hml.symm) (argsL := As) (rest := rest) (fun sig h => hn.trans (hlen sig h)) hstack hW (by rw [hb]; exact hdg)
    (fun vm₁ hW₁ => ⟨hf.1, hf.2, hPc (T.setVm vm₁) hT hW₁⟩) with ⟨v, vm₁, ⟨U', l2, c2, s2⟩, hW₁, X', ⟨g', mk, t, L, e1, e2, hq, h1, hL, h2, h3⟩, st⟩ | ⟨q, vm₁, ⟨U', l2, c2, s2⟩, hW₁, X', ⟨g', mk, t, L, E, ce, e1, e2, hq, hce, hcv, hcl, h1, hL, h2, h3⟩, st⟩
  · dsimp only [Pt.U, Pt.locs, Pt.cells, Pt.slots] at X' e1 e2 h1 h2 h3 st
    subst h1; subst h2; subst h3
    exact Or.inl ⟨v, (T.setVm vm₁).calling g' mk (Value.ref b :: As).toArray, t, U', L, hT, X', hL, e1, e2, hq, st⟩
  · dsimp only [Pt.U, Pt.locs, Pt.cells, Pt.slots] at X' e1 e2 h1 h2 h3 st hcl
    subst h1; subst h2; subst h3
    exact Or.inr ⟨q, (T.setVm vm₁).calling g' mk (Value.ref b :: As).toArray, t, U', L, E, ce, hT, X', hL, e1, e2, hq, hce, hcv, vx_cls hW₁ hcl, st⟩
theorem vx_runSX {hh : List (Nat × Nat × Nat × Nat)} (S : CallFix p m c cc nL s args Ts own) (hM : vx_Met l y ws rm Pc Qc XC mc ms free) (cw : vx_CSW R s args own index y bytes maxL ret hh ws rm mc ms n) (hp : PreS s H Pc As)
    (hg : g.method = m) (hn : As.length = n) (hsize : g.locals.size = nL) (hstack : g.stack = As.reverse ++ rest) (hW : 2 * g.monitorRoom + (rest.map fun v => v.category).sum ≤ 8) (hdg : decode cc g.pc = .ok (.invokestatic index, 3)) (hf : cells + mc ≤ R.cells ∧ slots + ms ≤ R.slots) :
    vx_Run p l e R s m args below meth c H locs cells slots mc ms g rest (Qc As.toArray) XC free := by
  obtain ⟨⟨hrc, hrs, hfr, hlo, hws, hcw⟩, hcode, hini, hy, hlen, hl, hstt⟩ := cw
  have hK : vx_Back l R p e below s args y 3 8 (PreOf R mc ms Pc) (PostOf Qc mc ms free) (vx_Post XC mc ms free) := vx_backW (hh := hh) (bytes := bytes) (maxL := maxL) (ret := ret) hM hp.1 hrc hrs hfr hlo hws hcw (fun a' U hW => word_at hW (Or.inl (by first | rfl | simp [Cond.onTables, Cond.keeps, Cond.steady])) hini)
  obtain ⟨hx, hb, hml, ho, -⟩ := S
  intro T hT X
  rcases vx_callSX X hx (hh := hh) (bytes := bytes) (maxL := maxL) (ret := ret) ho hl hstt hini hcode hy hK hg (hsize.trans hml.symm) (argsL := As) (rest := rest) (fun sig h => hn.trans (hlen sig h)) hstack hW (by rw [hb]; exact hdg)
    (fun vm₁ hW₁ => ⟨hf.1, hf.2, hp.2 (T.setVm vm₁) hT hW₁⟩) with ⟨v, vm₁, ⟨U', l2, c2, s2⟩, hW₁, X', ⟨g', mk, t, L, e1, e2, hq, h1, hL, h2, h3⟩, st⟩ | ⟨q, vm₁, ⟨U', l2, c2, s2⟩, hW₁, X', ⟨g', mk, t, L, E, ce, e1, e2, hq, hce, hcv, hcl, h1, hL, h2, h3⟩, st⟩
  · dsimp only [Pt.U, Pt.locs, Pt.cells, Pt.slots] at X' e1 e2 h1 h2 h3 st
    subst h1; subst h2; subst h3
    exact Or.inl ⟨v, (T.setVm vm₁).calling g' mk As.toArray, t, U', L, hT, X', hL, e1, e2, hq, st⟩
  · dsimp only [Pt.U, Pt.locs, Pt.cells, Pt.slots] at X' e1 e2 h1 h2 h3 st hcl
    subst h1; subst h2; subst h3
    exact Or.inr ⟨q, (T.setVm vm₁).calling g' mk As.toArray, t, U', L, E, ce, hT, X', hL, e1, e2, hq, hce, hcv, vx_cls hW₁ hcl, st⟩
end
end VXH
theorem vx_ofWH {l : Launch} {y : MethodName} {ws ws' : List Cond} {rm : Room} {Pc : Array Value → State → Prop} {Qc : Array Value → State → Outcome → State → Prop} {XC : String → State → State → Prop} {mc ms : Nat} {free : Addr → Prop} {cc : ByteArray} {maxL : Nat} {ret : Option FieldType} {hh : List (Nat × Nat × Nat × Nat)}
    (hy : plainName y.cls = true) (hw : ws = Cond.codeWith y cc maxL ret hh :: ws')
    (body : ∀ p e s m args below meth c s₁, BodyLoose p l y (headSpec ws rm) cc maxL ret e s m args below meth c s₁ → c.maxLocals = maxL → Pc args s →
      W p l e (headSpec ws rm).room s m args below meth c s.heap [] 0 0 (vx_MQ below Qc XC args s mc ms free) (entryFrame m args maxL)) : vx_Met l y ws rm Pc Qc XC mc ms free := by
  refine MetFree.of_bodyS (code := cc) (maxLocals := maxL) (ret := ret) hy ?_ ?_
  · intro args s m h hn
    obtain ⟨m9, meth, c, hn9, h1, h2, h3, h4, -, h5, h6, -⟩ := Cond.codeWith_spec (atoms_spec (ws := ws) h _ (by rw [hw]; exact List.mem_cons_self))
    cases hn.symm.trans hn9
    exact ⟨meth, c, h1, h2, h3, h4, h5, h6⟩
  · intro p e s m args below meth c s₁ B hml hP _
    have hh0 : s₁.heap = s.heap := by rw [B.state]; rfl
    obtain ⟨t, a1, o, b1, b2, b3⟩ := body p e s m args below meth c s₁ B hml hP s₁ hh0 (Stand.of_body B)
    exact ⟨t, o, a1, b1, b2, b3⟩
/-! ===== END ===== -/
end
section
def RX0 : String := "OptionLine$Bundle"
def TX0 : u_T := fun k => match k with
  | 0 => ("OptionLine$Bundle", "starts", "[I", true)
  | 1 => ("OptionLine$Bundle", "packetOfPiece", "[I", true)
  | 2 => ("OptionLine$Bundle", "hasCome", "[Z", true)
  | 3 => ("OptionLine$Bundle", "firstOnLine", "[I", true)
  | 4 => ("OptionLine$Bundle", "lastOverLine", "[I", true)
  | 5 => ("OptionLine$Bundle", "givenPackets", "[I", true)
  | 6 => ("OptionLine$Bundle", "packets", "I", false)
  | 7 => ("OptionLine$Bundle", "givenCount", "I", false)
  | _ => ("OptionLine$Bundle", "nextNumber", "I", false)
def tyX0 : Nat → FieldType := fun k => match k with
  | 0 => .array .int
  | 1 => .array .int
  | 2 => .array .boolean
  | 3 => .array .int
  | 4 => .array .int
  | 5 => .array .int
  | 6 => .int
  | 7 => .int
  | _ => .int
theorem nmX0 : ∀ a, a < 9 → ∀ b, b < 9 → a ≠ b → (TX0 a).2.1 ≠ (TX0 b).2.1 := by decide +kernel
theorem tyX0_ok : ∀ k, k < 9 → parseFieldDescriptor (TX0 k).2.2.1 = some (tyX0 k) := by decide +kernel
abbrev cX0_init : ByteArray := prog_2_method_1_code
def yX0_init : MethodName := ⟨RX0, "<init>", "()V"⟩
abbrev cX0_addPacket : ByteArray := prog_2_method_2_code
def yX0_addPacket : MethodName := ⟨RX0, "addPacket", "(I)I"⟩
abbrev cX0_hasPieceOn : ByteArray := prog_2_method_3_code
def yX0_hasPieceOn : MethodName := ⟨RX0, "hasPieceOn", "(I)Z"⟩
abbrev cX0_takePiece : ByteArray := prog_2_method_4_code
def yX0_takePiece : MethodName := ⟨RX0, "takePiece", "(I)I"⟩
abbrev cX0_bring : ByteArray := prog_2_method_5_code
def yX0_bring : MethodName := ⟨RX0, "bring", "(I)I"⟩
abbrev cX0_advance : ByteArray := prog_2_method_6_code
def yX0_advance : MethodName := ⟨RX0, "advance", "()Z"⟩
abbrev cX0_advanceFromFirst : ByteArray := prog_2_method_7_code
def yX0_advanceFromFirst : MethodName := ⟨RX0, "advanceFromFirst", "(I)Z"⟩
abbrev cX0_give : ByteArray := prog_2_method_8_code
def yX0_give : MethodName := ⟨RX0, "give", "(I)V"⟩
abbrev cX0_firstNotCome : ByteArray := prog_2_method_9_code
def yX0_firstNotCome : MethodName := ⟨RX0, "firstNotCome", "(I)I"⟩
abbrev cX0_bound : ByteArray := prog_2_method_10_code
def yX0_bound : MethodName := ⟨RX0, "bound", "()I"⟩
def RX1 : String := "OptionLine$End"
def TX1 : u_T := fun k => match k with
  | 0 => ("OptionLine$End", "wishes", "[I", true)
  | 1 => ("OptionLine$End", "allowed", "[I", true)
  | 2 => ("OptionLine$End", "askedFor", "[I", true)
  | 3 => ("OptionLine$End", "row", "LOptionLine$FrameRow;", true)
  | 4 => ("OptionLine$End", "magic", "I", false)
  | 5 => ("OptionLine$End", "state", "I", false)
  | 6 => ("OptionLine$End", "timer", "I", false)
  | 7 => ("OptionLine$End", "sentRequests", "I", false)
  | 8 => ("OptionLine$End", "lastId", "I", false)
  | 9 => ("OptionLine$End", "looped", "Z", false)
  | _ => ("OptionLine$End", "missedFrames", "I", false)
def tyX1 : Nat → FieldType := fun k => match k with
  | 0 => .array .int
  | 1 => .array .int
  | 2 => .array .int
  | 3 => .object "OptionLine$FrameRow"
  | 4 => .int
  | 5 => .int
  | 6 => .int
  | 7 => .int
  | 8 => .int
  | 9 => .boolean
  | _ => .int
theorem nmX1 : ∀ a, a < 11 → ∀ b, b < 11 → a ≠ b → (TX1 a).2.1 ≠ (TX1 b).2.1 := by decide +kernel
theorem tyX1_ok : ∀ k, k < 11 → parseFieldDescriptor (TX1 k).2.2.1 = some (tyX1 k) := by decide +kernel
abbrev cX1_init : ByteArray := prog_3_method_1_code
def yX1_init : MethodName := ⟨RX1, "<init>", "(I)V"⟩
abbrev cX1_changeWish : ByteArray := prog_3_method_2_code
def yX1_changeWish : MethodName := ⟨RX1, "changeWish", "(II)I"⟩
abbrev cX1_changeAllowed : ByteArray := prog_3_method_3_code
def yX1_changeAllowed : MethodName := ⟨RX1, "changeAllowed", "(II)I"⟩
abbrev cX1_changeMagic : ByteArray := prog_3_method_4_code
def yX1_changeMagic : MethodName := ⟨RX1, "changeMagic", "(I)I"⟩
abbrev cX1_begin : ByteArray := prog_3_method_5_code
def yX1_begin : MethodName := ⟨RX1, "begin", "()I"⟩
abbrev cX1_finish : ByteArray := prog_3_method_6_code
def yX1_finish : MethodName := ⟨RX1, "finish", "()I"⟩
abbrev cX1_tick : ByteArray := prog_3_method_7_code
def yX1_tick : MethodName := ⟨RX1, "tick", "()Z"⟩
abbrev cX1_hear : ByteArray := prog_3_method_8_code
def yX1_hear : MethodName := ⟨RX1, "hear", "(LOptionLine$Frame;)V"⟩
abbrev cX1_hearRequest : ByteArray := prog_3_method_9_code
def yX1_hearRequest : MethodName := ⟨RX1, "hearRequest", "(LOptionLine$Frame;)V"⟩
abbrev cX1_hearAnswer : ByteArray := prog_3_method_10_code
def yX1_hearAnswer : MethodName := ⟨RX1, "hearAnswer", "(LOptionLine$Frame;)V"⟩
abbrev cX1_changeAskedFor : ByteArray := prog_3_method_11_code
def yX1_changeAskedFor : MethodName := ⟨RX1, "changeAskedFor", "(LOptionLine$Frame;)V"⟩
abbrev cX1_ask : ByteArray := prog_3_method_12_code
def yX1_ask : MethodName := ⟨RX1, "ask", "()Z"⟩
abbrev cX1_sendStop : ByteArray := prog_3_method_13_code
def yX1_sendStop : MethodName := ⟨RX1, "sendStop", "()V"⟩
abbrev cX1_answer : ByteArray := prog_3_method_14_code
def yX1_answer : MethodName := ⟨RX1, "answer", "(LOptionLine$Frame;)V"⟩
abbrev cX1_kindOfAnswer : ByteArray := prog_3_method_15_code
def yX1_kindOfAnswer : MethodName := ⟨RX1, "kindOfAnswer", "([I)I"⟩
abbrev cX1_toldOptions : ByteArray := prog_3_method_16_code
def yX1_toldOptions : MethodName := ⟨RX1, "toldOptions", "(I[I)[I"⟩
abbrev cX1_isUnknown : ByteArray := prog_3_method_17_code
def yX1_isUnknown : MethodName := ⟨RX1, "isUnknown", "(II)Z"⟩
abbrev cX1_isRefused : ByteArray := prog_3_method_18_code
def yX1_isRefused : MethodName := ⟨RX1, "isRefused", "(II)Z"⟩
abbrev cX1_allows : ByteArray := prog_3_method_19_code
def yX1_allows : MethodName := ⟨RX1, "allows", "(II)Z"⟩
abbrev cX1_lowestAllowed : ByteArray := prog_3_method_20_code
def yX1_lowestAllowed : MethodName := ⟨RX1, "lowestAllowed", "(I)I"⟩
abbrev cX1_tellNothing : ByteArray := prog_3_method_21_code
def yX1_tellNothing : MethodName := ⟨RX1, "tellNothing", "()[I"⟩
def RX2 : String := "OptionLine$Frame"
def TX2 : u_T := fun k => match k with
  | 0 => ("OptionLine$Frame", "kind", "I", true)
  | 1 => ("OptionLine$Frame", "id", "I", true)
  | 2 => ("OptionLine$Frame", "magic", "I", true)
  | 3 => ("OptionLine$Frame", "values", "[I", true)
  | _ => ("OptionLine$Frame", "behind", "LOptionLine$Frame;", false)
def tyX2 : Nat → FieldType := fun k => match k with
  | 0 => .int
  | 1 => .int
  | 2 => .int
  | 3 => .array .int
  | _ => .object "OptionLine$Frame"
theorem nmX2 : ∀ a, a < 5 → ∀ b, b < 5 → a ≠ b → (TX2 a).2.1 ≠ (TX2 b).2.1 := by decide +kernel
theorem tyX2_ok : ∀ k, k < 5 → parseFieldDescriptor (TX2 k).2.2.1 = some (tyX2 k) := by decide +kernel
abbrev cX2_init : ByteArray := prog_4_method_1_code
def yX2_init : MethodName := ⟨RX2, "<init>", "(III[I)V"⟩
def RX3 : String := "OptionLine$FrameRow"
def TX3 : u_T := fun k => match k with
  | 0 => ("OptionLine$FrameRow", "first", "LOptionLine$Frame;", false)
  | 1 => ("OptionLine$FrameRow", "last", "LOptionLine$Frame;", false)
  | _ => ("OptionLine$FrameRow", "count", "I", false)
def tyX3 : Nat → FieldType := fun k => match k with
  | 0 => .object "OptionLine$Frame"
  | 1 => .object "OptionLine$Frame"
  | _ => .int
theorem nmX3 : ∀ a, a < 3 → ∀ b, b < 3 → a ≠ b → (TX3 a).2.1 ≠ (TX3 b).2.1 := by decide +kernel
theorem tyX3_ok : ∀ k, k < 3 → parseFieldDescriptor (TX3 k).2.2.1 = some (tyX3 k) := by decide +kernel
abbrev cX3_init : ByteArray := prog_5_method_1_code
def yX3_init : MethodName := ⟨RX3, "<init>", "()V"⟩
abbrev cX3_put : ByteArray := prog_5_method_2_code
def yX3_put : MethodName := ⟨RX3, "put", "(LOptionLine$Frame;)V"⟩
abbrev cX3_takeFirst : ByteArray := prog_5_method_3_code
def yX3_takeFirst : MethodName := ⟨RX3, "takeFirst", "()LOptionLine$Frame;"⟩
def RX4 : String := "OptionLine"
def TX4 : u_T := fun k => match k with
  | 0 => ("OptionLine", "endZero", "LOptionLine$End;", true)
  | 1 => ("OptionLine", "endOne", "LOptionLine$End;", true)
  | _ => ("OptionLine", "bundle", "LOptionLine$Bundle;", true)
def tyX4 : Nat → FieldType := fun k => match k with
  | 0 => .object "OptionLine$End"
  | 1 => .object "OptionLine$End"
  | _ => .object "OptionLine$Bundle"
theorem nmX4 : ∀ a, a < 3 → ∀ b, b < 3 → a ≠ b → (TX4 a).2.1 ≠ (TX4 b).2.1 := by decide +kernel
theorem tyX4_ok : ∀ k, k < 3 → parseFieldDescriptor (TX4 k).2.2.1 = some (tyX4 k) := by decide +kernel
abbrev cX4_init : ByteArray := prog_1_method_1_code
def yX4_init : MethodName := ⟨RX4, "<init>", "()V"⟩
abbrev cX4_wish : ByteArray := prog_1_method_2_code
def yX4_wish : MethodName := ⟨RX4, "wish", "(III)I"⟩
abbrev cX4_allow : ByteArray := prog_1_method_3_code
def yX4_allow : MethodName := ⟨RX4, "allow", "(III)I"⟩
abbrev cX4_setMagic : ByteArray := prog_1_method_4_code
def yX4_setMagic : MethodName := ⟨RX4, "setMagic", "(II)I"⟩
abbrev cX4_open : ByteArray := prog_1_method_5_code
def yX4_open : MethodName := ⟨RX4, "open", "(I)I"⟩
abbrev cX4_close : ByteArray := prog_1_method_6_code
def yX4_close : MethodName := ⟨RX4, "close", "(I)I"⟩
abbrev cX4_deliver : ByteArray := prog_1_method_7_code
def yX4_deliver : MethodName := ⟨RX4, "deliver", "(I)I"⟩
abbrev cX4_lose : ByteArray := prog_1_method_8_code
def yX4_lose : MethodName := ⟨RX4, "lose", "(I)I"⟩
abbrev cX4_loop : ByteArray := prog_1_method_9_code
def yX4_loop : MethodName := ⟨RX4, "loop", "(I)I"⟩
abbrev cX4_pass : ByteArray := prog_1_method_10_code
def yX4_pass : MethodName := ⟨RX4, "pass", "(I)I"⟩
abbrev cX4_stateOf : ByteArray := prog_1_method_11_code
def yX4_stateOf : MethodName := ⟨RX4, "stateOf", "(I)I"⟩
abbrev cX4_asked : ByteArray := prog_1_method_12_code
def yX4_asked : MethodName := ⟨RX4, "asked", "(II)I"⟩
abbrev cX4_requests : ByteArray := prog_1_method_13_code
def yX4_requests : MethodName := ⟨RX4, "requests", "(I)I"⟩
abbrev cX4_isLooped : ByteArray := prog_1_method_14_code
def yX4_isLooped : MethodName := ⟨RX4, "isLooped", "(I)Z"⟩
abbrev cX4_underWay : ByteArray := prog_1_method_15_code
def yX4_underWay : MethodName := ⟨RX4, "underWay", "(I)I"⟩
abbrev cX4_missed : ByteArray := prog_1_method_16_code
def yX4_missed : MethodName := ⟨RX4, "missed", "(I)I"⟩
abbrev cX4_send : ByteArray := prog_1_method_17_code
def yX4_send : MethodName := ⟨RX4, "send", "(I)I"⟩
abbrev cX4_come : ByteArray := prog_1_method_18_code
def yX4_come : MethodName := ⟨RX4, "come", "(I)I"⟩
abbrev cX4_drop : ByteArray := prog_1_method_19_code
def yX4_drop : MethodName := ⟨RX4, "drop", "(I)I"⟩
abbrev cX4_given : ByteArray := prog_1_method_20_code
def yX4_given : MethodName := ⟨RX4, "given", "()I"⟩
abbrev cX4_givenAt : ByteArray := prog_1_method_21_code
def yX4_givenAt : MethodName := ⟨RX4, "givenAt", "(I)I"⟩
abbrev cX4_next : ByteArray := prog_1_method_22_code
def yX4_next : MethodName := ⟨RX4, "next", "()I"⟩
abbrev cX4_endAt : ByteArray := prog_1_method_23_code
def yX4_endAt : MethodName := ⟨RX4, "endAt", "(I)LOptionLine$End;"⟩
abbrev cX4_refuseNoOption : ByteArray := prog_1_method_24_code
def yX4_refuseNoOption : MethodName := ⟨RX4, "refuseNoOption", "(I)V"⟩
abbrev cX4_takeFrame : ByteArray := prog_1_method_25_code
def yX4_takeFrame : MethodName := ⟨RX4, "takeFrame", "(LOptionLine$End;)LOptionLine$Frame;"⟩
abbrev cX4_refuseEmptyLine : ByteArray := prog_1_method_26_code
def yX4_refuseEmptyLine : MethodName := ⟨RX4, "refuseEmptyLine", "(I)V"⟩
def RX5 : String := "OptionLineModel"
def TX5 : u_T := fun k => match k with
  | _ => ("", "", "", false)
def tyX5 : Nat → FieldType := fun k => match k with
  | _ => .int
theorem nmX5 : ∀ a, a < 0 → ∀ b, b < 0 → a ≠ b → (TX5 a).2.1 ≠ (TX5 b).2.1 := by decide +kernel
theorem tyX5_ok : ∀ k, k < 0 → parseFieldDescriptor (TX5 k).2.2.1 = some (tyX5 k) := by decide +kernel
def RJx145de : String := "java/io/Serializable"
def TJx145de : u_T := fun k => match k with
  | _ => ("", "", "", false)
def tyJx145de : Nat → FieldType := fun k => match k with
  | _ => .int
def RJx8e188 : String := "java/lang/Cloneable"
def TJx8e188 : u_T := fun k => match k with
  | _ => ("", "", "", false)
def tyJx8e188 : Nat → FieldType := fun k => match k with
  | _ => .int
def RJ9 : String := "java/lang/Math"
def TJ9 : u_T := fun k => match k with
  | _ => ("", "", "", false)
def tyJ9 : Nat → FieldType := fun k => match k with
  | _ => .int
abbrev cJ9_min_7cf53 : ByteArray := prog_13_method_69_code
def yJ9_min_7cf53 : MethodName := ⟨RJ9, "min", "(II)I"⟩
def RJ0 : String := "java/lang/String"
def TJ0 : u_T := fun k => match k with
  | _ => ("", "", "", false)
def tyJ0 : Nat → FieldType := fun k => match k with
  | _ => .int
def RJ10 : String := "java/lang/System"
def TJ10 : u_T := fun k => match k with
  | _ => ("", "", "", false)
def tyJ10 : Nat → FieldType := fun k => match k with
  | _ => .int
def RJ7 : String := "java/util/Arrays"
def TJ7 : u_T := fun k => match k with
  | _ => ("", "", "", false)
def tyJ7 : Nat → FieldType := fun k => match k with
  | _ => .int
abbrev cJ7_fill_53178 : ByteArray := prog_18_method_103_code
def yJ7_fill_53178 : MethodName := ⟨RJ7, "fill", "([II)V"⟩
abbrev cJ7_copyOf_59c91 : ByteArray := prog_18_method_123_code
def yJ7_copyOf_59c91 : MethodName := ⟨RJ7, "copyOf", "([II)[I"⟩
def RL : String := "OptionLineLaw"
abbrev cL_cell : ByteArray := method_2_code
def yL_cell : MethodName := ⟨RL, "cell", "([II)I"⟩
abbrev cL_low : ByteArray := method_3_code
def yL_low : MethodName := ⟨RL, "low", "(II)I"⟩
abbrev cL_wish : ByteArray := method_4_code
def yL_wish : MethodName := ⟨RL, "wish", "(LOptionLine;III)I"⟩
abbrev cL_allow : ByteArray := method_5_code
def yL_allow : MethodName := ⟨RL, "allow", "(LOptionLine;III)I"⟩
abbrev cL_setsMagic : ByteArray := method_6_code
def yL_setsMagic : MethodName := ⟨RL, "setsMagic", "(LOptionLine;III)Z"⟩
abbrev cL_open : ByteArray := method_7_code
def yL_open : MethodName := ⟨RL, "open", "(LOptionLine;I)I"⟩
abbrev cL_close : ByteArray := method_8_code
def yL_close : MethodName := ⟨RL, "close", "(LOptionLine;I)I"⟩
abbrev cL_deliver : ByteArray := method_9_code
def yL_deliver : MethodName := ⟨RL, "deliver", "(LOptionLine;I)I"⟩
abbrev cL_lose : ByteArray := method_10_code
def yL_lose : MethodName := ⟨RL, "lose", "(LOptionLine;I)I"⟩
abbrev cL_loop : ByteArray := method_11_code
def yL_loop : MethodName := ⟨RL, "loop", "(LOptionLine;I)I"⟩
abbrev cL_pass : ByteArray := method_12_code
def yL_pass : MethodName := ⟨RL, "pass", "(LOptionLine;I)I"⟩
abbrev cL_stateOf : ByteArray := method_13_code
def yL_stateOf : MethodName := ⟨RL, "stateOf", "(LOptionLine;I)I"⟩
abbrev cL_asked : ByteArray := method_14_code
def yL_asked : MethodName := ⟨RL, "asked", "(LOptionLine;II)I"⟩
abbrev cL_underWay : ByteArray := method_15_code
def yL_underWay : MethodName := ⟨RL, "underWay", "(LOptionLine;I)I"⟩
abbrev cL_send : ByteArray := method_16_code
def yL_send : MethodName := ⟨RL, "send", "(LOptionLine;I)I"⟩
abbrev cL_come : ByteArray := method_17_code
def yL_come : MethodName := ⟨RL, "come", "(LOptionLine;I)I"⟩
abbrev cL_drop : ByteArray := method_18_code
def yL_drop : MethodName := ⟨RL, "drop", "(LOptionLine;I)I"⟩
abbrev cL_givenAt : ByteArray := method_19_code
def yL_givenAt : MethodName := ⟨RL, "givenAt", "(LOptionLine;I)I"⟩
abbrev cL_number : ByteArray := method_20_code
def yL_number : MethodName := ⟨RL, "number", "(I)I"⟩
abbrev cL_post : ByteArray := method_21_code
def yL_post : MethodName := ⟨RL, "post", "([J[IIIIJ)V"⟩
abbrev cL_pull : ByteArray := method_22_code
def yL_pull : MethodName := ⟨RL, "pull", "([J[II)J"⟩
abbrev cL_beg : ByteArray := method_23_code
def yL_beg : MethodName := ⟨RL, "beg", "([J[I[II)I"⟩
abbrev cL_answer : ByteArray := method_24_code
def yL_answer : MethodName := ⟨RL, "answer", "(J[J[I[II)V"⟩
abbrev cL_take : ByteArray := method_25_code
def yL_take : MethodName := ⟨RL, "take", "(J[J[I[I[II)V"⟩
abbrev cL_goBy : ByteArray := method_26_code
def yL_goBy : MethodName := ⟨RL, "goBy", "(I[J[J[I[I)I"⟩
abbrev cL_links : ByteArray := method_27_code
def yL_links : MethodName := ⟨RL, "links", "(LOptionLine;III[J[J[I[I[I[I)Z"⟩
abbrev cL_follow : ByteArray := method_28_code
def yL_follow : MethodName := ⟨RL, "follow", "([I[J[I[I)V"⟩
abbrev cL_bundles : ByteArray := method_29_code
def yL_bundles : MethodName := ⟨RL, "bundles", "(LOptionLine;III[I[J[I[I)Z"⟩
abbrev cL_isTold : ByteArray := method_30_code
def yL_isTold : MethodName := ⟨RL, "isTold", "(LOptionLine;[I[I[I[I)Z"⟩
abbrev cL_law : ByteArray := code
def yL_law : MethodName := ⟨RL, "law", "([I)Z"⟩
abbrev vwCl : List vw_C := [(RX0, TX0, 9), (RX1, TX1, 11), (RX2, TX2, 5), (RX3, TX3, 3), (RX4, TX4, 3)]
end
section
/-! rows of kit/laws/EXCEPTIONS.to-paste (calls of constructors that may throw), pasted -/
section VXIA
variable {p : Program} {l : Launch} {e : Env} {R : Room} {s : State} {m : MethodId} {args : Array Value} {below : List Frame} {meth : Method} {c : Code} {T : State} {locs : List Loc} {cells slots : Nat}
theorem vx_callI (X : Stand p l e R s m args below meth c T locs cells slots) (hexec : p.tables.exec = Jvm.exec) {own : String} {index : Nat} {y : MethodName} {bytes : ByteArray} {maxL : Nat}
    (hown : s.vm.findClass own = some m.cls) (hy1 : y.name = "<init>") (hlink : (Cond.methodLink own index y).before args s = true) (hinst : (Cond.instanceMethod y).before args s = true)
    (hcode : (Cond.code y bytes maxL none).before args s = true) (hy : y.cls ≠ "java/lang/invoke/MethodHandle" ∧ y.cls ≠ "java/lang/invoke/VarHandle")
    {W9 : Nat} {Pre : Pt → Array Value → Prop} {Post : Pt → Array Value → Option Value → Pt → Prop} {PostX : Pt → Array Value → Addr → Pt → Prop} (hK : vx_Back l R p e below s args y 3 W9 Pre Post PostX)
    {g : JFrame} (hg : g.method = m) (hsize : g.locals.size = c.maxLocals) {a : Addr} {argsL rest : List Value} (hlen : ∀ sig, parseMethodDescriptor y.desc = some sig → argsL.length = sig.parameters.length)
    (hstack : g.stack = argsL.reverse ++ .ref a :: rest) (hW : 2 * g.monitorRoom + (rest.map fun v => v.category).sum ≤ W9) (hdg : decode c.code g.pc = .ok (.invokespecial index, 3))
    (hpre : ∀ vm₁, s.WarmedH vm₁ → Pre ⟨T.setVm vm₁, locs, cells, slots⟩ (Value.ref a :: argsL).toArray) :
    (∃ (v : Option Value) (vm₁ : Vm) (B : Pt), s.WarmedH vm₁ ∧ Stand p l e R s m args below meth c B.U B.locs B.cells B.slots ∧ Post ⟨T.setVm vm₁, locs, cells, slots⟩ (Value.ref a :: argsL).toArray v B ∧
      ∀ target, Steps p.tables e below (B.U.setTop { g with pc := g.pc + 3, stack := v.toList ++ rest }) target → Steps p.tables e below (T.setTop g) target) ∨
    (∃ (q : Addr) (vm₁ : Vm) (B : Pt), s.WarmedH vm₁ ∧ Stand p l e R s m args below meth c B.U B.locs B.cells B.slots ∧ PostX ⟨T.setVm vm₁, locs, cells, slots⟩ (Value.ref a :: argsL).toArray q B ∧
      Steps p.tables e below (T.setTop g) ((B.U.setTop { g with stack := rest }).pushFrame (.throwing q))) := by
  subst hg
  have hpl : e.platform.magicAccessors = ({} : Platform).magicAccessors := by rw [X.admits.platform]
  obtain ⟨mk, methM, cM, kP, vm₁, hnamed, hmethM, hcodeM, -, hlocalsM, -, hkP, -, hW₁, hstep₁⟩ := Steps.initColdArgs (e := e) X.here hexec X.warmed hpl hown hy1 hy hlink hinst hcode (f := g) rfl hlen hstack hdg
  have X₁ := X.noted hW₁
  rcases hK g.method meth c ⟨T.setVm vm₁, locs, cells, slots⟩ { g with stack := rest } (.invokespecial index) mk (Value.ref a :: argsL).toArray X₁ rfl hsize hdg hW (X₁.named hnamed) (hpre vm₁ X₁.warmed) with ⟨v, B, X', hpost, hsteps⟩ | ⟨q, B, X', hpost, hsteps⟩
  · exact Or.inl ⟨v, vm₁, B, X₁.warmed, X', hpost, fun target h => hstep₁ _ fun acts => by rw [doInvoke_state]; exact hsteps.trans h⟩
  · exact Or.inr ⟨q, vm₁, B, X₁.warmed, X', hpost, hstep₁ _ fun acts => by rw [doInvoke_state]; exact hsteps⟩
end VXIA
section VXIB
variable {p : Program} {l : Launch} {e : Env} {R : Room} {s : State} {m : MethodId} {args : Array Value} {below : List Frame} {meth : Method} {c : Code} {H : Heap} {locs : List Loc} {cells slots : Nat}
variable {y : MethodName} {bytes cc : ByteArray} {maxL nL mc ms n index : Nat} {ret : Option FieldType} {ws : List Cond} {rm : Room} {Pc : Array Value → State → Prop} {Qc : Array Value → State → Outcome → State → Prop} {XC : String → State → State → Prop} {free : Addr → Prop} {Ts : List Cond} {own C : String} {b : Addr} {As rest : List Value} {g : JFrame}
theorem vx_runI (S : CallFix p m c cc nL s args Ts own) (hM : vx_Met l y ws rm Pc Qc XC mc ms free) (cw : CallB R s args own index y bytes maxL none ws rm mc ms n ∧ y.name = "<init>" ∧ (Cond.instanceMethod y).before args s = true) (hp : PreS s H Pc (.ref b :: As))
    (hg : g.method = m) (hn : As.length = n) (hsize : g.locals.size = nL) (hstack : g.stack = As.reverse ++ .ref b :: rest) (hW : 2 * g.monitorRoom + (rest.map fun v => v.category).sum ≤ 8) (hdg : decode cc g.pc = .ok (.invokespecial index, 3)) (hf : cells + mc ≤ R.cells ∧ slots + ms ≤ R.slots) :
    vx_Run p l e R s m args below meth c H locs cells slots mc ms g rest (Qc (Value.ref b :: As).toArray) XC free := by
  have hK : vx_Back l R p e below s args y 3 8 (PreOf R mc ms Pc) (PostOf Qc mc ms free) (vx_Post XC mc ms free) := vx_callBack cw.1 hM hp.1
  obtain ⟨⟨-, -, -, -, -, -, hcode, -, hy, hlen, hl⟩, hy1, hin⟩ := cw
  obtain ⟨hx, hb, hml, ho, -⟩ := S
  have hPc := hp.2
  intro T hT X
  rcases vx_callI X hx (bytes := bytes) (maxL := maxL) ho hy1 hl hin hcode hy hK hg (hsize.trans hml.symm) (a := b) (argsL := As) (rest := rest) (fun sig h => hn.trans (hlen sig h)) hstack hW (by rw [hb]; exact hdg)
    (fun vm₁ hW₁ => ⟨hf.1, hf.2, hPc (T.setVm vm₁) hT hW₁⟩) with ⟨v, vm₁, ⟨U', l2, c2, s2⟩, hW₁, X', ⟨g', mk, t, L, e1, e2, hq, h1, hL, h2, h3⟩, st⟩ | ⟨q, vm₁, ⟨U', l2, c2, s2⟩, hW₁, X', ⟨g', mk, t, L, E, ce, e1, e2, hq, hce, hcv, hcl, h1, hL, h2, h3⟩, st⟩
  · dsimp only [Pt.U, Pt.locs, Pt.cells, Pt.slots] at X' e1 e2 h1 h2 h3 st
    subst h1; subst h2; subst h3
    exact Or.inl ⟨v, (T.setVm vm₁).calling g' mk (Value.ref b :: As).toArray, t, U', L, hT, X', hL, e1, e2, hq, st⟩
  · dsimp only [Pt.U, Pt.locs, Pt.cells, Pt.slots] at X' e1 e2 h1 h2 h3 st hcl
    subst h1; subst h2; subst h3
    exact Or.inr ⟨q, (T.setVm vm₁).calling g' mk (Value.ref b :: As).toArray, t, U', L, E, ce, hT, X', hL, e1, e2, hq, hce, hcv, vx_cls hW₁ hcl, st⟩
end VXIB
/-! ===== END ===== -/
/-! ===== BEGIN a private constructor of a nest mate that throws ===== -/
section VXIC
variable {p : Program} {l : Launch} {e : Env} {R : Room} {s : State} {m : MethodId} {args : Array Value} {below : List Frame} {meth : Method} {c : Code} {T : State} {locs : List Loc} {cells slots : Nat}
theorem vx_callIN (X : Stand p l e R s m args below meth c T locs cells slots) (hexec : p.tables.exec = Jvm.exec) {own : String} {index : Nat} {host : String} {y : MethodName} {bytes : ByteArray} {maxL : Nat}
    (hown : s.vm.findClass own = some m.cls) (hy1 : y.name = "<init>") (hlink : (Cond.methodLinkNest own index y host).before args s = true) (hinst : (Cond.instanceMethod y).before args s = true)
    (hcode : (Cond.code y bytes maxL none).before args s = true) (hy : y.cls ≠ "java/lang/invoke/MethodHandle" ∧ y.cls ≠ "java/lang/invoke/VarHandle")
    {W9 : Nat} {Pre : Pt → Array Value → Prop} {Post : Pt → Array Value → Option Value → Pt → Prop} {PostX : Pt → Array Value → Addr → Pt → Prop} (hK : vx_Back l R p e below s args y 3 W9 Pre Post PostX)
    {g : JFrame} (hg : g.method = m) (hsize : g.locals.size = c.maxLocals) {a : Addr} {argsL rest : List Value} (hlen : ∀ sig, parseMethodDescriptor y.desc = some sig → argsL.length = sig.parameters.length)
    (hstack : g.stack = argsL.reverse ++ .ref a :: rest) (hW : 2 * g.monitorRoom + (rest.map fun v => v.category).sum ≤ W9) (hdg : decode c.code g.pc = .ok (.invokespecial index, 3))
    (hpre : ∀ vm₁, s.WarmedH vm₁ → Pre ⟨T.setVm vm₁, locs, cells, slots⟩ (Value.ref a :: argsL).toArray) :
    (∃ (v : Option Value) (vm₁ : Vm) (B : Pt), s.WarmedH vm₁ ∧ Stand p l e R s m args below meth c B.U B.locs B.cells B.slots ∧ Post ⟨T.setVm vm₁, locs, cells, slots⟩ (Value.ref a :: argsL).toArray v B ∧
      ∀ target, Steps p.tables e below (B.U.setTop { g with pc := g.pc + 3, stack := v.toList ++ rest }) target → Steps p.tables e below (T.setTop g) target) ∨
    (∃ (q : Addr) (vm₁ : Vm) (B : Pt), s.WarmedH vm₁ ∧ Stand p l e R s m args below meth c B.U B.locs B.cells B.slots ∧ PostX ⟨T.setVm vm₁, locs, cells, slots⟩ (Value.ref a :: argsL).toArray q B ∧
      Steps p.tables e below (T.setTop g) ((B.U.setTop { g with stack := rest }).pushFrame (.throwing q))) := by
  subst hg
  have hpl : e.platform.magicAccessors = ({} : Platform).magicAccessors := by rw [X.admits.platform]
  obtain ⟨mk, methM, cM, kP, vm₁, hnamed, hmethM, hcodeM, -, hlocalsM, -, hkP, -, hW₁, hstep₁⟩ := Steps.initColdArgsNest (e := e) X.here hexec X.warmed hpl hown hy1 hy hlink hinst hcode (f := g) rfl hlen hstack hdg
  have X₁ := X.noted hW₁
  rcases hK g.method meth c ⟨T.setVm vm₁, locs, cells, slots⟩ { g with stack := rest } (.invokespecial index) mk (Value.ref a :: argsL).toArray X₁ rfl hsize hdg hW (X₁.named hnamed) (hpre vm₁ X₁.warmed) with ⟨v, B, X', hpost, hsteps⟩ | ⟨q, B, X', hpost, hsteps⟩
  · exact Or.inl ⟨v, vm₁, B, X₁.warmed, X', hpost, fun target h => hstep₁ _ fun acts => by rw [doInvoke_state]; exact hsteps.trans h⟩
  · exact Or.inr ⟨q, vm₁, B, X₁.warmed, X', hpost, hstep₁ _ fun acts => by rw [doInvoke_state]; exact hsteps⟩
end VXIC
section VXID
variable {p : Program} {l : Launch} {e : Env} {R : Room} {s : State} {m : MethodId} {args : Array Value} {below : List Frame} {meth : Method} {c : Code} {H : Heap} {locs : List Loc} {cells slots : Nat}
theorem vx_runIN {y : MethodName} {bytes cc : ByteArray} {maxL nL mc ms n index : Nat} {ws : List Cond} {rm : Room} {Pc : Array Value → State → Prop} {Qc : Array Value → State → Outcome → State → Prop} {XC : String → State → State → Prop} {free : Addr → Prop} {Ts : List Cond} {own host : String} {b : Addr} {As rest : List Value} {g : JFrame}
    (S : CallFix p m c cc nL s args Ts own) (hM : vx_Met l y ws rm Pc Qc XC mc ms free) (cw : va_CN R s args own index y host bytes maxL none ws rm mc ms n ∧ y.name = "<init>" ∧ (Cond.instanceMethod y).before args s = true) (hp : PreS s H Pc (.ref b :: As))
    (hg : g.method = m) (hn : As.length = n) (hsize : g.locals.size = nL) (hstack : g.stack = As.reverse ++ .ref b :: rest) (hW : 2 * g.monitorRoom + (rest.map fun v => v.category).sum ≤ 8) (hdg : decode cc g.pc = .ok (.invokespecial index, 3)) (hf : cells + mc ≤ R.cells ∧ slots + ms ≤ R.slots) :
    vx_Run p l e R s m args below meth c H locs cells slots mc ms g rest (Qc (Value.ref b :: As).toArray) XC free := by
  obtain ⟨⟨⟨hrc, hrs, hfr, hlo, hws, hcw⟩, hcode, hini, hy, hlen, hl⟩, hx1, hx2⟩ := cw
  have hK : vx_Back l R p e below s args y 3 8 (PreOf R mc ms Pc) (PostOf Qc mc ms free) (vx_Post XC mc ms free) := vx_back (bytes := bytes) (maxL := maxL) (ret := none) hM hp.1 hrc hrs hfr hlo hws hcw (fun a' U hW => word_at hW (Or.inl (by first | rfl | simp [Cond.onTables, Cond.keeps, Cond.steady])) hini)
  obtain ⟨hx, hb, hml, ho, -⟩ := S
  have hPc := hp.2
  intro T hT X
  rcases vx_callIN X hx (bytes := bytes) (maxL := maxL) ho hx1 hl hx2 hcode hy hK hg (hsize.trans hml.symm) (a := b) (argsL := As) (rest := rest) (fun sig h => hn.trans (hlen sig h)) hstack hW (by rw [hb]; exact hdg)
    (fun vm₁ hW₁ => ⟨hf.1, hf.2, hPc (T.setVm vm₁) hT hW₁⟩) with ⟨v, vm₁, ⟨U', l2, c2, s2⟩, hW₁, X', ⟨g', mk, t, L, e1, e2, hq, h1, hL, h2, h3⟩, st⟩ | ⟨q, vm₁, ⟨U', l2, c2, s2⟩, hW₁, X', ⟨g', mk, t, L, E, ce, e1, e2, hq, hce, hcv, hcl, h1, hL, h2, h3⟩, st⟩
  · dsimp only [Pt.U, Pt.locs, Pt.cells, Pt.slots] at X' e1 e2 h1 h2 h3 st
    subst h1; subst h2; subst h3
    exact Or.inl ⟨v, (T.setVm vm₁).calling g' mk (Value.ref b :: As).toArray, t, U', L, hT, X', hL, e1, e2, hq, st⟩
  · dsimp only [Pt.U, Pt.locs, Pt.cells, Pt.slots] at X' e1 e2 h1 h2 h3 st hcl
    subst h1; subst h2; subst h3
    exact Or.inr ⟨q, (T.setVm vm₁).calling g' mk (Value.ref b :: As).toArray, t, U', L, E, ce, hT, X', hL, e1, e2, hq, hce, hcv, vx_cls hW₁ hcl, st⟩
end VXID
end
section
/-! A world is a partial map of addresses to cells; every method of the claim uses the same words and the same two-way contract. -/
section HP
/-- the good words of the tables, one list for every method -/
def gW : List Cond := lw_tbl.filter goodWord
theorem gW_mem (i : Nat) {w : Cond} (h : lw_tbl[i]? = some w) (g : goodWord w = true) : w ∈ gW := List.mem_filter.mpr ⟨List.mem_of_getElem? h, g⟩
theorem gW_all {ws : List Cond} (ps : List Nat) (h : ws = ps.filterMap (fun i => lw_tbl[i]?)) (g : ws.all goodWord = true) : ∀ w ∈ ws, w ∈ gW := by
  intro w hw
  have h1 := List.all_eq_true.mp g w hw
  rw [h] at hw
  obtain ⟨i, -, hi⟩ := List.mem_filterMap.mp hw
  exact gW_mem i hi h1
theorem gW_pay {args : Array Value} {s : State} (hts : ∀ w ∈ gW, w.before args s = true) {hd : Cond} (hhd : hd ∈ gW) : ∀ w ∈ hd :: gW, ∀ (a' : Array Value) (U : State), s.WarmedH U.vm → w.before a' U = true := by
  intro w hw a' U hW
  have hw' : w ∈ gW := by
    rcases List.mem_cons.mp hw with h | h
    · rw [h]; exact hhd
    · exact h
  exact word_at hW (good_of_word (List.mem_filter.mp hw').2) (hts w hw')
/-- the other words -/
def hOw (w : Cond) : Bool := match w with
  | .castable _ _ => true
  | .declares _ => true
  | .fieldLinkNest _ _ _ _ _ _ => true
  | .methodLinkNest _ _ _ _ => true
  | _ => false
theorem hOw_warm {w : Cond} (hm : hOw w = true) {s U : State} (hW : s.WarmedH U.vm) (h : va_Nw w s) : va_Nw w U := by
  cases w <;> first | exact va_Nw.warmC hW h | exact va_Nw.warmD hW h | exact va_Nw.warmF hW h | exact va_Nw.warmM hW h | simp [hOw] at hm
theorem hOw_tabs {w : Cond} (hm : hOw w = true) : w.onTables = true := by
  cases w <;> first | rfl | simp [hOw] at hm
def hOt : List Cond := lw_tbl.filter hOw
def hStr : List (String × Nat × String) := lw_tbl.filterMap (fun w => match w with | .stringRef a k t => some (a, k, t) | _ => none)
abbrev hC : List vw_C := [(RX0, TX0, 9), (RX1, TX1, 11), (RX2, TX2, 5), (RX3, TX3, 3), (RX4, TX4, 3)]
def eI : String := "java/lang/IndexOutOfBoundsException"
def eA : String := "java/lang/IllegalArgumentException"
def eS : String := "java/lang/IllegalStateException"
def hNcs : List (String × String) := [(eI, eA), (eI, eS), (eA, eI), (eA, eS), (eS, eI), (eS, eA)]
abbrev hG : Type := va_G × (ClassId × ClassId × ClassId) × Nat
abbrev cI (G : hG) : ClassId := G.2.1.1
abbrev cZ (G : hG) : ClassId := G.2.1.2.1
abbrev cJ (G : hG) : ClassId := G.2.1.2.2
abbrev hTy (G : hG) : List (ClassId × FieldType) := [(cI G, .int), (cZ G, .boolean), (cJ G, .long)]
def hFr (G : hG) : Nat → Prop := fun q => G.2.2 ≤ q
/-- what the tables, the statics and the strings are, at a method's start -/
def hK (G : hG) (U : State) : Prop :=
  va_K G.1 hC (hTy G) U ∧ vx_Zq Bundle.tN "UNASSIGNED_STACK" Bundle.steD (hFr G) U U.heap ∧ vx_Zq Bundle.tN "SUPPRESSED_SENTINEL" Bundle.listD (hFr G) U U.heap ∧
  (∀ w ∈ hOt, va_Nw w U) ∧ (∀ q ∈ hStr, ∃ sa : Nat, vk_R q.1 q.2.1 q.2.2 sa U) ∧ (∀ q ∈ hNcs, va_Nc q.1 q.2 U) ∧ G.2.2 ≤ U.heap.size
theorem hK.warm {G : hG} {s U : State} (h : hK G s) (hW : s.WarmedH U.vm) (hz : s.heap.size ≤ U.heap.size) (hq : ∀ a : Nat, a < s.heap.size → ¬ hFr G a → U.heap[a]? = s.heap[a]?) : hK G U :=
  ⟨va_K.moved hW.alike h.1, vx_Zq.moved hW.alike (h.2.1.kept hq), vx_Zq.moved hW.alike (h.2.2.1.kept hq), fun w hw => hOw_warm (List.mem_filter.mp hw).2 hW (h.2.2.2.1 w hw),
    fun q hq => by obtain ⟨sa, h9⟩ := h.2.2.2.2.1 q hq; exact ⟨sa, vk_R.warm hW h9⟩, fun q hq => va_Nc.moved hW.alike (h.2.2.2.2.2.1 q hq), Nat.le_trans h.2.2.2.2.2.2 hz⟩
abbrev hM : Type := Nat → Option va_E
/-- the heap holds the map's cells -/
def hW (G : hG) (f : hM) (H : Heap) : Prop := ∃ (L : List Nat) (g : Nat → va_E), (∀ a e, f a = some e → a ∈ L ∧ g a = e) ∧ va_P G.1 hC (va_pl L g) H ∧ va_D (hFr G) (va_pl L g)
/-- the cells of the map outside S stay -/
def hKeep (S : List Nat) (f f1 : hM) : Prop := ∀ a e, f a = some e → a ∉ S → f1 a = some e
theorem hKeep.rf {S : List Nat} {f : hM} : hKeep S f f := fun _ _ h _ => h
theorem hKeep.tr {S : List Nat} {f f1 f2 : hM} (h : hKeep S f f1) (h2 : hKeep S f1 f2) : hKeep S f f2 := fun a e q n => h2 a e (h a e q n) n
theorem hKeep.mono {S T : List Nat} {f f1 : hM} (h : hKeep S f f1) (hs : ∀ a, a ∈ S → a ∈ T) : hKeep T f f1 := fun a e q n => h a e q (fun z => n (hs a z))
theorem hKeep.up {S : List Nat} {f : hM} {a : Nat} {e : Option va_E} (h : a ∈ S) : hKeep S f (va_up f a e) := fun b x q n => by rw [va_up_ne _ _ (fun z => n (by rw [z]; exact h))]; exact q
theorem hKeep.new {S : List Nat} {f : hM} {a : Nat} {e : Option va_E} (h : f a = none) : hKeep S f (va_up f a e) := fun b x q _ => by
  rw [va_up_ne _ _ (fun z => by rw [z, h] at q; cases q)]; exact q
def hTag (e : va_E) : Nat := match e with
  | .inl _ => 0
  | .inr o => o.1 + 1
theorem hne {f : hM} {a b : Nat} {x y : va_E} (ha : f a = some x) (hb : f b = some y) (h : hTag x ≠ hTag y) : a ≠ b := fun e => by
  rw [e, hb] at ha
  cases ha
  exact h rfl
theorem hnew {f : hM} {a q : Nat} {x : va_E} (ha : f a = some x) (hq : f q = none) : a ≠ q := fun e => by
  rw [e, hq] at ha
  cases ha
theorem nin0 {a : Nat} : a ∉ ([] : List Nat) := List.not_mem_nil
theorem ninc {a b : Nat} {l : List Nat} (h : a ≠ b) (t : a ∉ l) : a ∉ b :: l := fun z => (List.mem_cons.mp z).elim h t
/-! what a method owes -/
def hPre (G : hG) (av : List Value) (f : hM) : Array Value → State → Prop := va_Pc av (fun U => hK G U ∧ hW G f U.heap)
def hQ (G : hG) (P : Option Value → hM → Prop) : Array Value → State → Outcome → State → Prop := fun _ st oc t => (∃ (v : Option Value) (f1 : hM), oc = .returned v ∧ P v f1 ∧ hW G f1 t.heap) ∧ va_F (hFr G) st t
def hX (G : hG) (PX : String → hM → Prop) : String → State → State → Prop := fun E st t => (∃ f1 : hM, PX E f1 ∧ hW G f1 t.heap) ∧ va_F (hFr G) st t
theorem hPre.blind {G : hG} {av : List Value} {f : hM} : FrameBlind (hPre G av f) := fun _ U g mk h => ⟨h.1, hK.warm (U := U.calling g mk _) h.2.1 (State.WarmedH.refl U) (Nat.le_refl _) (fun _ _ _ => rfl), h.2.2⟩
def CT (l : Launch) (y : MethodName) (hd : Cond) (fr lo mc ms : Nat) (G : hG) (av : List Value) (f : hM) (P : Option Value → hM → Prop) (PX : String → hM → Prop) : Prop :=
  vx_Met l y (hd :: gW) { frames := fr, cells := mc, slots := ms, locals := lo } (hPre G av f) (hQ G P) (hX G PX) mc ms (hFr G)
def hB (p : Program) (l : Launch) (s : State) (m : MethodId) (args : Array Value) (meth : Method) (c : Code) (cc : ByteArray) (nL : Nat) (own : String) (G : hG) : Prop :=
  p.tables.exec = Jvm.exec ∧ c.code = cc ∧ c.maxLocals = nL ∧ s.vm.findClass own = some m.cls ∧ (∀ w ∈ gW, w.before args s = true) ∧ meth.locks = false ∧ hK G s ∧ l.stackTraces = false
theorem hp_start {l : Launch} (hl : l.stackTraces = false) {own : String} {y : MethodName} {cc : ByteArray} {maxL : Nat} {ret : Option FieldType} {fr lo mc ms : Nat} {G : hG} {av : List Value} {f : hM} {P : Option Value → hM → Prop} {PX : String → hM → Prop}
    (hy : plainName y.cls = true) (ho : y.cls = own) (hlen : (lg_sl av).length ≤ maxL)
    (body : ∀ (p : Program) (e : Env) (s : State) (m : MethodId) (args : Array Value) (below : List Frame) (meth : Method) (c : Code), hB p l s m args meth c cc maxL own G → meth.sig.returnType = ret → meth.name = y.name → (∀ x ∈ c.exceptionTable.toList, False) →
      hW G f s.heap → va_S (hFr G) s.heap s.heap [] → ∀ ls : Array Slot, lv_has ls maxL (lv_args 0 av) → W p l e { frames := fr, cells := mc, slots := ms, locals := lo } s m args below meth c s.heap [] 0 0 (vx_MQ below (hQ G P) (hX G PX) args s mc ms (hFr G)) (F0 m 0 ls [])) :
    CT l y (.code y cc maxL ret) fr lo mc ms G av f P PX := by
  refine vx_ofW (cc := cc) (maxL := maxL) (ret := ret) hy rfl ?_
  intro p e s m args below meth c s₁ B hml hout hv
  obtain ⟨rfl, hk, hw⟩ := hv
  have hts := atoms_spec (ws := (Cond.code y cc maxL ret) :: gW) B.pre
  have hown : s.vm.findClass own = some m.cls := by rw [← ho]; exact findClass_of_methodNamed B.named
  have hl2 := lv_entry av (n := maxL) hlen
  rw [lg_entry_eq]
  exact body p e s m _ below meth c ⟨B.exec, B.bytes, hml, hown, fun w h => hts w (List.mem_cons_of_mem _ h), B.notSynchronized, hk, hl⟩ B.returns (name_of_methodNamed B.named B.method).1 hout hw va_S.rf _ hl2
/-- the start of a method with handlers -/
theorem hp_startH {l : Launch} (hl : l.stackTraces = false) {own : String} {y : MethodName} {cc : ByteArray} {maxL : Nat} {ret : Option FieldType} {hh : List (Nat × Nat × Nat × Nat)} {fr lo mc ms : Nat} {G : hG} {av : List Value} {f : hM} {P : Option Value → hM → Prop} {PX : String → hM → Prop}
    (hy : plainName y.cls = true) (ho : y.cls = own) (hlen : (lg_sl av).length ≤ maxL)
    (body : ∀ (p : Program) (e : Env) (s : State) (m : MethodId) (args : Array Value) (below : List Frame) (meth : Method) (c : Code), hB p l s m args meth c cc maxL own G → meth.sig.returnType = ret → c.exceptionTable.toList = tableOf hh →
      hW G f s.heap → va_S (hFr G) s.heap s.heap [] → ∀ ls : Array Slot, lv_has ls maxL (lv_args 0 av) → W p l e { frames := fr, cells := mc, slots := ms, locals := lo } s m args below meth c s.heap [] 0 0 (vx_MQ below (hQ G P) (hX G PX) args s mc ms (hFr G)) (F0 m 0 ls [])) :
    CT l y (.codeWith y cc maxL ret hh) fr lo mc ms G av f P PX := by
  refine vx_ofWH (cc := cc) (maxL := maxL) (ret := ret) (hh := hh) hy rfl ?_
  intro p e s m args below meth c s₁ B hml hv
  obtain ⟨rfl, hk, hw⟩ := hv
  have hts := atoms_spec (ws := (Cond.codeWith y cc maxL ret hh) :: gW) B.pre
  have hown : s.vm.findClass own = some m.cls := by rw [← ho]; exact findClass_of_methodNamed B.named
  have hl2 := lv_entry av (n := maxL) hlen
  rw [lg_entry_eq]
  exact body p e s m _ below meth c ⟨B.exec, B.bytes, hml, hown, fun w h => hts w (List.mem_cons_of_mem _ h), B.notSynchronized, hk, hl⟩ B.returns (vx_table (x := y) B (hts _ List.mem_cons_self)) hw va_S.rf _ hl2
section Rows9
variable {p : Program} {l : Launch} {e : Env} {R : Room} {s : State} {m : MethodId} {args : Array Value} {below : List Frame} {meth : Method} {c : Code} {H : Heap} {locs : List Loc} {cells slots : Nat} {Q : State → Prop}
variable {cc : ByteArray} {nL pc : Nat} {own : String} {G : hG} {f : hM} {ls : Array Slot} {rest : List Value} {a : Nat}
theorem hp_get (B0 : hB p l s m args meth c cc nL own G) (hw : hW G f H) (ci : Nat) {C : String} {T : u_T} {N : Nat} (hc : hC[ci]? = some (C, T, N)) (hin : ∀ w ∈ u_ws C T N, w ∈ gW) {fs : List Value} (ha : f a = some (.inr (ci, fs))) (k : Nat) (hk : k < N) {index : Nat} (hlink : Cond.fieldLink own index (T k).1 (T k).2.1 (T k).2.2.1 ∈ gW) {v : Value} (hv : fs[k]? = some v) (hdg : decode cc pc = .ok (.getfield index, 3))
    (kk : W p l e R s m args below meth c H locs cells slots Q (F0 m (pc + 3) ls (v :: rest))) : W p l e R s m args below meth c H locs cells slots Q (F0 m pc ls (.ref a :: rest)) := by
  obtain ⟨hx, hb, hml, hown, hts, hlk, hk0, hl⟩ := B0
  obtain ⟨L, g, hf, hP, hD⟩ := hw
  obtain ⟨hL, hg⟩ := hf a _ ha
  obtain ⟨i, hi⟩ := va_pl_get (X := []) (f := g) hL
  rw [hg] at hi
  exact va_get (D := G.1) (cl := hC) (tys := hTy G) hx hb hts hin hown hk0.1 hP i hi hc k hk (hts _ hlink) (fun _ h9 => h9) hv hdg kk
theorem hp_getN (B0 : hB p l s m args meth c cc nL own G) (hw : hW G f H) (ci : Nat) {C : String} {T : u_T} {N : Nat} (hc : hC[ci]? = some (C, T, N)) (hin : ∀ w ∈ u_ws C T N, w ∈ gW) {fs : List Value} (ha : f a = some (.inr (ci, fs))) (k : Nat) (hk : k < N) {index : Nat} {host : String} (hlink : Cond.fieldLinkNest own index (T k).1 (T k).2.1 (T k).2.2.1 host ∈ hOt) {v : Value} (hv : fs[k]? = some v) (hdg : decode cc pc = .ok (.getfield index, 3))
    (kk : W p l e R s m args below meth c H locs cells slots Q (F0 m (pc + 3) ls (v :: rest))) : W p l e R s m args below meth c H locs cells slots Q (F0 m pc ls (.ref a :: rest)) := by
  obtain ⟨hx, hb, hml, hown, hts, hlk, hk0, hl⟩ := B0
  obtain ⟨L, g, hf, hP, hD⟩ := hw
  obtain ⟨hL, hg⟩ := hf a _ ha
  obtain ⟨i, hi⟩ := va_pl_get (X := []) (f := g) hL
  rw [hg] at hi
  exact va_getN (D := G.1) (cl := hC) (tys := hTy G) hx hb hts hin hown hk0.1 hP i hi hc k hk (va_Nw.use rfl (hk0.2.2.2.1 _ hlink)) (fun _ h9 => h9) hv hdg kk
theorem hW.set {e0 e1 : va_E} {L : List Nat} {g : Nat → va_E} {H1 : Heap} {i : Nat} (hf : ∀ a e, f a = some e → a ∈ L ∧ g a = e) (hD : va_D (hFr G) ([] ++ va_pl L g)) (hL : a ∈ L) (hi : ([] ++ va_pl L g)[i]? = some (a, g a)) (hP1 : va_P G.1 hC (([] ++ va_pl L g).set i (a, e1)) H1) (hD1 : va_D (hFr G) (([] ++ va_pl L g).set i (a, e1))) : hW G (va_up f a (some e1)) H1 := by
  rw [va_pl_set hD hL hi] at hP1 hD1
  refine ⟨L, va_up g a e1, fun b x hb => ?_, hP1, hD1⟩
  by_cases hba : b = a
  · rw [hba, va_up_self] at hb
    cases hb
    rw [hba, va_up_self]
    exact ⟨hL, rfl⟩
  · rw [va_up_ne _ _ hba] at hb
    rw [va_up_ne _ _ hba]
    exact hf b x hb
theorem hp_put (B0 : hB p l s m args meth c cc nL own G) (hw : hW G f H) (hS : va_S (hFr G) s.heap H locs) (ci : Nat) {C : String} {T : u_T} {N : Nat} (hc : hC[ci]? = some (C, T, N)) (hin : ∀ w ∈ u_ws C T N, w ∈ gW) (ty0 : Nat → FieldType) (hty : ∀ k, k < N → parseFieldDescriptor (T k).2.2.1 = some (ty0 k)) (hnm : ∀ a, a < N → ∀ b, b < N → a ≠ b → (T a).2.1 ≠ (T b).2.1) {fs fs1 : List Value} (ha : f a = some (.inr (ci, fs))) (k : Nat) (hk : k < N) {index : Nat} (hlink : Cond.fieldLink own index (T k).1 (T k).2.1 (T k).2.2.1 ∈ gW) (hfin : (T k).2.2.2 = false) {ty : FieldType} {v : Value} (hd : parseFieldDescriptor (T k).2.2.1 = some ty) (hn : narrow ty v = v) (hfit : fits ty v = true) (hl : k < fs.length) (hfs : fs.set k v = fs1) (hdg : decode cc pc = .ok (.putfield index, 3))
    (kk : ∀ (H1 : Heap) (locs1 : List Loc) (f1 : hM), f1 = va_up f a (some (.inr (ci, fs1))) → hW G f1 H1 → va_S (hFr G) s.heap H1 locs1 → W p l e R s m args below meth c H1 locs1 cells slots Q (F0 m (pc + 3) ls rest)) : W p l e R s m args below meth c H locs cells slots Q (F0 m pc ls (v :: .ref a :: rest)) := by
  obtain ⟨hx, hb, hml, hown, hts, hlk, hk0, hl9⟩ := B0
  obtain ⟨L, g, hf, hP, hD⟩ := hw
  obtain ⟨hL, hg⟩ := hf a _ ha
  obtain ⟨i, hi0⟩ := va_pl_get (X := []) (f := g) hL
  have hi := hi0
  rw [hg] at hi
  subst hfs
  exact va_put (D := G.1) (cl := hC) (tys := hTy G) hx hb hts hin ty0 hty hnm hown hk0.1 hP hD hS i hi hc k hk (hts _ hlink) (fun _ h9 => h9) hfin hd hn hfit hl hdg (fun H1 locs1 hP1 hD1 hS1 => kk H1 locs1 _ rfl (hW.set (e0 := .inr (ci, fs)) hf hD hL hi0 hP1 hD1) hS1)
theorem hp_putF (B0 : hB p l s m args meth c cc nL own G) (hw : hW G f H) (hS : va_S (hFr G) s.heap H locs) (ci : Nat) {C : String} {T : u_T} {N : Nat} (hc : hC[ci]? = some (C, T, N)) (hin : ∀ w ∈ u_ws C T N, w ∈ gW) (ty0 : Nat → FieldType) (hty : ∀ k, k < N → parseFieldDescriptor (T k).2.2.1 = some (ty0 k)) (hnm : ∀ a, a < N → ∀ b, b < N → a ≠ b → (T a).2.1 ≠ (T b).2.1) {fs fs1 : List Value} (ha : f a = some (.inr (ci, fs))) (k : Nat) (hk : k < N) {index : Nat} (hlink : Cond.fieldLink own index (T k).1 (T k).2.1 (T k).2.2.1 ∈ gW) (hfin : (T k).2.2.2 = true) (hin2 : meth.name = "<init>") (hdecl : (T k).1 = own) {ty : FieldType} {v : Value} (hd : parseFieldDescriptor (T k).2.2.1 = some ty) (hn : narrow ty v = v) (hfit : fits ty v = true) (hl : k < fs.length) (hfs : fs.set k v = fs1) (hdg : decode cc pc = .ok (.putfield index, 3))
    (kk : ∀ (H1 : Heap) (locs1 : List Loc) (f1 : hM), f1 = va_up f a (some (.inr (ci, fs1))) → hW G f1 H1 → va_S (hFr G) s.heap H1 locs1 → W p l e R s m args below meth c H1 locs1 cells slots Q (F0 m (pc + 3) ls rest)) : W p l e R s m args below meth c H locs cells slots Q (F0 m pc ls (v :: .ref a :: rest)) := by
  obtain ⟨hx, hb, hml, hown, hts, hlk, hk0, hl9⟩ := B0
  obtain ⟨L, g, hf, hP, hD⟩ := hw
  obtain ⟨hL, hg⟩ := hf a _ ha
  obtain ⟨i, hi0⟩ := va_pl_get (X := []) (f := g) hL
  have hi := hi0
  rw [hg] at hi
  subst hfs
  exact va_putF (D := G.1) (cl := hC) (tys := hTy G) hx hb hts hin ty0 hty hnm hown hk0.1 hP hD hS i hi hc k hk (hts _ hlink) (fun _ h9 => h9) hfin hin2 hdecl hd hn hfit hl hdg (fun H1 locs1 hP1 hD1 hS1 => kk H1 locs1 _ rfl (hW.set (e0 := .inr (ci, fs)) hf hD hL hi0 hP1 hD1) hS1)
theorem hp_putN (B0 : hB p l s m args meth c cc nL own G) (hw : hW G f H) (hS : va_S (hFr G) s.heap H locs) (ci : Nat) {C : String} {T : u_T} {N : Nat} (hc : hC[ci]? = some (C, T, N)) (hin : ∀ w ∈ u_ws C T N, w ∈ gW) (ty0 : Nat → FieldType) (hty : ∀ k, k < N → parseFieldDescriptor (T k).2.2.1 = some (ty0 k)) (hnm : ∀ a, a < N → ∀ b, b < N → a ≠ b → (T a).2.1 ≠ (T b).2.1) {fs fs1 : List Value} (ha : f a = some (.inr (ci, fs))) (k : Nat) (hk : k < N) {index : Nat} {host : String} (hlink : Cond.fieldLinkNest own index (T k).1 (T k).2.1 (T k).2.2.1 host ∈ hOt) (hfin : (T k).2.2.2 = false) {ty : FieldType} {v : Value} (hd : parseFieldDescriptor (T k).2.2.1 = some ty) (hn : narrow ty v = v) (hfit : fits ty v = true) (hl : k < fs.length) (hfs : fs.set k v = fs1) (hdg : decode cc pc = .ok (.putfield index, 3))
    (kk : ∀ (H1 : Heap) (locs1 : List Loc) (f1 : hM), f1 = va_up f a (some (.inr (ci, fs1))) → hW G f1 H1 → va_S (hFr G) s.heap H1 locs1 → W p l e R s m args below meth c H1 locs1 cells slots Q (F0 m (pc + 3) ls rest)) : W p l e R s m args below meth c H locs cells slots Q (F0 m pc ls (v :: .ref a :: rest)) := by
  obtain ⟨hx, hb, hml, hown, hts, hlk, hk0, hl9⟩ := B0
  obtain ⟨L, g, hf, hP, hD⟩ := hw
  obtain ⟨hL, hg⟩ := hf a _ ha
  obtain ⟨i, hi0⟩ := va_pl_get (X := []) (f := g) hL
  have hi := hi0
  rw [hg] at hi
  subst hfs
  exact va_putN (D := G.1) (cl := hC) (tys := hTy G) hx hb hts hin ty0 hty hnm hown hk0.1 hP hD hS i hi hc k hk (va_Nw.use rfl (hk0.2.2.2.1 _ hlink)) (fun _ h9 => h9) hfin hd hn hfit hl hdg (fun H1 locs1 hP1 hD1 hS1 => kk H1 locs1 _ rfl (hW.set (e0 := .inr (ci, fs)) hf hD hL hi0 hP1 hD1) hS1)
theorem hp_iald (B0 : hB p l s m args meth c cc nL own G) (hw : hW G f H) {n : Nat} {x : Nat → Int32} (ha : f a = some (.inl (cI G, n, .inl x))) {i : Int32} (hin : vp_in i n) (hdg : decode cc pc = .ok (.iaload, 1))
    (kk : W p l e R s m args below meth c H locs cells slots Q (F0 m (pc + 1) ls (.int (x i.toNatClampNeg) :: rest))) : W p l e R s m args below meth c H locs cells slots Q (F0 m pc ls (.int i :: .ref a :: rest)) := by
  obtain ⟨hx, hb, hml, hown, hts, hlk, hk0, hl⟩ := B0
  obtain ⟨L, g, hf, hP, hD⟩ := hw
  obtain ⟨hL, hg⟩ := hf a _ ha
  obtain ⟨j, hj⟩ := va_pl_get (X := []) (f := g) hL
  rw [hg] at hj
  exact va_iald (D := G.1) (cl := hC) (tys := hTy G) hx hb hk0.1 hP j 0 hj rfl hin hdg kk
theorem hp_zald (B0 : hB p l s m args meth c cc nL own G) (hw : hW G f H) {n : Nat} {x : Nat → Int32} (ha : f a = some (.inl (cZ G, n, .inl x))) {i : Int32} (hin : vp_in i n) (hdg : decode cc pc = .ok (.baload, 1))
    (kk : W p l e R s m args below meth c H locs cells slots Q (F0 m (pc + 1) ls (.int (x i.toNatClampNeg) :: rest))) : W p l e R s m args below meth c H locs cells slots Q (F0 m pc ls (.int i :: .ref a :: rest)) := by
  obtain ⟨hx, hb, hml, hown, hts, hlk, hk0, hl⟩ := B0
  obtain ⟨L, g, hf, hP, hD⟩ := hw
  obtain ⟨hL, hg⟩ := hf a _ ha
  obtain ⟨j, hj⟩ := va_pl_get (X := []) (f := g) hL
  rw [hg] at hj
  exact va_zald (D := G.1) (cl := hC) (tys := hTy G) hx hb hk0.1 hP j 1 hj rfl hin hdg kk
theorem hp_lald (B0 : hB p l s m args meth c cc nL own G) (hw : hW G f H) {n : Nat} {x : Nat → Int64} (ha : f a = some (.inl (cJ G, n, .inr (.inl x)))) {i : Int32} (hin : vp_in i n) (hdg : decode cc pc = .ok (.laload, 1))
    (kk : W p l e R s m args below meth c H locs cells slots Q (F0 m (pc + 1) ls (.long (x i.toNatClampNeg) :: rest))) : W p l e R s m args below meth c H locs cells slots Q (F0 m pc ls (.int i :: .ref a :: rest)) := by
  obtain ⟨hx, hb, hml, hown, hts, hlk, hk0, hl⟩ := B0
  obtain ⟨L, g, hf, hP, hD⟩ := hw
  obtain ⟨hL, hg⟩ := hf a _ ha
  obtain ⟨j, hj⟩ := va_pl_get (X := []) (f := g) hL
  rw [hg] at hj
  exact va_lald (D := G.1) (cl := hC) (tys := hTy G) hx hb hk0.1 hP j 2 hj rfl hin hdg kk
theorem hp_iast (B0 : hB p l s m args meth c cc nL own G) (hw : hW G f H) (hS : va_S (hFr G) s.heap H locs) {n : Nat} {x : Nat → Int32} (ha : f a = some (.inl (cI G, n, .inl x))) {i v : Int32} (hin : vp_in i n) (hdg : decode cc pc = .ok (.iastore, 1))
    (kk : ∀ (H1 : Heap) (locs1 : List Loc) (f1 : hM), f1 = va_up f a (some (.inl (cI G, n, .inl (upd x i.toNatClampNeg v)))) → hW G f1 H1 → va_S (hFr G) s.heap H1 locs1 → W p l e R s m args below meth c H1 locs1 cells slots Q (F0 m (pc + 1) ls rest)) : W p l e R s m args below meth c H locs cells slots Q (F0 m pc ls (.int v :: .int i :: .ref a :: rest)) := by
  obtain ⟨hx, hb, hml, hown, hts, hlk, hk0, hl9⟩ := B0
  obtain ⟨L, g, hf, hP, hD⟩ := hw
  obtain ⟨hL, hg⟩ := hf a _ ha
  obtain ⟨j, hj0⟩ := va_pl_get (X := []) (f := g) hL
  have hj := hj0
  rw [hg] at hj
  exact va_iast (D := G.1) (cl := hC) (tys := hTy G) hx hb hk0.1 hP hD hS j 0 hj rfl hin hdg (fun H1 locs1 hP1 hD1 hS1 => kk H1 locs1 _ rfl (hW.set (e0 := .inl (cI G, n, .inl x)) hf hD hL hj0 hP1 hD1) hS1)
theorem hp_zast (B0 : hB p l s m args meth c cc nL own G) (hw : hW G f H) (hS : va_S (hFr G) s.heap H locs) {n : Nat} {x : Nat → Int32} (ha : f a = some (.inl (cZ G, n, .inl x))) {i v : Int32} (hin : vp_in i n) (hdg : decode cc pc = .ok (.bastore, 1))
    (kk : ∀ (H1 : Heap) (locs1 : List Loc) (f1 : hM), f1 = va_up f a (some (.inl (cZ G, n, .inl (upd x i.toNatClampNeg (vp_nar .boolean v))))) → hW G f1 H1 → va_S (hFr G) s.heap H1 locs1 → W p l e R s m args below meth c H1 locs1 cells slots Q (F0 m (pc + 1) ls rest)) : W p l e R s m args below meth c H locs cells slots Q (F0 m pc ls (.int v :: .int i :: .ref a :: rest)) := by
  obtain ⟨hx, hb, hml, hown, hts, hlk, hk0, hl9⟩ := B0
  obtain ⟨L, g, hf, hP, hD⟩ := hw
  obtain ⟨hL, hg⟩ := hf a _ ha
  obtain ⟨j, hj0⟩ := va_pl_get (X := []) (f := g) hL
  have hj := hj0
  rw [hg] at hj
  exact va_zast (D := G.1) (cl := hC) (tys := hTy G) hx hb hk0.1 hP hD hS j 1 hj rfl hin hdg (fun H1 locs1 hP1 hD1 hS1 => kk H1 locs1 _ rfl (hW.set (e0 := .inl (cZ G, n, .inl x)) hf hD hL hj0 hP1 hD1) hS1)
theorem hp_last (B0 : hB p l s m args meth c cc nL own G) (hw : hW G f H) (hS : va_S (hFr G) s.heap H locs) {n : Nat} {x : Nat → Int64} (ha : f a = some (.inl (cJ G, n, .inr (.inl x)))) {i : Int32} {v : Int64} (hin : vp_in i n) (hdg : decode cc pc = .ok (.lastore, 1))
    (kk : ∀ (H1 : Heap) (locs1 : List Loc) (f1 : hM), f1 = va_up f a (some (.inl (cJ G, n, .inr (.inl (vp_updL x i.toNatClampNeg v))))) → hW G f1 H1 → va_S (hFr G) s.heap H1 locs1 → W p l e R s m args below meth c H1 locs1 cells slots Q (F0 m (pc + 1) ls rest)) : W p l e R s m args below meth c H locs cells slots Q (F0 m pc ls (.long v :: .int i :: .ref a :: rest)) := by
  obtain ⟨hx, hb, hml, hown, hts, hlk, hk0, hl9⟩ := B0
  obtain ⟨L, g, hf, hP, hD⟩ := hw
  obtain ⟨hL, hg⟩ := hf a _ ha
  obtain ⟨j, hj0⟩ := va_pl_get (X := []) (f := g) hL
  have hj := hj0
  rw [hg] at hj
  exact va_last (D := G.1) (cl := hC) (tys := hTy G) hx hb hk0.1 hP hD hS j 2 hj rfl hin hdg (fun H1 locs1 hP1 hD1 hS1 => kk H1 locs1 _ rfl (hW.set (e0 := .inl (cJ G, n, .inr (.inl x))) hf hD hL hj0 hP1 hD1) hS1)
end Rows9
end HP
end
section
/-! Making cells, calls, ends, throws, handlers. -/
section HQ9
variable {p : Program} {l : Launch} {e : Env} {R : Room} {s : State} {m : MethodId} {args : Array Value} {below : List Frame} {meth : Method} {c : Code} {H : Heap} {locs : List Loc} {cells slots : Nat} {Q : State → Prop}
variable {cc : ByteArray} {nL pc : Nat} {own : String} {G : hG} {f : hM} {ls : Array Slot} {rest : List Value} {a : Nat}
theorem hB.le (B0 : hB p l s m args meth c cc nL own G) : ∀ q : Nat, s.heap.size ≤ q → hFr G q := fun _ h => Nat.le_trans B0.2.2.2.2.2.2.1.2.2.2.2.2.2 h
theorem hpush_nin {L : List Nat} {g : Nat → va_E} {q : Nat} {e1 : va_E} {A : Nat → Prop} (hD1 : va_D A (([] ++ va_pl L g) ++ [(q, e1)])) : q ∉ L := fun hq => by
  obtain ⟨k, hk⟩ := va_pl_get (X := []) (f := g) hq
  have hl := (List.getElem?_eq_some_iff.mp hk).1
  have h1 : (([] ++ va_pl L g) ++ [(q, e1)])[k]? = some (q, g q) := by rw [List.getElem?_append_left hl]; exact hk
  have h2 : (([] ++ va_pl L g) ++ [(q, e1)])[([] ++ va_pl L g).length]? = some (q, e1) := by rw [List.getElem?_append_right (Nat.le_refl _), Nat.sub_self]; rfl
  have := hD1.1 _ _ _ _ h1 h2 rfl
  omega
theorem hW.push {L : List Nat} {g : Nat → va_E} {q : Nat} {e1 : va_E} {H1 : Heap} (hf : ∀ a e, f a = some e → a ∈ L ∧ g a = e) (hP1 : va_P G.1 hC (([] ++ va_pl L g) ++ [(q, e1)]) H1) (hD1 : va_D (hFr G) (([] ++ va_pl L g) ++ [(q, e1)])) : f q = none ∧ hW G (va_up f q (some e1)) H1 := by
  have hq : q ∉ L := hpush_nin hD1
  have e9 : (([] ++ va_pl L g) ++ [(q, e1)]) = va_pl (L ++ [q]) (va_up g q e1) := by rw [List.nil_append]; exact va_pl_push hq
  have h0 : f q = none := by
    cases h : f q with
    | none => rfl
    | some x => exact absurd (hf q x h).1 hq
  rw [e9] at hP1 hD1
  refine ⟨h0, L ++ [q], va_up g q e1, fun b x hb => ?_, hP1, hD1⟩
  by_cases hba : b = q
  · rw [hba, va_up_self] at hb
    cases hb
    rw [hba, va_up_self]
    exact ⟨List.mem_append_right _ List.mem_cons_self, rfl⟩
  · rw [va_up_ne _ _ hba] at hb
    rw [va_up_ne _ _ hba]
    obtain ⟨h1, h2⟩ := hf b x hb
    exact ⟨List.mem_append_left _ h1, h2⟩
theorem hp_new (B0 : hB p l s m args meth c cc nL own G) (hw : hW G f H) (hS : va_S (hFr G) s.heap H locs) (ci : Nat) {C : String} {T : u_T} {N : Nat} (hc : hC[ci]? = some (C, T, N)) (hin : ∀ w ∈ u_ws C T N, w ∈ gW) (ty0 : Nat → FieldType) (hty : ∀ k, k < N → parseFieldDescriptor (T k).2.2.1 = some (ty0 k)) {index : Nat} (hcl : Cond.classLink own index C ∈ gW) (hinst : Cond.instantiable C N ∈ gW) (hini : Cond.initialized C ∈ gW) {fs : List Value} (hfs : ∀ j, j < N → defaultValue (ty0 j) = vp_V fs j) (hcells : cells + 1 ≤ R.cells) (hslots : slots + N ≤ R.slots) (hdg : decode cc pc = .ok (.new index, 3))
    (kk : ∀ (q : Nat) (H1 : Heap) (f1 : hM), f q = none → f1 = va_up f q (some (.inr (ci, fs))) → hW G f1 H1 → va_S (hFr G) s.heap H1 locs → W p l e R s m args below meth c H1 locs (cells + 1) (slots + N) Q (F0 m (pc + 3) ls (.ref q :: rest))) : W p l e R s m args below meth c H locs cells slots Q (F0 m pc ls rest) := by
  have hA := B0.le
  obtain ⟨hx, hb, hml, hown, hts, hlk, hk0, hl9⟩ := B0
  obtain ⟨L, g, hf, hP, hD⟩ := hw
  exact va_new (D := G.1) (cl := hC) (tys := hTy G) (ws := [] ++ va_pl L g) hx hb hts hin ty0 hty hown (hts _ hcl) (hts _ hinst) (hts _ hini) hk0.1 hP hD hS hA hc hfs hcells hslots hdg (fun q H1 hP1 hD1 hS1 => by
    obtain ⟨h0, hw1⟩ := hW.push hf hP1 hD1
    exact kk q H1 _ h0 rfl hw1 hS1)
theorem hcls_of {U : State} {cA cB : ClassId} {ty : FieldType} (h1 : va_RA U cA ty) (h2 : va_RA U cB ty) (hp : ∀ C, ty ≠ .object C) : cA = cB := by
  cases ty <;> first | (exact absurd rfl (hp _)) | (exact Option.some.inj (Eq.trans (Eq.symm h1) h2))
theorem hp_newaI (B0 : hB p l s m args meth c cc nL own G) (hw : hW G f H) (hS : va_S (hFr G) s.heap H locs) (harr : Cond.arrayClass .int ∈ gW) {n : Int32} {N' : Nat} (hn : ¬ n < 0) (hN : n.toNatClampNeg = N') (hbytes : N' * componentBytes .int ≤ 536870912) (hcells : cells + 1 ≤ R.cells) (hslots : slots + N' ≤ R.slots) (hdg : decode cc pc = .ok (.newarray .int, 2))
    (kk : ∀ (q : Nat) (H1 : Heap) (f1 : hM), f q = none → f1 = va_up f q (some (.inl (cI G, N', .inl (fun _ => 0)))) → hW G f1 H1 → va_S (hFr G) s.heap H1 locs → W p l e R s m args below meth c H1 locs (cells + 1) (slots + N') Q (F0 m (pc + 2) ls (.ref q :: rest))) : W p l e R s m args below meth c H locs cells slots Q (F0 m pc ls (.int n :: rest)) := by
  have hA := B0.le
  obtain ⟨hx, hb, hml, hown, hts, hlk, hk0, hl9⟩ := B0
  obtain ⟨L, g, hf, hP, hD⟩ := hw
  refine va_newa (atype := .int) (ty := .int) (D := G.1) (cl := hC) (tys := hTy G) (ws := [] ++ va_pl L g) (a0 := (N', .inl (fun _ => 0))) hx hb (hts _ harr) rfl hk0.1 hP hD hS hA (fun cA => rfl) hn hN hbytes hcells hslots hdg (fun q cA H1 hK1 hP1 hD1 hS1 => ?_)
  have hcc : cA = cI G := hcls_of (hK1.2 3 (cA, .int) rfl).2 (hk0.1.2 0 (cI G, .int) rfl).2 (fun C h => by cases h)
  rw [hcc] at hP1 hD1
  obtain ⟨h0, hw1⟩ := hW.push hf hP1 hD1
  exact kk q H1 _ h0 rfl hw1 hS1
theorem hp_newaZ (B0 : hB p l s m args meth c cc nL own G) (hw : hW G f H) (hS : va_S (hFr G) s.heap H locs) (harr : Cond.arrayClass .boolean ∈ gW) {n : Int32} {N' : Nat} (hn : ¬ n < 0) (hN : n.toNatClampNeg = N') (hbytes : N' * componentBytes .boolean ≤ 536870912) (hcells : cells + 1 ≤ R.cells) (hslots : slots + N' ≤ R.slots) (hdg : decode cc pc = .ok (.newarray .boolean, 2))
    (kk : ∀ (q : Nat) (H1 : Heap) (f1 : hM), f q = none → f1 = va_up f q (some (.inl (cZ G, N', .inl (fun _ => 0)))) → hW G f1 H1 → va_S (hFr G) s.heap H1 locs → W p l e R s m args below meth c H1 locs (cells + 1) (slots + N') Q (F0 m (pc + 2) ls (.ref q :: rest))) : W p l e R s m args below meth c H locs cells slots Q (F0 m pc ls (.int n :: rest)) := by
  have hA := B0.le
  obtain ⟨hx, hb, hml, hown, hts, hlk, hk0, hl9⟩ := B0
  obtain ⟨L, g, hf, hP, hD⟩ := hw
  refine va_newa (atype := .boolean) (ty := .boolean) (D := G.1) (cl := hC) (tys := hTy G) (ws := [] ++ va_pl L g) (a0 := (N', .inl (fun _ => 0))) hx hb (hts _ harr) rfl hk0.1 hP hD hS hA (fun cA => rfl) hn hN hbytes hcells hslots hdg (fun q cA H1 hK1 hP1 hD1 hS1 => ?_)
  have hcc : cA = cZ G := hcls_of (hK1.2 3 (cA, .boolean) rfl).2 (hk0.1.2 1 (cZ G, .boolean) rfl).2 (fun C h => by cases h)
  rw [hcc] at hP1 hD1
  obtain ⟨h0, hw1⟩ := hW.push hf hP1 hD1
  exact kk q H1 _ h0 rfl hw1 hS1
theorem hp_newaJ (B0 : hB p l s m args meth c cc nL own G) (hw : hW G f H) (hS : va_S (hFr G) s.heap H locs) (harr : Cond.arrayClass .long ∈ gW) {n : Int32} {N' : Nat} (hn : ¬ n < 0) (hN : n.toNatClampNeg = N') (hbytes : N' * componentBytes .long ≤ 536870912) (hcells : cells + 1 ≤ R.cells) (hslots : slots + N' ≤ R.slots) (hdg : decode cc pc = .ok (.newarray .long, 2))
    (kk : ∀ (q : Nat) (H1 : Heap) (f1 : hM), f q = none → f1 = va_up f q (some (.inl (cJ G, N', .inr (.inl (fun _ => 0))))) → hW G f1 H1 → va_S (hFr G) s.heap H1 locs → W p l e R s m args below meth c H1 locs (cells + 1) (slots + N') Q (F0 m (pc + 2) ls (.ref q :: rest))) : W p l e R s m args below meth c H locs cells slots Q (F0 m pc ls (.int n :: rest)) := by
  have hA := B0.le
  obtain ⟨hx, hb, hml, hown, hts, hlk, hk0, hl9⟩ := B0
  obtain ⟨L, g, hf, hP, hD⟩ := hw
  refine va_newa (atype := .long) (ty := .long) (D := G.1) (cl := hC) (tys := hTy G) (ws := [] ++ va_pl L g) (a0 := (N', .inr (.inl (fun _ => 0)))) hx hb (hts _ harr) rfl hk0.1 hP hD hS hA (fun cA => rfl) hn hN hbytes hcells hslots hdg (fun q cA H1 hK1 hP1 hD1 hS1 => ?_)
  have hcc : cA = cJ G := hcls_of (hK1.2 3 (cA, .long) rfl).2 (hk0.1.2 2 (cJ G, .long) rfl).2 (fun C h => by cases h)
  rw [hcc] at hP1 hD1
  obtain ⟨h0, hw1⟩ := hW.push hf hP1 hD1
  exact kk q H1 _ h0 rfl hw1 hS1
theorem hp_alenI (B0 : hB p l s m args meth c cc nL own G) (hw : hW G f H) {n : Nat} {x : Nat → Int32} (ha : f a = some (.inl (cI G, n, .inl x))) {v : Int32} (hv : Int32.ofNat n = v) (hdg : decode cc pc = .ok (.arraylength, 1))
    (kk : W p l e R s m args below meth c H locs cells slots Q (F0 m (pc + 1) ls (.int v :: rest))) : W p l e R s m args below meth c H locs cells slots Q (F0 m pc ls (.ref a :: rest)) := by
  obtain ⟨hx, hb, hml, hown, hts, hlk, hk0, hl⟩ := B0
  obtain ⟨L, g, hf, hP, hD⟩ := hw
  obtain ⟨hL, hg⟩ := hf a _ ha
  obtain ⟨j, hj⟩ := va_pl_get (X := []) (f := g) hL
  rw [hg] at hj
  exact va_alen (D := G.1) (cl := hC) (tys := hTy G) hx hb hk0.1 hP j 0 hj (ty := .int) rfl hv hdg kk
theorem hp_alenZ (B0 : hB p l s m args meth c cc nL own G) (hw : hW G f H) {n : Nat} {x : Nat → Int32} (ha : f a = some (.inl (cZ G, n, .inl x))) {v : Int32} (hv : Int32.ofNat n = v) (hdg : decode cc pc = .ok (.arraylength, 1))
    (kk : W p l e R s m args below meth c H locs cells slots Q (F0 m (pc + 1) ls (.int v :: rest))) : W p l e R s m args below meth c H locs cells slots Q (F0 m pc ls (.ref a :: rest)) := by
  obtain ⟨hx, hb, hml, hown, hts, hlk, hk0, hl⟩ := B0
  obtain ⟨L, g, hf, hP, hD⟩ := hw
  obtain ⟨hL, hg⟩ := hf a _ ha
  obtain ⟨j, hj⟩ := va_pl_get (X := []) (f := g) hL
  rw [hg] at hj
  exact va_alen (D := G.1) (cl := hC) (tys := hTy G) hx hb hk0.1 hP j 1 hj (ty := .boolean) rfl hv hdg kk
/-! calls -/
theorem hp_go {mc ms : Nat} {st0 : List Value} {av : Array Value} {P : Option Value → hM → Prop} {PX : String → hM → Prop} (B0 : hB p l s m args meth c cc nL own G) (hS : va_S (hFr G) s.heap H locs)
    (hr : vx_Run p l e R s m args below meth c H locs cells slots mc ms (F0 m pc ls st0) rest (hQ G P av) (hX G PX) (hFr G))
    (kx : ∀ (E : String) (ce : Cell) (q9 : Addr) (f1 : hM) (H1 : Heap) (locs1 : List Loc), PX E f1 → hW G f1 H1 → va_S (hFr G) s.heap H1 locs1 → H1[q9]? = some ce → ce.vm = .none → s.vm.findClass E = some ce.cls → vx_W p l e R s m args below meth c H1 locs1 (cells + mc) (slots + ms) Q (F0 m pc ls rest) q9)
    (kk : ∀ (v : Option Value) (f1 : hM) (H1 : Heap) (locs1 : List Loc), P v f1 → hW G f1 H1 → va_S (hFr G) s.heap H1 locs1 → W p l e R s m args below meth c H1 locs1 (cells + mc) (slots + ms) Q (F0 m (pc + 3) ls (v.toList ++ rest))) : W p l e R s m args below meth c H locs cells slots Q (F0 m pc ls st0) := by
  intro T hT X
  rcases hr T hT X with ⟨v, st₀, t, T', L, h0, X', hL, e1, e2, ⟨⟨v2, f1, hv, hp, hw1⟩, hF⟩, st⟩ | ⟨q, st₀, t, T', L, E, ce, h0, X', hL, e1, e2, ⟨⟨f1, hp, hw1⟩, hF⟩, hce, hcv, hcl, st⟩
  · cases hv
    obtain ⟨k1, k2, k3⟩ := vx_keep h0 e1 hS (fun _ _ h => h) (fun _ h => h) hL hF
    obtain ⟨t2, a1, b1⟩ := kk v f1 T'.heap (locs ++ L) hp (by rw [e1]; exact hw1) k3 T' rfl X'
    exact ⟨t2, st t2 a1, b1⟩
  · obtain ⟨k1, k2, k3⟩ := vx_keep h0 e1 hS (fun _ _ h => h) (fun _ h => h) hL hF
    obtain ⟨t2, a1, b1⟩ := kx E ce q f1 T'.heap (locs ++ L) hp (by rw [e1]; exact hw1) k3 (by rw [e1]; exact hce) hcv hcl T' rfl X'
    exact ⟨t2, st.trans a1, b1⟩
theorem hPc_of {av : List Value} (B0 : hB p l s m args meth c cc nL own G) (hw : hW G f H) (hS : va_S (hFr G) s.heap H locs) : ∀ U : State, U.heap = H → s.WarmedH U.vm → hPre G av f av.toArray U := fun U hU hW9 =>
  ⟨rfl, hK.warm B0.2.2.2.2.2.2.1 hW9 (by rw [hU]; exact hS.1) (fun q h1 h2 => by rw [hU]; exact hS.2.1 q h1 h2), by rw [hU]; exact hw⟩
theorem hcell_of {ci : Nat} {C : String} {T : u_T} {N : Nat} {fs : List Value} {b : Nat} (B0 : hB p l s m args meth c cc nL own G) (hw : hW G f H) (hc : hC[ci]? = some (C, T, N)) (hb : f b = some (.inr (ci, fs))) : ∃ cellB : Cell, H[b]? = some cellB ∧ cellB.vm.isStatics = false ∧ s.vm.findClass C = some cellB.cls := by
  obtain ⟨L, g, hf, hP, hD⟩ := hw
  obtain ⟨hL, hg⟩ := hf b _ hb
  obtain ⟨j, hj⟩ := va_pl_get (X := []) (f := g) hL
  rw [hg] at hj
  exact va_recv (q := (C, T, N)) B0.2.2.2.2.2.2.1.1 hP hc hj
/-- an instance method: its words, once for all calls -/
def hMV (y : MethodName) (bytes : ByteArray) (maxL : Nat) (ret : Option FieldType) (n : Nat) : Prop :=
  Cond.code y bytes maxL ret ∈ gW ∧ Cond.instanceMethod y ∈ gW ∧ Cond.selects y.cls y y ∈ gW ∧ Cond.initialized y.cls ∈ gW ∧ (y.cls ≠ "java/lang/invoke/MethodHandle" ∧ y.cls ≠ "java/lang/invoke/VarHandle") ∧ (parseMethodDescriptor y.desc).map (fun d => d.parameters.length) = some n
def hMS (y : MethodName) (bytes : ByteArray) (maxL : Nat) (ret : Option FieldType) (n : Nat) : Prop :=
  Cond.code y bytes maxL ret ∈ gW ∧ Cond.static y ∈ gW ∧ Cond.initialized y.cls ∈ gW ∧ (y.cls ≠ "java/lang/invoke/MethodHandle" ∧ y.cls ≠ "java/lang/invoke/VarHandle") ∧ (parseMethodDescriptor y.desc).map (fun d => d.parameters.length) = some n
def hMI (y : MethodName) (bytes : ByteArray) (maxL : Nat) (n : Nat) : Prop :=
  Cond.code y bytes maxL none ∈ gW ∧ Cond.instanceMethod y ∈ gW ∧ Cond.initialized y.cls ∈ gW ∧ y.name = "<init>" ∧ (y.cls ≠ "java/lang/invoke/MethodHandle" ∧ y.cls ≠ "java/lang/invoke/VarHandle") ∧ (parseMethodDescriptor y.desc).map (fun d => d.parameters.length) = some n
theorem hlen_of {y : MethodName} {n : Nat} (h2 : (parseMethodDescriptor y.desc).map (fun d => d.parameters.length) = some n) : ∀ sig, parseMethodDescriptor y.desc = some sig → n = sig.parameters.length := fun sig h => by
  rw [h] at h2
  exact (Option.some.inj h2).symm
theorem hp_V {y : MethodName} {bytes : ByteArray} {maxL n index : Nat} {ret : Option FieldType} {fr lo mc ms ci : Nat} {T : u_T} {N : Nat} {fs As st0 : List Value} {b : Nat} {P : Option Value → hM → Prop} {PX : String → hM → Prop} (B0 : hB p l s m args meth c cc nL own G) (hw : hW G f H) (hS : va_S (hFr G) s.heap H locs)
    (hM9 : CT l y (.code y bytes maxL ret) fr lo mc ms G (.ref b :: As) f P PX) (hm : hMV y bytes maxL ret n) (hlm : Cond.methodLink own index y ∈ gW) (hc : hC[ci]? = some (y.cls, T, N)) (hb : f b = some (.inr (ci, fs))) (hst : st0 = As.reverse ++ .ref b :: rest) (hn : As.length = n) (hsz : ls.size = nL) (hroom : (rest.map fun v => v.category).sum ≤ 8)
    (hR : (fr + 1 ≤ R.frames ∧ 8 + (maxL + 11) + lo ≤ R.locals) ∧ cells + mc ≤ R.cells ∧ slots + ms ≤ R.slots) (hdg : decode cc pc = .ok (.invokevirtual index, 3))
    (kx : ∀ (E : String) (ce : Cell) (q9 : Addr) (f1 : hM) (H1 : Heap) (locs1 : List Loc), PX E f1 → hW G f1 H1 → va_S (hFr G) s.heap H1 locs1 → H1[q9]? = some ce → ce.vm = .none → s.vm.findClass E = some ce.cls → vx_W p l e R s m args below meth c H1 locs1 (cells + mc) (slots + ms) Q (F0 m pc ls rest) q9)
    (kk : ∀ (v : Option Value) (f1 : hM) (H1 : Heap) (locs1 : List Loc), P v f1 → hW G f1 H1 → va_S (hFr G) s.heap H1 locs1 → W p l e R s m args below meth c H1 locs1 (cells + mc) (slots + ms) Q (F0 m (pc + 3) ls (v.toList ++ rest))) : W p l e R s m args below meth c H locs cells slots Q (F0 m pc ls st0) := by
  have B1 := B0
  obtain ⟨hx, hb9, hml, hown, hts, hlk, hk0, hl⟩ := B0
  obtain ⟨m1, m2, m3, m4, m5, m6⟩ := hm
  exact hp_go B1 hS (vx_runV (C := y.cls) (ws := Cond.code y bytes maxL ret :: gW) (rm := { frames := fr, cells := mc, slots := ms, locals := lo }) (Ts := gW) (bytes := bytes) (maxL := maxL) (ret := ret) (n := n) (As := As) (rest := rest) ⟨hx, hb9, hml, hown, hts⟩ hM9
    ⟨⟨rfl, rfl, hR.1.1, hR.1.2, gW_pay hts m1, List.mem_cons_self, hts _ m1, hts _ m4, m5, hlen_of m6, hts _ hlm⟩, hts _ m2, hts _ m3⟩
    ⟨hPre.blind, hcell_of B1 hw hc hb, hPc_of B1 hw hS⟩ rfl hn hsz hst (lv_room hroom) hdg hR.2) kx kk
theorem hp_S {y : MethodName} {bytes : ByteArray} {maxL n index : Nat} {ret : Option FieldType} {fr lo mc ms : Nat} {As st0 : List Value} {P : Option Value → hM → Prop} {PX : String → hM → Prop} (B0 : hB p l s m args meth c cc nL own G) (hw : hW G f H) (hS : va_S (hFr G) s.heap H locs)
    (hM9 : CT l y (.code y bytes maxL ret) fr lo mc ms G As f P PX) (hm : hMS y bytes maxL ret n) (hlm : Cond.methodLink own index y ∈ gW) (hst : st0 = As.reverse ++ rest) (hn : As.length = n) (hsz : ls.size = nL) (hroom : (rest.map fun v => v.category).sum ≤ 8)
    (hR : (fr + 1 ≤ R.frames ∧ 8 + (maxL + 11) + lo ≤ R.locals) ∧ cells + mc ≤ R.cells ∧ slots + ms ≤ R.slots) (hdg : decode cc pc = .ok (.invokestatic index, 3))
    (kx : ∀ (E : String) (ce : Cell) (q9 : Addr) (f1 : hM) (H1 : Heap) (locs1 : List Loc), PX E f1 → hW G f1 H1 → va_S (hFr G) s.heap H1 locs1 → H1[q9]? = some ce → ce.vm = .none → s.vm.findClass E = some ce.cls → vx_W p l e R s m args below meth c H1 locs1 (cells + mc) (slots + ms) Q (F0 m pc ls rest) q9)
    (kk : ∀ (v : Option Value) (f1 : hM) (H1 : Heap) (locs1 : List Loc), P v f1 → hW G f1 H1 → va_S (hFr G) s.heap H1 locs1 → W p l e R s m args below meth c H1 locs1 (cells + mc) (slots + ms) Q (F0 m (pc + 3) ls (v.toList ++ rest))) : W p l e R s m args below meth c H locs cells slots Q (F0 m pc ls st0) := by
  have B1 := B0
  obtain ⟨hx, hb9, hml, hown, hts, hlk, hk0, hl⟩ := B0
  obtain ⟨m1, m2, m4, m5, m6⟩ := hm
  exact hp_go B1 hS (vx_runS (ws := Cond.code y bytes maxL ret :: gW) (rm := { frames := fr, cells := mc, slots := ms, locals := lo }) (Ts := gW) (bytes := bytes) (maxL := maxL) (ret := ret) (n := n) (As := As) (rest := rest) ⟨hx, hb9, hml, hown, hts⟩ hM9
    ⟨⟨rfl, rfl, hR.1.1, hR.1.2, gW_pay hts m1, List.mem_cons_self, hts _ m1, hts _ m4, m5, hlen_of m6, hts _ hlm⟩, hts _ m2⟩
    ⟨hPre.blind, hPc_of B1 hw hS⟩ rfl hn hsz hst (lv_room hroom) hdg hR.2) kx kk
theorem hp_I {y : MethodName} {bytes : ByteArray} {maxL n index : Nat} {fr lo mc ms : Nat} {As st0 : List Value} {b : Nat} {P : Option Value → hM → Prop} {PX : String → hM → Prop} (B0 : hB p l s m args meth c cc nL own G) (hw : hW G f H) (hS : va_S (hFr G) s.heap H locs)
    (hM9 : CT l y (.code y bytes maxL none) fr lo mc ms G (.ref b :: As) f P PX) (hm : hMI y bytes maxL n) (hlm : Cond.methodLink own index y ∈ gW) (hst : st0 = As.reverse ++ .ref b :: rest) (hn : As.length = n) (hsz : ls.size = nL) (hroom : (rest.map fun v => v.category).sum ≤ 8)
    (hR : (fr + 1 ≤ R.frames ∧ 8 + (maxL + 11) + lo ≤ R.locals) ∧ cells + mc ≤ R.cells ∧ slots + ms ≤ R.slots) (hdg : decode cc pc = .ok (.invokespecial index, 3))
    (kx : ∀ (E : String) (ce : Cell) (q9 : Addr) (f1 : hM) (H1 : Heap) (locs1 : List Loc), PX E f1 → hW G f1 H1 → va_S (hFr G) s.heap H1 locs1 → H1[q9]? = some ce → ce.vm = .none → s.vm.findClass E = some ce.cls → vx_W p l e R s m args below meth c H1 locs1 (cells + mc) (slots + ms) Q (F0 m pc ls rest) q9)
    (kk : ∀ (v : Option Value) (f1 : hM) (H1 : Heap) (locs1 : List Loc), P v f1 → hW G f1 H1 → va_S (hFr G) s.heap H1 locs1 → W p l e R s m args below meth c H1 locs1 (cells + mc) (slots + ms) Q (F0 m (pc + 3) ls (v.toList ++ rest))) : W p l e R s m args below meth c H locs cells slots Q (F0 m pc ls st0) := by
  have B1 := B0
  obtain ⟨hx, hb9, hml, hown, hts, hlk, hk0, hl⟩ := B0
  obtain ⟨m1, m2, m4, m7, m5, m6⟩ := hm
  exact hp_go B1 hS (vx_runI (ws := Cond.code y bytes maxL none :: gW) (rm := { frames := fr, cells := mc, slots := ms, locals := lo }) (Ts := gW) (bytes := bytes) (maxL := maxL) (n := n) (As := As) (rest := rest) ⟨hx, hb9, hml, hown, hts⟩ hM9
    ⟨⟨rfl, rfl, hR.1.1, hR.1.2, gW_pay hts m1, List.mem_cons_self, hts _ m1, hts _ m4, m5, hlen_of m6, hts _ hlm⟩, m7, hts _ m2⟩
    ⟨hPre.blind, hPc_of B1 hw hS⟩ rfl hn hsz hst (lv_room hroom) hdg hR.2) kx kk
theorem hp_IN {host : String} {y : MethodName} {bytes : ByteArray} {maxL n index : Nat} {fr lo mc ms : Nat} {As st0 : List Value} {b : Nat} {P : Option Value → hM → Prop} {PX : String → hM → Prop} (B0 : hB p l s m args meth c cc nL own G) (hw : hW G f H) (hS : va_S (hFr G) s.heap H locs)
    (hM9 : CT l y (.code y bytes maxL none) fr lo mc ms G (.ref b :: As) f P PX) (hm : hMI y bytes maxL n) (hlm : Cond.methodLinkNest own index y host ∈ hOt) (hst : st0 = As.reverse ++ .ref b :: rest) (hn : As.length = n) (hsz : ls.size = nL) (hroom : (rest.map fun v => v.category).sum ≤ 8)
    (hR : (fr + 1 ≤ R.frames ∧ 8 + (maxL + 11) + lo ≤ R.locals) ∧ cells + mc ≤ R.cells ∧ slots + ms ≤ R.slots) (hdg : decode cc pc = .ok (.invokespecial index, 3))
    (kx : ∀ (E : String) (ce : Cell) (q9 : Addr) (f1 : hM) (H1 : Heap) (locs1 : List Loc), PX E f1 → hW G f1 H1 → va_S (hFr G) s.heap H1 locs1 → H1[q9]? = some ce → ce.vm = .none → s.vm.findClass E = some ce.cls → vx_W p l e R s m args below meth c H1 locs1 (cells + mc) (slots + ms) Q (F0 m pc ls rest) q9)
    (kk : ∀ (v : Option Value) (f1 : hM) (H1 : Heap) (locs1 : List Loc), P v f1 → hW G f1 H1 → va_S (hFr G) s.heap H1 locs1 → W p l e R s m args below meth c H1 locs1 (cells + mc) (slots + ms) Q (F0 m (pc + 3) ls (v.toList ++ rest))) : W p l e R s m args below meth c H locs cells slots Q (F0 m pc ls st0) := by
  have B1 := B0
  obtain ⟨hx, hb9, hml, hown, hts, hlk, hk0, hl⟩ := B0
  obtain ⟨m1, m2, m4, m7, m5, m6⟩ := hm
  exact hp_go B1 hS (vx_runIN (host := host) (ws := Cond.code y bytes maxL none :: gW) (rm := { frames := fr, cells := mc, slots := ms, locals := lo }) (Ts := gW) (bytes := bytes) (maxL := maxL) (n := n) (As := As) (rest := rest) ⟨hx, hb9, hml, hown, hts⟩ hM9
    ⟨⟨⟨rfl, rfl, hR.1.1, hR.1.2, gW_pay hts m1, List.mem_cons_self⟩, hts _ m1, hts _ m4, m5, hlen_of m6, va_Nw.use rfl (hk0.2.2.2.1 _ hlm)⟩, m7, hts _ m2⟩
    ⟨hPre.blind, hPc_of B1 hw hS⟩ rfl hn hsz hst (lv_room hroom) hdg hR.2) kx kk
/-! ends -/
variable {P : Option Value → hM → Prop} {PX : String → hM → Prop} {mc ms : Nat}
theorem hp_iret {v : Int32} (B0 : hB p l s m args meth c cc nL own G) (hw : hW G f H) (hS : va_S (hFr G) s.heap H locs) (hr : meth.sig.returnType = some .int) (hcs : cells ≤ mc ∧ slots ≤ ms) (hdg : decode cc pc = .ok (.ireturn, 1)) (hP : P (some (.int v)) f) : W p l e R s m args below meth c H locs cells slots (vx_MQ below (hQ G P) (hX G PX) args s mc ms (hFr G)) (F0 m pc ls [.int v]) := by
  obtain ⟨hx, hb, hml, hown, hts, hlk, hk0, hl⟩ := B0
  exact W.widen hcs.1 hcs.2 (vx_ret (W.iret (v := v) hx hb hr (fun t ht _ => ⟨⟨_, f, rfl, hP, by rw [ht]; exact hw⟩, hS.F ht⟩) hS.2.2 hdg hlk))
theorem hp_zret {v : Int32} (B0 : hB p l s m args meth c cc nL own G) (hw : hW G f H) (hS : va_S (hFr G) s.heap H locs) (hr : meth.sig.returnType = some .boolean) (hcs : cells ≤ mc ∧ slots ≤ ms) (hn : narrow .boolean (.int v) = .int v) (hdg : decode cc pc = .ok (.ireturn, 1)) (hP : P (some (.int v)) f) : W p l e R s m args below meth c H locs cells slots (vx_MQ below (hQ G P) (hX G PX) args s mc ms (hFr G)) (F0 m pc ls [.int v]) := by
  obtain ⟨hx, hb, hml, hown, hts, hlk, hk0, hl⟩ := B0
  exact W.widen hcs.1 hcs.2 (vx_ret (W.zret (v := v) (ty := .boolean) hx hb hr hn (fun t ht _ => ⟨⟨_, f, rfl, hP, by rw [ht]; exact hw⟩, hS.F ht⟩) hS.2.2 hdg hlk))
theorem hp_vret (B0 : hB p l s m args meth c cc nL own G) (hw : hW G f H) (hS : va_S (hFr G) s.heap H locs) (hr : meth.sig.returnType = none) (hcs : cells ≤ mc ∧ slots ≤ ms) (hdg : decode cc pc = .ok (.return_, 1)) (hP : P none f) : W p l e R s m args below meth c H locs cells slots (vx_MQ below (hQ G P) (hX G PX) args s mc ms (hFr G)) (F0 m pc ls []) := by
  obtain ⟨hx, hb, hml, hown, hts, hlk, hk0, hl⟩ := B0
  exact W.widen hcs.1 hcs.2 (vx_ret (W.vret hx hb hr (fun t ht _ => ⟨⟨_, f, rfl, hP, by rw [ht]; exact hw⟩, hS.F ht⟩) hS.2.2 hdg hlk))
theorem hp_aret {v : Value} {rt : FieldType} (B0 : hB p l s m args meth c cc nL own G) (hw : hW G f H) (hS : va_S (hFr G) s.heap H locs) (hr : meth.sig.returnType = some rt) (hrt : (∃ n, rt = .object n) ∨ ∃ t, rt = .array t) (hv : v = .null ∨ ∃ a, v = .ref a) (hcs : cells ≤ mc ∧ slots ≤ ms) (hdg : decode cc pc = .ok (.areturn, 1)) (hP : P (some v) f) : W p l e R s m args below meth c H locs cells slots (vx_MQ below (hQ G P) (hX G PX) args s mc ms (hFr G)) (F0 m pc ls [v]) := by
  obtain ⟨hx, hb, hml, hown, hts, hlk, hk0, hl⟩ := B0
  exact W.widen hcs.1 hcs.2 (vx_ret (W.aret (v := v) hx hb hr hrt hv (fun t ht _ => ⟨⟨_, f, rfl, hP, by rw [ht]; exact hw⟩, hS.F ht⟩) hS.2.2 hdg hlk))
theorem hp_lret {v : Int64} (B0 : hB p l s m args meth c cc nL own G) (hw : hW G f H) (hS : va_S (hFr G) s.heap H locs) (hr : meth.sig.returnType = some .long) (hcs : cells ≤ mc ∧ slots ≤ ms) (hdg : decode cc pc = .ok (.lreturn, 1)) (hP : P (some (.long v)) f) : W p l e R s m args below meth c H locs cells slots (vx_MQ below (hQ G P) (hX G PX) args s mc ms (hFr G)) (F0 m pc ls [.long v]) := by
  obtain ⟨hx, hb, hml, hown, hts, hlk, hk0, hl⟩ := B0
  exact W.widen hcs.1 hcs.2 (vx_ret (W.lret (v := v) hx hb hr (fun t ht _ => ⟨⟨_, f, rfl, hP, by rw [ht]; exact hw⟩, hS.F ht⟩) hS.2.2 hdg hlk))
/-- a callee's throw goes on to the caller -/
theorem hp_out {E : String} {ce : Cell} {q : Addr} (B0 : hB p l s m args meth c cc nL own G) (hw : hW G f H) (hS : va_S (hFr G) s.heap H locs) (hout : ∀ x ∈ c.exceptionTable.toList, False) (hce : H[q]? = some ce) (hcv : ce.vm = .none) (hcl : s.vm.findClass E = some ce.cls) (hcs : cells ≤ mc ∧ slots ≤ ms) (hP : PX E f) : vx_W p l e R s m args below meth c H locs cells slots (vx_MQ below (hQ G P) (hX G PX) args s mc ms (hFr G)) (F0 m pc ls rest) q := by
  obtain ⟨hx, hb, hml, hown, hts, hlk, hk0, hl⟩ := B0
  exact vx_out (fun x h => (hout x h).elim) hlk hce hcv hcl (fun t ht _ => ⟨⟨f, hP, by rw [ht]; exact hw⟩, hS.F ht⟩) hS.2.2 hcs.1 hcs.2
/-- the words of a throw -/
theorem hat_of {own cls : String} {ic : Nat} {names : List String} {args : Array Value} {s : State} {G : hG} (hts : ∀ w ∈ gW, w.before args s = true) (hk0 : hK G s) (h1 : ∀ w ∈ (vx_atS own ic cls names).filter goodWord, w ∈ gW) (h2 : ∀ w ∈ (vx_atS own ic cls names).filter (fun w => !goodWord w), w ∈ hOt) : ∀ w ∈ vx_atS own ic cls names, w.before args s = true := by
  intro w hw
  by_cases g : goodWord w = true
  · exact hts w (h1 w (List.mem_filter.mpr ⟨hw, g⟩))
  · have h9 : w ∈ hOt := h2 w (List.mem_filter.mpr ⟨hw, by cases hg : goodWord w with | true => exact absurd hg g | false => rfl⟩)
    exact va_Nw.use (hOw_tabs (List.mem_filter.mp h9).2) (hk0.2.2.2.1 w h9)
theorem hp_throw {cls text : String} {names : List String} {ik is ic : Nat} (B0 : hB p l s m args meth c cc nL own G) (hw : hW G f H) (hS : va_S (hFr G) s.heap H locs) (hout : ∀ x ∈ c.exceptionTable.toList, False)
    (hn9 : Bundle.fit cls = true ∧ (∀ n ∈ names, Bundle.fit n = true)) (hk : Cond.classLink own ik cls ∈ gW) (hini : Cond.initialized cls ∈ gW) (hstr : (own, is, text) ∈ hStr)
    (h1 : ∀ w ∈ (vx_atS own ic cls names).filter goodWord, w ∈ gW) (h2 : ∀ w ∈ (vx_atS own ic cls names).filter (fun w => !goodWord w), w ∈ hOt) (hgood : ∀ w ∈ Cond.classLink own ik cls :: Cond.initialized cls :: vx_atS own ic cls names, vx_ot w = true)
    (hsz : ls.size = nL) (d0 : decode cc pc = .ok (.new ik, 3)) (d3 : decode cc (pc + 3) = .ok (.dup, 1)) (d4 : decode cc (pc + 4) = .ok (.ldc is, 2)) (d6 : decode cc (pc + 6) = .ok (.invokespecial ic, 3)) (d9 : decode cc (pc + 9) = .ok (.athrow, 1))
    (hR : (names.length + 3 < R.frames ∧ (rest.map fun v => v.category).sum + (13 * (names.length + 1) + 43) ≤ R.locals) ∧ cells + 1 ≤ R.cells ∧ slots + 6 ≤ R.slots) (hcs : cells + 1 ≤ mc ∧ slots + 6 ≤ ms) (hP : PX cls f) :
    W p l e R s m args below meth c H locs cells slots (vx_MQ below (hQ G P) (hX G PX) args s mc ms (hFr G)) (F0 m pc ls rest) := by
  obtain ⟨hx, hb, hml, hown, hts, hlk, hk0, hl⟩ := B0
  obtain ⟨sa, hsa⟩ := hk0.2.2.2.2.1 _ hstr
  exact vx_throwS hx hb hl (own := own) (cls := cls) (text := text) (names := names) (ik := ik) (is := is) (ic := ic) (sa := sa) (A := hFr G) hown hn9.1 hn9.2 (hts _ hk) (hts _ hini) hsa (hat_of hts hk0 h1 h2) hgood hk0.2.1 hk0.2.2.1 hS (hsz.trans hml.symm) d0 d3 d4 d6 d9
    (fun x h => (hout x h).elim) hR.1.1 hR.1.2 hR.2.1 hR.2.2 hlk (fun t _ z1 z2 => by
      refine ⟨⟨f, hP, ?_⟩, Nat.le_trans hS.1 z1, fun q g1 g2 => ?_⟩
      · obtain ⟨L, g, hf, hP9, hD⟩ := hw
        exact ⟨L, g, hf, hP9.kept (fun k q hk9 => z2 q.1 (hP9 k q hk9).lt), hD⟩
      · rw [z2 q (Nat.lt_of_lt_of_le g1 hS.1)]
        exact hS.2.1 q g1 g2) hS.2.2 hcs.1 hcs.2
/-- a concrete number on the stack by its name -/
theorem hp_c {x v : Int32} (h : x = v) (k : W p l e R s m args below meth c H locs cells slots Q (F0 m pc ls (.int v :: rest))) : W p l e R s m args below meth c H locs cells slots Q (F0 m pc ls (.int x :: rest)) := by rw [h]; exact k
end HQ9
/-! natives: arraycopy, clone; a static call of a method with handlers; a throw that a handler takes -/
section HQ10
variable {p : Program} {l : Launch} {e : Env} {R : Room} {s : State} {m : MethodId} {args : Array Value} {below : List Frame} {meth : Method} {c : Code} {H : Heap} {locs : List Loc} {cells slots : Nat} {Q : State → Prop}
variable {cc : ByteArray} {nL pc : Nat} {own : String} {G : hG} {f : hM} {ls : Array Slot} {rest : List Value} {a : Nat}
theorem hp_copyI {index a0 n0 n1 : Nat} {x y : Nat → Int32} {sp dp n : Int32} (B0 : hB p l s m args meth c cc nL own G) (hw : hW G f H) (hS : va_S (hFr G) s.heap H locs) (hsz : ls.size = nL) (hlm : Cond.methodLink own index arraycopyName ∈ gW) (hnat : Cond.native arraycopyName ∈ gW) (hst : Cond.static arraycopyName ∈ gW) (hini : Cond.initialized "java/lang/System" ∈ gW)
    (ha0 : f a0 = some (.inl (cI G, n0, .inl x))) (ha1 : f a = some (.inl (cI G, n1, .inl y))) (h1 : ¬ sp < 0) (h2 : ¬ dp < 0) (h3 : ¬ n < 0) (h4 : sp.toNatClampNeg + n.toNatClampNeg ≤ n0) (h5 : dp.toNatClampNeg + n.toNatClampNeg ≤ n1)
    (hR : 1 ≤ R.frames ∧ (rest.map fun v => v.category).sum + (nativeFrameWords "java/lang/System" "arraycopy" 5 + 11) ≤ R.locals) (hdg : decode cc pc = .ok (.invokestatic index, 3))
    (kk : ∀ (H1 : Heap) (locs1 : List Loc) (f1 : hM), f1 = va_up f a (some (.inl (cI G, n1, .inl (va_cpy x y sp.toNatClampNeg dp.toNatClampNeg n.toNatClampNeg)))) → hW G f1 H1 → va_S (hFr G) s.heap H1 locs1 → W p l e R s m args below meth c H1 locs1 cells slots Q (F0 m (pc + 3) ls rest)) : W p l e R s m args below meth c H locs cells slots Q (F0 m pc ls (.int n :: .int dp :: .ref a :: .int sp :: .ref a0 :: rest)) := by
  obtain ⟨hx, hb, hml, hown, hts, hlk, hk0, hl9⟩ := B0
  obtain ⟨L, g, hf, hP, hD⟩ := hw
  obtain ⟨hL, hg⟩ := hf a _ ha1
  obtain ⟨hL0, hg0⟩ := hf a0 _ ha0
  obtain ⟨j, hj0⟩ := va_pl_get (X := []) (f := g) hL
  obtain ⟨j2, hj2⟩ := va_pl_get (X := []) (f := g) hL0
  have hj := hj0
  rw [hg] at hj
  rw [hg0] at hj2
  exact va_copyi (D := G.1) (cl := hC) (tys := hTy G) hx hb (hml.trans hsz.symm) hown (hts _ hlm) (hts _ hnat) (hts _ hst) (hts _ hini) hk0.1 hP hD hS j2 j 0 0 hj2 hj (ty := .int) rfl rfl rfl h1 h2 h3 h4 h5 (fun _ _ => rfl) hR.1 hR.2 hdg (fun H1 locs1 hP1 hD1 hS1 => kk H1 locs1 _ rfl (hW.set (e0 := .inl (cI G, n1, .inl y)) hf hD hL hj0 hP1 hD1) hS1)
theorem hp_cloneI {index n0 : Nat} {x : Nat → Int32} (B0 : hB p l s m args meth c cc nL own G) (hw : hW G f H) (hS : va_S (hFr G) s.heap H locs) (hsz : ls.size = nL) (hlm : Cond.methodLink own index ⟨"[I", "clone", "()Ljava/lang/Object;"⟩ ∈ gW) (hsame : Cond.sameMethod "[I" "java/lang/Object" "clone" "()Ljava/lang/Object;" ∈ gW) (hnat : Cond.native ⟨"java/lang/Object", "clone", "()Ljava/lang/Object;"⟩ ∈ gW) (hinst : Cond.instanceMethod ⟨"java/lang/Object", "clone", "()Ljava/lang/Object;"⟩ ∈ gW)
    (hsel : Cond.selects "[I" ⟨"[I", "clone", "()Ljava/lang/Object;"⟩ ⟨"java/lang/Object", "clone", "()Ljava/lang/Object;"⟩ ∈ gW) (hcl : Cond.castable "[I" "java/lang/Cloneable" ∈ hOt) (ha0 : f a = some (.inl (cI G, n0, .inl x)))
    (hR : (1 ≤ R.frames ∧ (rest.map fun v => v.category).sum + 14 ≤ R.locals) ∧ cells + 1 ≤ R.cells ∧ slots + n0 ≤ R.slots) (hdg : decode cc pc = .ok (.invokevirtual index, 3))
    (kk : ∀ (q : Nat) (H1 : Heap) (f1 : hM), f q = none → f1 = va_up f q (some (.inl (cI G, n0, .inl x))) → hW G f1 H1 → va_S (hFr G) s.heap H1 locs → W p l e R s m args below meth c H1 locs (cells + 1) (slots + n0) Q (F0 m (pc + 3) ls (.ref q :: rest))) : W p l e R s m args below meth c H locs cells slots Q (F0 m pc ls (.ref a :: rest)) := by
  have hA := B0.le
  obtain ⟨hx, hb, hml, hown, hts, hlk, hk0, hl9⟩ := B0
  obtain ⟨L, g, hf, hP, hD⟩ := hw
  obtain ⟨hL0, hg0⟩ := hf a _ ha0
  obtain ⟨j2, hj2⟩ := va_pl_get (X := []) (f := g) hL0
  rw [hg0] at hj2
  have hnm : s.vm.findClass "[I" = some (cI G) := (hk0.1.2 0 (cI G, .int) rfl).2
  exact va_clone (D := G.1) (cl := hC) (tys := hTy G) (ws := [] ++ va_pl L g) (ty := .int) (x := (n0, .inl x)) hx hb (hml.trans hsz.symm) hown (hts _ hlm) (hts _ hsame) (hts _ hnat) (hts _ hinst) (hts _ hsel) (hk0.2.2.2.1 _ hcl) hk0.1 hP hD hS hA j2 0 hj2 rfl hnm
    (fun i v hv => by
      have h9 : (arrV (cI G) n0 (fun j => .int (x j))).slots[i]? = some v := hv
      have hi : i < n0 := by
        have := (Array.getElem?_eq_some_iff.mp h9).1
        rw [arrV_size] at this
        exact this
      rw [arrV_read _ _ hi] at h9
      cases h9
      rfl) hR.1.1 hR.1.2 hR.2.1 hR.2.2 hdg (fun q H1 _ hP1 hD1 hS1 => by
    obtain ⟨h0, hw1⟩ := hW.push hf hP1 hD1
    exact kk q H1 _ h0 rfl hw1 hS1)
theorem hp_castI {index : Nat} {n0 : Nat} {x : Nat → Int32} (B0 : hB p l s m args meth c cc nL own G) (hw : hW G f H) (hlm : Cond.classLink own index "[I" ∈ gW) (ha0 : f a = some (.inl (cI G, n0, .inl x))) (hdg : decode cc pc = .ok (.checkcast index, 3))
    (kk : W p l e R s m args below meth c H locs cells slots Q (F0 m (pc + 3) ls (.ref a :: rest))) : W p l e R s m args below meth c H locs cells slots Q (F0 m pc ls (.ref a :: rest)) := by
  obtain ⟨hx, hb, hml, hown, hts, hlk, hk0, hl9⟩ := B0
  obtain ⟨L, g, hf, hP, hD⟩ := hw
  obtain ⟨hL0, hg0⟩ := hf a _ ha0
  obtain ⟨j2, hj2⟩ := va_pl_get (X := []) (f := g) hL0
  rw [hg0] at hj2
  exact va_castA (D := G.1) (cl := hC) hx hb hown (hts _ hlm) hP j2 hj2 (hk0.1.2 0 (cI G, .int) rfl).2 hdg kk
def hMH (y : MethodName) (bytes : ByteArray) (maxL : Nat) (ret : Option FieldType) (hh : List (Nat × Nat × Nat × Nat)) (n : Nat) : Prop :=
  Cond.codeWith y bytes maxL ret hh ∈ gW ∧ Cond.static y ∈ gW ∧ Cond.initialized y.cls ∈ gW ∧ (y.cls ≠ "java/lang/invoke/MethodHandle" ∧ y.cls ≠ "java/lang/invoke/VarHandle") ∧ (parseMethodDescriptor y.desc).map (fun d => d.parameters.length) = some n
theorem hp_SH {y : MethodName} {bytes : ByteArray} {maxL n index : Nat} {ret : Option FieldType} {hh : List (Nat × Nat × Nat × Nat)} {fr lo mc ms : Nat} {As st0 : List Value} {P : Option Value → hM → Prop} {PX : String → hM → Prop} (B0 : hB p l s m args meth c cc nL own G) (hw : hW G f H) (hS : va_S (hFr G) s.heap H locs)
    (hM9 : CT l y (.codeWith y bytes maxL ret hh) fr lo mc ms G As f P PX) (hm : hMH y bytes maxL ret hh n) (hlm : Cond.methodLink own index y ∈ gW) (hst : st0 = As.reverse ++ rest) (hn : As.length = n) (hsz : ls.size = nL) (hroom : (rest.map fun v => v.category).sum ≤ 8)
    (hR : (fr + 1 ≤ R.frames ∧ 8 + (maxL + 11) + lo ≤ R.locals) ∧ cells + mc ≤ R.cells ∧ slots + ms ≤ R.slots) (hdg : decode cc pc = .ok (.invokestatic index, 3))
    (kx : ∀ (E : String) (ce : Cell) (q9 : Addr) (f1 : hM) (H1 : Heap) (locs1 : List Loc), PX E f1 → hW G f1 H1 → va_S (hFr G) s.heap H1 locs1 → H1[q9]? = some ce → ce.vm = .none → s.vm.findClass E = some ce.cls → vx_W p l e R s m args below meth c H1 locs1 (cells + mc) (slots + ms) Q (F0 m pc ls rest) q9)
    (kk : ∀ (v : Option Value) (f1 : hM) (H1 : Heap) (locs1 : List Loc), P v f1 → hW G f1 H1 → va_S (hFr G) s.heap H1 locs1 → W p l e R s m args below meth c H1 locs1 (cells + mc) (slots + ms) Q (F0 m (pc + 3) ls (v.toList ++ rest))) : W p l e R s m args below meth c H locs cells slots Q (F0 m pc ls st0) := by
  have B1 := B0
  obtain ⟨hx, hb9, hml, hown, hts, hlk, hk0, hl⟩ := B0
  obtain ⟨m1, m2, m4, m5, m6⟩ := hm
  exact hp_go B1 hS (vx_runSX (hh := hh) (ws := Cond.codeWith y bytes maxL ret hh :: gW) (rm := { frames := fr, cells := mc, slots := ms, locals := lo }) (Ts := gW) (bytes := bytes) (maxL := maxL) (ret := ret) (n := n) (As := As) (rest := rest) ⟨hx, hb9, hml, hown, hts⟩ hM9
    ⟨⟨rfl, rfl, hR.1.1, hR.1.2, gW_pay hts m1, List.mem_cons_self⟩, hts _ m1, hts _ m4, m5, hlen_of m6, hts _ hlm, hts _ m2⟩
    ⟨hPre.blind, hPc_of B1 hw hS⟩ rfl hn hsz hst (lv_room hroom) hdg hR.2) kx kk
/-- caught here: the rows ahead name other classes -/
theorem hp_catch {name : String} {E : String} {ce : Cell} {q : Addr} (B0 : hB p l s m args meth c cc nL own G) (pre : List ExceptionTableEntry) (x : ExceptionTableEntry) (suf : List ExceptionTableEntry) (hsplit : c.exceptionTable.toList = pre ++ x :: suf)
    (hpass : ∀ z ∈ pre, covers z pc = false ∨ (z.catchType ≠ 0 ∧ ∃ nm : String, Cond.classLink own z.catchType nm ∈ gW ∧ (E, nm) ∈ hNcs)) (hx9 : covers x pc = true) (h0 : x.catchType ≠ 0) (hlink : Cond.classLink own x.catchType name ∈ gW) (hcast : Cond.castable E name ∈ hOt) (hce : H[q]? = some ce) (hcv : ce.vm = .none) (hcl : s.vm.findClass E = some ce.cls)
    (kk : W p l e R s m args below meth c H locs cells slots Q (F0 m x.handlerPc ls [.ref q])) : vx_W p l e R s m args below meth c H locs cells slots Q (F0 m pc ls rest) q := by
  obtain ⟨hx, hb, hml, hown, hts, hlk, hk0, hl9⟩ := B0
  exact vx_catch (E := E) hown pre x suf hsplit (fun z hz => by
    rcases hpass z hz with h | ⟨h1, nm, h2, h3⟩
    · exact Or.inl h
    · exact Or.inr ⟨h1, nm, hts _ h2, hk0.2.2.2.2.2.1 (E, nm) h3⟩) hx9 h0 (hts _ hlink) (va_Nw.use rfl (hk0.2.2.2.1 _ hcast)) hce hcv hcl kk
end HQ10
/-! the words of a throw -/
def tNm : List String := ["java/lang/RuntimeException", "java/lang/Exception"]
theorem hall_of {L B : List Cond} (h : L.all (fun w => decide (w ∈ B)) = true) : ∀ w ∈ L, w ∈ B := fun w hw => of_decide_eq_true (List.all_eq_true.mp h w hw)
theorem hallb_of {L : List Cond} {b : Cond → Bool} (h : L.all b = true) : ∀ w ∈ L, b w = true := fun w hw => List.all_eq_true.mp h w hw
end
section
theorem qN_L : (Cond.initialized RL) ∈ gW := gW_mem 20 (by decide +kernel) (by decide +kernel)
theorem qN_X4 : (Cond.initialized RX4) ∈ gW := gW_mem 21 (by decide +kernel) (by decide +kernel)
theorem qN_X1 : (Cond.initialized RX1) ∈ gW := gW_mem 22 (by decide +kernel) (by decide +kernel)
theorem qN_X3 : (Cond.initialized RX3) ∈ gW := gW_mem 23 (by decide +kernel) (by decide +kernel)
theorem qN_J7 : (Cond.initialized RJ7) ∈ gW := gW_mem 24 (by decide +kernel) (by decide +kernel)
theorem qN_X0 : (Cond.initialized RX0) ∈ gW := gW_mem 25 (by decide +kernel) (by decide +kernel)
theorem qN_java_lang_Throwable : (Cond.initialized "java/lang/Throwable") ∈ gW := gW_mem 26 (by decide +kernel) (by decide +kernel)
theorem qN_java_lang_Exception : (Cond.initialized "java/lang/Exception") ∈ gW := gW_mem 27 (by decide +kernel) (by decide +kernel)
theorem qN_java_lang_RuntimeException : (Cond.initialized "java/lang/RuntimeException") ∈ gW := gW_mem 28 (by decide +kernel) (by decide +kernel)
theorem qN_java_lang_IndexOutOfBoundsException : (Cond.initialized "java/lang/IndexOutOfBoundsException") ∈ gW := gW_mem 29 (by decide +kernel) (by decide +kernel)
theorem qN_java_lang_IllegalArgumentException : (Cond.initialized "java/lang/IllegalArgumentException") ∈ gW := gW_mem 30 (by decide +kernel) (by decide +kernel)
theorem qN_java_lang_IllegalStateException : (Cond.initialized "java/lang/IllegalStateException") ∈ gW := gW_mem 31 (by decide +kernel) (by decide +kernel)
theorem qN_java_lang_System : (Cond.initialized RJ10) ∈ gW := gW_mem 32 (by decide +kernel) (by decide +kernel)
theorem qN_X2 : (Cond.initialized RX2) ∈ gW := gW_mem 33 (by decide +kernel) (by decide +kernel)
theorem qN_java_lang_Math : (Cond.initialized RJ9) ∈ gW := gW_mem 34 (by decide +kernel) (by decide +kernel)
theorem qC_L_9 : (Cond.classLink RL 9 RX4) ∈ gW := gW_mem 35 (by decide +kernel) (by decide +kernel)
theorem qI_X4 : (Cond.instantiable RX4 3) ∈ gW := gW_mem 36 (by decide +kernel) (by decide +kernel)
theorem qM_L_167 : (Cond.methodLink RL 167 yX4_init) ∈ gW := gW_mem 37 (by decide +kernel) (by decide +kernel)
theorem qM_X4_1 : (Cond.methodLink RX4 1 objectInit) ∈ gW := gW_mem 40 (by decide +kernel) (by decide +kernel)
theorem qC_X4_7 : (Cond.classLink RX4 7 RX1) ∈ gW := gW_mem 43 (by decide +kernel) (by decide +kernel)
theorem qI_X1 : (Cond.instantiable RX1 11) ∈ gW := gW_mem 44 (by decide +kernel) (by decide +kernel)
theorem qM_X4_9 : (Cond.methodLink RX4 9 yX1_init) ∈ gW := gW_mem 45 (by decide +kernel) (by decide +kernel)
theorem qM_X1_3 : (Cond.methodLink RX1 3 objectInit) ∈ gW := gW_mem 48 (by decide +kernel) (by decide +kernel)
theorem qC_X1_21 : (Cond.classLink RX1 21 RX3) ∈ gW := gW_mem 49 (by decide +kernel) (by decide +kernel)
theorem qI_X3 : (Cond.instantiable RX3 3) ∈ gW := gW_mem 50 (by decide +kernel) (by decide +kernel)
theorem oM_X1_23 : (Cond.methodLinkNest RX1 23 yX3_init "OptionLine") ∈ hOt := List.mem_filter.mpr ⟨List.mem_of_getElem? (i := 51) (by decide +kernel), rfl⟩
theorem qM_X3_3 : (Cond.methodLink RX3 3 objectInit) ∈ gW := gW_mem 54 (by decide +kernel) (by decide +kernel)
theorem qF_X3_19 : (Cond.fieldLink RX3 19 "OptionLine$FrameRow" "first" "LOptionLine$Frame;") ∈ gW := gW_mem 55 (by decide +kernel) (by decide +kernel)
theorem qF_X3_15 : (Cond.fieldLink RX3 15 "OptionLine$FrameRow" "last" "LOptionLine$Frame;") ∈ gW := gW_mem 56 (by decide +kernel) (by decide +kernel)
theorem qF_X3_9 : (Cond.fieldLink RX3 9 "OptionLine$FrameRow" "count" "I") ∈ gW := gW_mem 57 (by decide +kernel) (by decide +kernel)
theorem oF_X4_110 : (Cond.fieldLinkNest RX4 110 "OptionLine$FrameRow" "count" "I" "OptionLine") ∈ hOt := List.mem_filter.mpr ⟨List.mem_of_getElem? (i := 58) (by decide +kernel), rfl⟩
theorem qP_X3 : (Cond.superclass RX3 "java/lang/Object") ∈ gW := gW_mem 65 (by decide +kernel) (by decide +kernel)
theorem qA_int : (Cond.arrayClass .int) ∈ gW := gW_mem 66 (by decide +kernel) (by decide +kernel)
theorem qM_X1_51 : (Cond.methodLink RX1 51 yJ7_fill_53178) ∈ gW := gW_mem 67 (by decide +kernel) (by decide +kernel)
theorem qF_X1_9 : (Cond.fieldLink RX1 9 "OptionLine$End" "wishes" "[I") ∈ gW := gW_mem 70 (by decide +kernel) (by decide +kernel)
theorem qF_X1_15 : (Cond.fieldLink RX1 15 "OptionLine$End" "allowed" "[I") ∈ gW := gW_mem 71 (by decide +kernel) (by decide +kernel)
theorem qF_X1_18 : (Cond.fieldLink RX1 18 "OptionLine$End" "askedFor" "[I") ∈ gW := gW_mem 72 (by decide +kernel) (by decide +kernel)
theorem oF_X4_95 : (Cond.fieldLinkNest RX4 95 "OptionLine$End" "askedFor" "[I" "OptionLine") ∈ hOt := List.mem_filter.mpr ⟨List.mem_of_getElem? (i := 73) (by decide +kernel), rfl⟩
theorem qF_X1_24 : (Cond.fieldLink RX1 24 "OptionLine$End" "row" "LOptionLine$FrameRow;") ∈ gW := gW_mem 74 (by decide +kernel) (by decide +kernel)
theorem oF_X4_106 : (Cond.fieldLinkNest RX4 106 "OptionLine$End" "row" "LOptionLine$FrameRow;" "OptionLine") ∈ hOt := List.mem_filter.mpr ⟨List.mem_of_getElem? (i := 75) (by decide +kernel), rfl⟩
theorem qF_X1_48 : (Cond.fieldLink RX1 48 "OptionLine$End" "magic" "I") ∈ gW := gW_mem 76 (by decide +kernel) (by decide +kernel)
theorem qF_X1_28 : (Cond.fieldLink RX1 28 "OptionLine$End" "state" "I") ∈ gW := gW_mem 77 (by decide +kernel) (by decide +kernel)
theorem oF_X4_55 : (Cond.fieldLinkNest RX4 55 "OptionLine$End" "state" "I" "OptionLine") ∈ hOt := List.mem_filter.mpr ⟨List.mem_of_getElem? (i := 78) (by decide +kernel), rfl⟩
theorem qF_X1_32 : (Cond.fieldLink RX1 32 "OptionLine$End" "timer" "I") ∈ gW := gW_mem 79 (by decide +kernel) (by decide +kernel)
theorem qF_X1_35 : (Cond.fieldLink RX1 35 "OptionLine$End" "sentRequests" "I") ∈ gW := gW_mem 80 (by decide +kernel) (by decide +kernel)
theorem oF_X4_99 : (Cond.fieldLinkNest RX4 99 "OptionLine$End" "sentRequests" "I" "OptionLine") ∈ hOt := List.mem_filter.mpr ⟨List.mem_of_getElem? (i := 81) (by decide +kernel), rfl⟩
theorem qF_X1_38 : (Cond.fieldLink RX1 38 "OptionLine$End" "lastId" "I") ∈ gW := gW_mem 82 (by decide +kernel) (by decide +kernel)
theorem qF_X1_41 : (Cond.fieldLink RX1 41 "OptionLine$End" "looped" "Z") ∈ gW := gW_mem 83 (by decide +kernel) (by decide +kernel)
theorem oF_X4_102 : (Cond.fieldLinkNest RX4 102 "OptionLine$End" "looped" "Z" "OptionLine") ∈ hOt := List.mem_filter.mpr ⟨List.mem_of_getElem? (i := 84) (by decide +kernel), rfl⟩
theorem qF_X1_45 : (Cond.fieldLink RX1 45 "OptionLine$End" "missedFrames" "I") ∈ gW := gW_mem 85 (by decide +kernel) (by decide +kernel)
theorem oF_X4_86 : (Cond.fieldLinkNest RX4 86 "OptionLine$End" "missedFrames" "I" "OptionLine") ∈ hOt := List.mem_filter.mpr ⟨List.mem_of_getElem? (i := 86) (by decide +kernel), rfl⟩
theorem qP_X1 : (Cond.superclass RX1 "java/lang/Object") ∈ gW := gW_mem 109 (by decide +kernel) (by decide +kernel)
theorem qC_X4_21 : (Cond.classLink RX4 21 RX0) ∈ gW := gW_mem 110 (by decide +kernel) (by decide +kernel)
theorem qI_X0 : (Cond.instantiable RX0 9) ∈ gW := gW_mem 111 (by decide +kernel) (by decide +kernel)
theorem qM_X4_23 : (Cond.methodLink RX4 23 yX0_init) ∈ gW := gW_mem 112 (by decide +kernel) (by decide +kernel)
theorem qM_X0_3 : (Cond.methodLink RX0 3 objectInit) ∈ gW := gW_mem 115 (by decide +kernel) (by decide +kernel)
theorem qM_X0_41 : (Cond.methodLink RX0 41 yJ7_fill_53178) ∈ gW := gW_mem 116 (by decide +kernel) (by decide +kernel)
theorem qF_X0_9 : (Cond.fieldLink RX0 9 "OptionLine$Bundle" "starts" "[I") ∈ gW := gW_mem 117 (by decide +kernel) (by decide +kernel)
theorem qF_X0_15 : (Cond.fieldLink RX0 15 "OptionLine$Bundle" "packetOfPiece" "[I") ∈ gW := gW_mem 118 (by decide +kernel) (by decide +kernel)
theorem qF_X0_18 : (Cond.fieldLink RX0 18 "OptionLine$Bundle" "hasCome" "[Z") ∈ gW := gW_mem 119 (by decide +kernel) (by decide +kernel)
theorem qF_X0_22 : (Cond.fieldLink RX0 22 "OptionLine$Bundle" "firstOnLine" "[I") ∈ gW := gW_mem 120 (by decide +kernel) (by decide +kernel)
theorem qF_X0_25 : (Cond.fieldLink RX0 25 "OptionLine$Bundle" "lastOverLine" "[I") ∈ gW := gW_mem 121 (by decide +kernel) (by decide +kernel)
theorem qF_X0_28 : (Cond.fieldLink RX0 28 "OptionLine$Bundle" "givenPackets" "[I") ∈ gW := gW_mem 122 (by decide +kernel) (by decide +kernel)
theorem oF_X4_142 : (Cond.fieldLinkNest RX4 142 "OptionLine$Bundle" "givenPackets" "[I" "OptionLine") ∈ hOt := List.mem_filter.mpr ⟨List.mem_of_getElem? (i := 123) (by decide +kernel), rfl⟩
theorem qF_X0_31 : (Cond.fieldLink RX0 31 "OptionLine$Bundle" "packets" "I") ∈ gW := gW_mem 124 (by decide +kernel) (by decide +kernel)
theorem oF_X4_117 : (Cond.fieldLinkNest RX4 117 "OptionLine$Bundle" "packets" "I" "OptionLine") ∈ hOt := List.mem_filter.mpr ⟨List.mem_of_getElem? (i := 125) (by decide +kernel), rfl⟩
theorem qF_X0_35 : (Cond.fieldLink RX0 35 "OptionLine$Bundle" "givenCount" "I") ∈ gW := gW_mem 126 (by decide +kernel) (by decide +kernel)
theorem oF_X4_134 : (Cond.fieldLinkNest RX4 134 "OptionLine$Bundle" "givenCount" "I" "OptionLine") ∈ hOt := List.mem_filter.mpr ⟨List.mem_of_getElem? (i := 127) (by decide +kernel), rfl⟩
theorem qF_X0_38 : (Cond.fieldLink RX0 38 "OptionLine$Bundle" "nextNumber" "I") ∈ gW := gW_mem 128 (by decide +kernel) (by decide +kernel)
theorem oF_X4_145 : (Cond.fieldLinkNest RX4 145 "OptionLine$Bundle" "nextNumber" "I" "OptionLine") ∈ hOt := List.mem_filter.mpr ⟨List.mem_of_getElem? (i := 129) (by decide +kernel), rfl⟩
theorem qP_X0 : (Cond.superclass RX0 "java/lang/Object") ∈ gW := gW_mem 148 (by decide +kernel) (by decide +kernel)
theorem qA_boolean : (Cond.arrayClass .boolean) ∈ gW := gW_mem 149 (by decide +kernel) (by decide +kernel)
theorem qF_X4_12 : (Cond.fieldLink RX4 12 "OptionLine" "endZero" "LOptionLine$End;") ∈ gW := gW_mem 150 (by decide +kernel) (by decide +kernel)
theorem qF_X4_18 : (Cond.fieldLink RX4 18 "OptionLine" "endOne" "LOptionLine$End;") ∈ gW := gW_mem 151 (by decide +kernel) (by decide +kernel)
theorem qF_X4_24 : (Cond.fieldLink RX4 24 "OptionLine" "bundle" "LOptionLine$Bundle;") ∈ gW := gW_mem 152 (by decide +kernel) (by decide +kernel)
theorem qP_X4 : (Cond.superclass RX4 "java/lang/Object") ∈ gW := gW_mem 159 (by decide +kernel) (by decide +kernel)
theorem qM_L_172 : (Cond.methodLink RL 172 yL_cell) ∈ gW := gW_mem 160 (by decide +kernel) (by decide +kernel)
theorem qM_L_94 : (Cond.methodLink RL 94 yL_low) ∈ gW := gW_mem 164 (by decide +kernel) (by decide +kernel)
theorem qM_L_176 : (Cond.methodLink RL 176 yL_links) ∈ gW := gW_mem 167 (by decide +kernel) (by decide +kernel)
theorem qM_L_97 : (Cond.methodLink RL 97 yL_wish) ∈ gW := gW_mem 170 (by decide +kernel) (by decide +kernel)
theorem qC_L_14 : (Cond.classLink RL 14 "java/lang/IndexOutOfBoundsException") ∈ gW := gW_mem 173 (by decide +kernel) (by decide +kernel)
theorem qC_L_16 : (Cond.classLink RL 16 "java/lang/IllegalArgumentException") ∈ gW := gW_mem 174 (by decide +kernel) (by decide +kernel)
theorem qM_L_8 : (Cond.methodLink RL 8 yX4_wish) ∈ gW := gW_mem 175 (by decide +kernel) (by decide +kernel)
theorem qM_X4_28 : (Cond.methodLink RX4 28 yX4_endAt) ∈ gW := gW_mem 179 (by decide +kernel) (by decide +kernel)
theorem qC_X4_137 : (Cond.classLink RX4 137 "java/lang/IndexOutOfBoundsException") ∈ gW := gW_mem 183 (by decide +kernel) (by decide +kernel)
theorem oC_eI : (Cond.castable "java/lang/IndexOutOfBoundsException" "java/lang/IndexOutOfBoundsException") ∈ hOt := List.mem_filter.mpr ⟨List.mem_of_getElem? (i := 185) (by decide +kernel), rfl⟩
theorem qV_fillInStackTrace : (Cond.native ⟨"java/lang/Throwable", "fillInStackTrace", "(I)Ljava/lang/Throwable;"⟩) ∈ gW := gW_mem 223 (by decide +kernel) (by decide +kernel)
theorem sR_X4_148 : (RX4, 148, "there is no such end") ∈ hStr := List.mem_filterMap.mpr ⟨Cond.stringRef RX4 148 "there is no such end", List.mem_of_getElem? (i := 224) (by decide +kernel), rfl⟩
theorem qM_X4_141 : (Cond.methodLink RX4 141 ⟨"java/lang/IndexOutOfBoundsException", "<init>", "(Ljava/lang/String;)V"⟩) ∈ gW := gW_mem 225 (by decide +kernel) (by decide +kernel)
theorem qA_byte : (Cond.arrayClass .byte) ∈ gW := gW_mem 250 (by decide +kernel) (by decide +kernel)
theorem qM_X4_32 : (Cond.methodLink RX4 32 yX4_refuseNoOption) ∈ gW := gW_mem 251 (by decide +kernel) (by decide +kernel)
theorem sR_X4_150 : (RX4, 150, "there is no such option") ∈ hStr := List.mem_filterMap.mpr ⟨Cond.stringRef RX4 150 "there is no such option", List.mem_of_getElem? (i := 254) (by decide +kernel), rfl⟩
theorem qC_X4_35 : (Cond.classLink RX4 35 "java/lang/IllegalArgumentException") ∈ gW := gW_mem 255 (by decide +kernel) (by decide +kernel)
theorem oC_eA : (Cond.castable "java/lang/IllegalArgumentException" "java/lang/IllegalArgumentException") ∈ hOt := List.mem_filter.mpr ⟨List.mem_of_getElem? (i := 257) (by decide +kernel), rfl⟩
theorem sR_X4_37 : (RX4, 37, "the value is not 0 to 9, nor NONE") ∈ hStr := List.mem_filterMap.mpr ⟨Cond.stringRef RX4 37 "the value is not 0 to 9, nor NONE", List.mem_of_getElem? (i := 264) (by decide +kernel), rfl⟩
theorem qM_X4_39 : (Cond.methodLink RX4 39 ⟨"java/lang/IllegalArgumentException", "<init>", "(Ljava/lang/String;)V"⟩) ∈ gW := gW_mem 265 (by decide +kernel) (by decide +kernel)
theorem qM_X4_42 : (Cond.methodLink RX4 42 yX1_changeWish) ∈ gW := gW_mem 271 (by decide +kernel) (by decide +kernel)
theorem qM_L_100 : (Cond.methodLink RL 100 yL_allow) ∈ gW := gW_mem 275 (by decide +kernel) (by decide +kernel)
theorem qM_L_18 : (Cond.methodLink RL 18 yX4_allow) ∈ gW := gW_mem 278 (by decide +kernel) (by decide +kernel)
theorem sR_X4_46 : (RX4, 46, "the set is not 0 to 1023") ∈ hStr := List.mem_filterMap.mpr ⟨Cond.stringRef RX4 46 "the set is not 0 to 1023", List.mem_of_getElem? (i := 282) (by decide +kernel), rfl⟩
theorem qM_X4_48 : (Cond.methodLink RX4 48 yX1_changeAllowed) ∈ gW := gW_mem 283 (by decide +kernel) (by decide +kernel)
theorem qM_L_83 : (Cond.methodLink RL 83 yL_number) ∈ gW := gW_mem 287 (by decide +kernel) (by decide +kernel)
theorem qM_L_102 : (Cond.methodLink RL 102 yL_setsMagic) ∈ gW := gW_mem 292 (by decide +kernel) (by decide +kernel)
theorem qM_L_21 : (Cond.methodLink RL 21 yX4_setMagic) ∈ gW := gW_mem 295 (by decide +kernel) (by decide +kernel)
theorem qM_X4_51 : (Cond.methodLink RX4 51 yX1_changeMagic) ∈ gW := gW_mem 299 (by decide +kernel) (by decide +kernel)
theorem qM_L_106 : (Cond.methodLink RL 106 yL_open) ∈ gW := gW_mem 303 (by decide +kernel) (by decide +kernel)
theorem qC_L_29 : (Cond.classLink RL 29 "java/lang/IllegalStateException") ∈ gW := gW_mem 306 (by decide +kernel) (by decide +kernel)
theorem qM_L_25 : (Cond.methodLink RL 25 yX4_open) ∈ gW := gW_mem 307 (by decide +kernel) (by decide +kernel)
theorem qC_X4_59 : (Cond.classLink RX4 59 "java/lang/IllegalStateException") ∈ gW := gW_mem 311 (by decide +kernel) (by decide +kernel)
theorem oC_eS : (Cond.castable "java/lang/IllegalStateException" "java/lang/IllegalStateException") ∈ hOt := List.mem_filter.mpr ⟨List.mem_of_getElem? (i := 313) (by decide +kernel), rfl⟩
theorem sR_X4_61 : (RX4, 61, "the end is not closed") ∈ hStr := List.mem_filterMap.mpr ⟨Cond.stringRef RX4 61 "the end is not closed", List.mem_of_getElem? (i := 320) (by decide +kernel), rfl⟩
theorem qM_X4_63 : (Cond.methodLink RX4 63 ⟨"java/lang/IllegalStateException", "<init>", "(Ljava/lang/String;)V"⟩) ∈ gW := gW_mem 321 (by decide +kernel) (by decide +kernel)
theorem qM_X4_64 : (Cond.methodLink RX4 64 yX1_begin) ∈ gW := gW_mem 327 (by decide +kernel) (by decide +kernel)
theorem qM_X1_57 : (Cond.methodLink RX1 57 ⟨"java/lang/System", "arraycopy", "(Ljava/lang/Object;ILjava/lang/Object;II)V"⟩) ∈ gW := gW_mem 331 (by decide +kernel) (by decide +kernel)
theorem qV_arraycopy : (Cond.native arraycopyName) ∈ gW := gW_mem 333 (by decide +kernel) (by decide +kernel)
theorem qM_X1_63 : (Cond.methodLink RX1 63 yX1_ask) ∈ gW := gW_mem 334 (by decide +kernel) (by decide +kernel)
theorem qC_X1_71 : (Cond.classLink RX1 71 RX2) ∈ gW := gW_mem 338 (by decide +kernel) (by decide +kernel)
theorem qI_X2 : (Cond.instantiable RX2 5) ∈ gW := gW_mem 339 (by decide +kernel) (by decide +kernel)
theorem qM_X1_95 : (Cond.methodLink RX1 95 yJ7_copyOf_59c91) ∈ gW := gW_mem 340 (by decide +kernel) (by decide +kernel)
theorem qM_J7_316 : (Cond.methodLink RJ7 316 ⟨"[I", "clone", "()Ljava/lang/Object;"⟩) ∈ gW := gW_mem 343 (by decide +kernel) (by decide +kernel)
theorem qV_clone : (Cond.native ⟨"java/lang/Object", "clone", "()Ljava/lang/Object;"⟩) ∈ gW := gW_mem 345 (by decide +kernel) (by decide +kernel)
theorem oC_arr : (Cond.castable "[I" "java/lang/Cloneable") ∈ hOt := List.mem_filter.mpr ⟨List.mem_of_getElem? (i := 348) (by decide +kernel), rfl⟩
theorem qC_J7_317 : (Cond.classLink RJ7 317 "[I") ∈ gW := gW_mem 349 (by decide +kernel) (by decide +kernel)
theorem qM_J7_304 : (Cond.methodLink RJ7 304 yJ9_min_7cf53) ∈ gW := gW_mem 350 (by decide +kernel) (by decide +kernel)
theorem qM_J7_150 : (Cond.methodLink RJ7 150 ⟨"java/lang/System", "arraycopy", "(Ljava/lang/Object;ILjava/lang/Object;II)V"⟩) ∈ gW := gW_mem 353 (by decide +kernel) (by decide +kernel)
theorem qM_X1_99 : (Cond.methodLink RX1 99 yX2_init) ∈ gW := gW_mem 354 (by decide +kernel) (by decide +kernel)
theorem qM_X2_1 : (Cond.methodLink RX2 1 objectInit) ∈ gW := gW_mem 357 (by decide +kernel) (by decide +kernel)
theorem qF_X2_7 : (Cond.fieldLink RX2 7 "OptionLine$Frame" "kind" "I") ∈ gW := gW_mem 358 (by decide +kernel) (by decide +kernel)
theorem qF_X4_81 : (Cond.fieldLink RX4 81 "OptionLine$Frame" "kind" "I") ∈ gW := gW_mem 359 (by decide +kernel) (by decide +kernel)
theorem qF_X1_70 : (Cond.fieldLink RX1 70 "OptionLine$Frame" "kind" "I") ∈ gW := gW_mem 360 (by decide +kernel) (by decide +kernel)
theorem qF_X2_13 : (Cond.fieldLink RX2 13 "OptionLine$Frame" "id" "I") ∈ gW := gW_mem 361 (by decide +kernel) (by decide +kernel)
theorem qF_X1_86 : (Cond.fieldLink RX1 86 "OptionLine$Frame" "id" "I") ∈ gW := gW_mem 362 (by decide +kernel) (by decide +kernel)
theorem qF_X2_16 : (Cond.fieldLink RX2 16 "OptionLine$Frame" "magic" "I") ∈ gW := gW_mem 363 (by decide +kernel) (by decide +kernel)
theorem qF_X1_82 : (Cond.fieldLink RX1 82 "OptionLine$Frame" "magic" "I") ∈ gW := gW_mem 364 (by decide +kernel) (by decide +kernel)
theorem qF_X2_19 : (Cond.fieldLink RX2 19 "OptionLine$Frame" "values" "[I") ∈ gW := gW_mem 365 (by decide +kernel) (by decide +kernel)
theorem qF_X1_92 : (Cond.fieldLink RX1 92 "OptionLine$Frame" "values" "[I") ∈ gW := gW_mem 366 (by decide +kernel) (by decide +kernel)
theorem qF_X3_22 : (Cond.fieldLink RX3 22 "OptionLine$Frame" "behind" "LOptionLine$Frame;") ∈ gW := gW_mem 367 (by decide +kernel) (by decide +kernel)
theorem qP_X2 : (Cond.superclass RX2 "java/lang/Object") ∈ gW := gW_mem 378 (by decide +kernel) (by decide +kernel)
theorem qM_X1_102 : (Cond.methodLink RX1 102 yX3_put) ∈ gW := gW_mem 379 (by decide +kernel) (by decide +kernel)
theorem qM_L_86 : (Cond.methodLink RL 86 yL_beg) ∈ gW := gW_mem 383 (by decide +kernel) (by decide +kernel)
theorem qM_L_73 : (Cond.methodLink RL 73 yL_post) ∈ gW := gW_mem 387 (by decide +kernel) (by decide +kernel)
theorem qM_L_109 : (Cond.methodLink RL 109 yL_close) ∈ gW := gW_mem 391 (by decide +kernel) (by decide +kernel)
theorem qM_L_31 : (Cond.methodLink RL 31 yX4_close) ∈ gW := gW_mem 394 (by decide +kernel) (by decide +kernel)
theorem sR_X4_68 : (RX4, 68, "the end is closed") ∈ hStr := List.mem_filterMap.mpr ⟨Cond.stringRef RX4 68 "the end is closed", List.mem_of_getElem? (i := 398) (by decide +kernel), rfl⟩
theorem qM_X4_70 : (Cond.methodLink RX4 70 yX1_finish) ∈ gW := gW_mem 399 (by decide +kernel) (by decide +kernel)
theorem qM_X1_67 : (Cond.methodLink RX1 67 yX1_sendStop) ∈ gW := gW_mem 403 (by decide +kernel) (by decide +kernel)
theorem qM_X1_105 : (Cond.methodLink RX1 105 yX1_tellNothing) ∈ gW := gW_mem 407 (by decide +kernel) (by decide +kernel)
theorem qM_L_111 : (Cond.methodLink RL 111 yL_goBy) ∈ gW := gW_mem 410 (by decide +kernel) (by decide +kernel)
theorem qM_L_115 : (Cond.methodLink RL 115 yL_pass) ∈ gW := gW_mem 413 (by decide +kernel) (by decide +kernel)
theorem qM_L_43 : (Cond.methodLink RL 43 yX4_pass) ∈ gW := gW_mem 416 (by decide +kernel) (by decide +kernel)
theorem sR_X4_89 : (RX4, 89, "the ticks are not 1 to 50") ∈ hStr := List.mem_filterMap.mpr ⟨Cond.stringRef RX4 89 "the ticks are not 1 to 50", List.mem_of_getElem? (i := 420) (by decide +kernel), rfl⟩
theorem qM_X4_91 : (Cond.methodLink RX4 91 yX1_tick) ∈ gW := gW_mem 421 (by decide +kernel) (by decide +kernel)
theorem qM_L_117 : (Cond.methodLink RL 117 yL_deliver) ∈ gW := gW_mem 425 (by decide +kernel) (by decide +kernel)
theorem qM_L_34 : (Cond.methodLink RL 34 yX4_deliver) ∈ gW := gW_mem 428 (by decide +kernel) (by decide +kernel)
theorem qM_X4_73 : (Cond.methodLink RX4 73 yX4_takeFrame) ∈ gW := gW_mem 432 (by decide +kernel) (by decide +kernel)
theorem qM_X4_152 : (Cond.methodLink RX4 152 yX3_takeFirst) ∈ gW := gW_mem 435 (by decide +kernel) (by decide +kernel)
theorem sR_X4_156 : (RX4, 156, "no frame of the end is under way") ∈ hStr := List.mem_filterMap.mpr ⟨Cond.stringRef RX4 156 "no frame of the end is under way", List.mem_of_getElem? (i := 439) (by decide +kernel), rfl⟩
theorem qM_X4_77 : (Cond.methodLink RX4 77 yX1_hear) ∈ gW := gW_mem 440 (by decide +kernel) (by decide +kernel)
theorem qM_X1_75 : (Cond.methodLink RX1 75 yX1_hearRequest) ∈ gW := gW_mem 444 (by decide +kernel) (by decide +kernel)
theorem qM_X1_83 : (Cond.methodLink RX1 83 yX1_answer) ∈ gW := gW_mem 448 (by decide +kernel) (by decide +kernel)
theorem qM_X1_109 : (Cond.methodLink RX1 109 yX1_kindOfAnswer) ∈ gW := gW_mem 452 (by decide +kernel) (by decide +kernel)
theorem qM_X1_117 : (Cond.methodLink RX1 117 yX1_isUnknown) ∈ gW := gW_mem 456 (by decide +kernel) (by decide +kernel)
theorem qM_X1_121 : (Cond.methodLink RX1 121 yX1_isRefused) ∈ gW := gW_mem 460 (by decide +kernel) (by decide +kernel)
theorem qM_X1_128 : (Cond.methodLink RX1 128 yX1_allows) ∈ gW := gW_mem 464 (by decide +kernel) (by decide +kernel)
theorem qM_X1_113 : (Cond.methodLink RX1 113 yX1_toldOptions) ∈ gW := gW_mem 468 (by decide +kernel) (by decide +kernel)
theorem qM_X1_124 : (Cond.methodLink RX1 124 yX1_lowestAllowed) ∈ gW := gW_mem 472 (by decide +kernel) (by decide +kernel)
theorem qM_X1_79 : (Cond.methodLink RX1 79 yX1_hearAnswer) ∈ gW := gW_mem 476 (by decide +kernel) (by decide +kernel)
theorem qM_X1_89 : (Cond.methodLink RX1 89 yX1_changeAskedFor) ∈ gW := gW_mem 480 (by decide +kernel) (by decide +kernel)
theorem qM_L_119 : (Cond.methodLink RL 119 yL_lose) ∈ gW := gW_mem 484 (by decide +kernel) (by decide +kernel)
theorem qM_L_37 : (Cond.methodLink RL 37 yX4_lose) ∈ gW := gW_mem 487 (by decide +kernel) (by decide +kernel)
theorem qM_L_121 : (Cond.methodLink RL 121 yL_loop) ∈ gW := gW_mem 491 (by decide +kernel) (by decide +kernel)
theorem qM_L_40 : (Cond.methodLink RL 40 yX4_loop) ∈ gW := gW_mem 494 (by decide +kernel) (by decide +kernel)
theorem qM_L_123 : (Cond.methodLink RL 123 yL_pull) ∈ gW := gW_mem 498 (by decide +kernel) (by decide +kernel)
theorem qM_L_127 : (Cond.methodLink RL 127 yL_take) ∈ gW := gW_mem 502 (by decide +kernel) (by decide +kernel)
theorem qM_L_90 : (Cond.methodLink RL 90 yL_answer) ∈ gW := gW_mem 506 (by decide +kernel) (by decide +kernel)
theorem qM_L_180 : (Cond.methodLink RL 180 yL_bundles) ∈ gW := gW_mem 509 (by decide +kernel) (by decide +kernel)
theorem qM_L_131 : (Cond.methodLink RL 131 yL_send) ∈ gW := gW_mem 512 (by decide +kernel) (by decide +kernel)
theorem qM_L_55 : (Cond.methodLink RL 55 yX4_send) ∈ gW := gW_mem 515 (by decide +kernel) (by decide +kernel)
theorem sR_X4_115 : (RX4, 115, "the pieces are not 1 to 4") ∈ hStr := List.mem_filterMap.mpr ⟨Cond.stringRef RX4 115 "the pieces are not 1 to 4", List.mem_of_getElem? (i := 519) (by decide +kernel), rfl⟩
theorem sR_X4_120 : (RX4, 120, "there are 60 packets") ∈ hStr := List.mem_filterMap.mpr ⟨Cond.stringRef RX4 120 "there are 60 packets", List.mem_of_getElem? (i := 520) (by decide +kernel), rfl⟩
theorem qM_X4_122 : (Cond.methodLink RX4 122 yX0_addPacket) ∈ gW := gW_mem 521 (by decide +kernel) (by decide +kernel)
theorem qM_L_133 : (Cond.methodLink RL 133 yL_come) ∈ gW := gW_mem 525 (by decide +kernel) (by decide +kernel)
theorem qM_L_58 : (Cond.methodLink RL 58 yX4_come) ∈ gW := gW_mem 528 (by decide +kernel) (by decide +kernel)
theorem qM_X4_125 : (Cond.methodLink RX4 125 yX4_refuseEmptyLine) ∈ gW := gW_mem 532 (by decide +kernel) (by decide +kernel)
theorem sR_X4_158 : (RX4, 158, "there is no such line") ∈ hStr := List.mem_filterMap.mpr ⟨Cond.stringRef RX4 158 "there is no such line", List.mem_of_getElem? (i := 536) (by decide +kernel), rfl⟩
theorem qM_X4_160 : (Cond.methodLink RX4 160 yX0_hasPieceOn) ∈ gW := gW_mem 537 (by decide +kernel) (by decide +kernel)
theorem sR_X4_164 : (RX4, 164, "no piece is under way on the line") ∈ hStr := List.mem_filterMap.mpr ⟨Cond.stringRef RX4 164 "no piece is under way on the line", List.mem_of_getElem? (i := 541) (by decide +kernel), rfl⟩
theorem qM_X4_128 : (Cond.methodLink RX4 128 yX0_bring) ∈ gW := gW_mem 542 (by decide +kernel) (by decide +kernel)
theorem qM_X0_47 : (Cond.methodLink RX0 47 yX0_takePiece) ∈ gW := gW_mem 546 (by decide +kernel) (by decide +kernel)
theorem qM_X0_51 : (Cond.methodLink RX0 51 yX0_advance) ∈ gW := gW_mem 550 (by decide +kernel) (by decide +kernel)
theorem qM_X0_55 : (Cond.methodLink RX0 55 yX0_advanceFromFirst) ∈ gW := gW_mem 554 (by decide +kernel) (by decide +kernel)
theorem qM_X0_63 : (Cond.methodLink RX0 63 yX0_firstNotCome) ∈ gW := gW_mem 558 (by decide +kernel) (by decide +kernel)
theorem qM_X0_66 : (Cond.methodLink RX0 66 yX0_give) ∈ gW := gW_mem 562 (by decide +kernel) (by decide +kernel)
theorem qM_X0_59 : (Cond.methodLink RX0 59 yX0_bound) ∈ gW := gW_mem 566 (by decide +kernel) (by decide +kernel)
theorem qM_X0_70 : (Cond.methodLink RX0 70 yJ9_min_7cf53) ∈ gW := gW_mem 570 (by decide +kernel) (by decide +kernel)
theorem qM_L_135 : (Cond.methodLink RL 135 yL_drop) ∈ gW := gW_mem 571 (by decide +kernel) (by decide +kernel)
theorem qM_L_61 : (Cond.methodLink RL 61 yX4_drop) ∈ gW := gW_mem 574 (by decide +kernel) (by decide +kernel)
theorem qM_X4_131 : (Cond.methodLink RX4 131 yX0_takePiece) ∈ gW := gW_mem 578 (by decide +kernel) (by decide +kernel)
theorem qM_L_137 : (Cond.methodLink RL 137 yL_follow) ∈ gW := gW_mem 579 (by decide +kernel) (by decide +kernel)
theorem qM_L_168 : (Cond.methodLink RL 168 yL_isTold) ∈ gW := gW_mem 582 (by decide +kernel) (by decide +kernel)
theorem qM_L_141 : (Cond.methodLink RL 141 yL_stateOf) ∈ gW := gW_mem 585 (by decide +kernel) (by decide +kernel)
theorem qM_L_46 : (Cond.methodLink RL 46 yX4_stateOf) ∈ gW := gW_mem 588 (by decide +kernel) (by decide +kernel)
theorem qM_L_143 : (Cond.methodLink RL 143 yX4_requests) ∈ gW := gW_mem 592 (by decide +kernel) (by decide +kernel)
theorem qM_L_146 : (Cond.methodLink RL 146 yX4_isLooped) ∈ gW := gW_mem 596 (by decide +kernel) (by decide +kernel)
theorem qM_L_150 : (Cond.methodLink RL 150 yL_underWay) ∈ gW := gW_mem 600 (by decide +kernel) (by decide +kernel)
theorem qM_L_52 : (Cond.methodLink RL 52 yX4_underWay) ∈ gW := gW_mem 603 (by decide +kernel) (by decide +kernel)
theorem qM_L_152 : (Cond.methodLink RL 152 yX4_missed) ∈ gW := gW_mem 607 (by decide +kernel) (by decide +kernel)
theorem qM_L_155 : (Cond.methodLink RL 155 yL_asked) ∈ gW := gW_mem 611 (by decide +kernel) (by decide +kernel)
theorem qM_L_49 : (Cond.methodLink RL 49 yX4_asked) ∈ gW := gW_mem 614 (by decide +kernel) (by decide +kernel)
theorem qM_L_158 : (Cond.methodLink RL 158 yL_givenAt) ∈ gW := gW_mem 618 (by decide +kernel) (by decide +kernel)
theorem qM_L_64 : (Cond.methodLink RL 64 yX4_givenAt) ∈ gW := gW_mem 621 (by decide +kernel) (by decide +kernel)
theorem sR_X4_139 : (RX4, 139, "not so many packets were given") ∈ hStr := List.mem_filterMap.mpr ⟨Cond.stringRef RX4 139 "not so many packets were given", List.mem_of_getElem? (i := 625) (by decide +kernel), rfl⟩
theorem qM_L_160 : (Cond.methodLink RL 160 yX4_given) ∈ gW := gW_mem 626 (by decide +kernel) (by decide +kernel)
theorem qM_L_164 : (Cond.methodLink RL 164 yX4_next) ∈ gW := gW_mem 630 (by decide +kernel) (by decide +kernel)
theorem qA_long : (Cond.arrayClass .long) ∈ gW := gW_mem 634 (by decide +kernel) (by decide +kernel)
theorem qi_obj : (Cond.instanceMethod objectInit) ∈ gW := gW_mem 41 (by decide +kernel) (by decide +kernel)
theorem qc_obj : (Cond.code objectInit ⟨#[0xb1]⟩ 1 none) ∈ gW := gW_mem 42 (by decide +kernel) (by decide +kernel)
theorem qs_arraycopy : (Cond.static arraycopyName) ∈ gW := gW_mem 332 (by decide +kernel) (by decide +kernel)
theorem qi_clone : (Cond.instanceMethod ⟨"java/lang/Object", "clone", "()Ljava/lang/Object;"⟩) ∈ gW := gW_mem 346 (by decide +kernel) (by decide +kernel)
theorem ql_clone : (Cond.selects "[I" ⟨"[I", "clone", "()Ljava/lang/Object;"⟩ ⟨"java/lang/Object", "clone", "()Ljava/lang/Object;"⟩) ∈ gW := gW_mem 347 (by decide +kernel) (by decide +kernel)
theorem qm_clone : (Cond.sameMethod "[I" "java/lang/Object" "clone" "()Ljava/lang/Object;") ∈ gW := gW_mem 344 (by decide +kernel) (by decide +kernel)
theorem qc_X0_init : (Cond.code yX0_init cX0_init 2 none) ∈ gW := gW_mem 114 (by decide +kernel) (by decide +kernel)
theorem qi_X0_init : (Cond.instanceMethod yX0_init) ∈ gW := gW_mem 113 (by decide +kernel) (by decide +kernel)
theorem mI_X0_init : hMI yX0_init cX0_init 2 0 := ⟨qc_X0_init, qi_X0_init, qN_X0, rfl, ⟨by decide, by decide⟩, by decide +kernel⟩
theorem qc_X0_addPacket : (Cond.code yX0_addPacket cX0_addPacket 4 (some .int)) ∈ gW := gW_mem 524 (by decide +kernel) (by decide +kernel)
theorem qi_X0_addPacket : (Cond.instanceMethod yX0_addPacket) ∈ gW := gW_mem 522 (by decide +kernel) (by decide +kernel)
theorem ql_X0_addPacket : (Cond.selects yX0_addPacket.cls yX0_addPacket yX0_addPacket) ∈ gW := gW_mem 523 (by decide +kernel) (by decide +kernel)
theorem mV_X0_addPacket : hMV yX0_addPacket cX0_addPacket 4 (some .int) 1 := ⟨qc_X0_addPacket, qi_X0_addPacket, ql_X0_addPacket, qN_X0, ⟨by decide, by decide⟩, by decide +kernel⟩
theorem qc_X0_hasPieceOn : (Cond.code yX0_hasPieceOn cX0_hasPieceOn 2 (some .boolean)) ∈ gW := gW_mem 540 (by decide +kernel) (by decide +kernel)
theorem qi_X0_hasPieceOn : (Cond.instanceMethod yX0_hasPieceOn) ∈ gW := gW_mem 538 (by decide +kernel) (by decide +kernel)
theorem ql_X0_hasPieceOn : (Cond.selects yX0_hasPieceOn.cls yX0_hasPieceOn yX0_hasPieceOn) ∈ gW := gW_mem 539 (by decide +kernel) (by decide +kernel)
theorem mV_X0_hasPieceOn : hMV yX0_hasPieceOn cX0_hasPieceOn 2 (some .boolean) 1 := ⟨qc_X0_hasPieceOn, qi_X0_hasPieceOn, ql_X0_hasPieceOn, qN_X0, ⟨by decide, by decide⟩, by decide +kernel⟩
theorem qc_X0_takePiece : (Cond.code yX0_takePiece cX0_takePiece 3 (some .int)) ∈ gW := gW_mem 549 (by decide +kernel) (by decide +kernel)
theorem qi_X0_takePiece : (Cond.instanceMethod yX0_takePiece) ∈ gW := gW_mem 547 (by decide +kernel) (by decide +kernel)
theorem ql_X0_takePiece : (Cond.selects yX0_takePiece.cls yX0_takePiece yX0_takePiece) ∈ gW := gW_mem 548 (by decide +kernel) (by decide +kernel)
theorem mV_X0_takePiece : hMV yX0_takePiece cX0_takePiece 3 (some .int) 1 := ⟨qc_X0_takePiece, qi_X0_takePiece, ql_X0_takePiece, qN_X0, ⟨by decide, by decide⟩, by decide +kernel⟩
theorem qc_X0_bring : (Cond.code yX0_bring cX0_bring 5 (some .int)) ∈ gW := gW_mem 545 (by decide +kernel) (by decide +kernel)
theorem qi_X0_bring : (Cond.instanceMethod yX0_bring) ∈ gW := gW_mem 543 (by decide +kernel) (by decide +kernel)
theorem ql_X0_bring : (Cond.selects yX0_bring.cls yX0_bring yX0_bring) ∈ gW := gW_mem 544 (by decide +kernel) (by decide +kernel)
theorem mV_X0_bring : hMV yX0_bring cX0_bring 5 (some .int) 1 := ⟨qc_X0_bring, qi_X0_bring, ql_X0_bring, qN_X0, ⟨by decide, by decide⟩, by decide +kernel⟩
theorem qc_X0_advance : (Cond.code yX0_advance cX0_advance 3 (some .boolean)) ∈ gW := gW_mem 553 (by decide +kernel) (by decide +kernel)
theorem qi_X0_advance : (Cond.instanceMethod yX0_advance) ∈ gW := gW_mem 552 (by decide +kernel) (by decide +kernel)
theorem ql_X0_advance : (Cond.selects yX0_advance.cls yX0_advance yX0_advance) ∈ gW := gW_mem 15 (by decide +kernel) (by decide +kernel)
theorem mV_X0_advance : hMV yX0_advance cX0_advance 3 (some .boolean) 0 := ⟨qc_X0_advance, qi_X0_advance, ql_X0_advance, qN_X0, ⟨by decide, by decide⟩, by decide +kernel⟩
theorem qc_X0_advanceFromFirst : (Cond.code yX0_advanceFromFirst cX0_advanceFromFirst 3 (some .boolean)) ∈ gW := gW_mem 557 (by decide +kernel) (by decide +kernel)
theorem qi_X0_advanceFromFirst : (Cond.instanceMethod yX0_advanceFromFirst) ∈ gW := gW_mem 556 (by decide +kernel) (by decide +kernel)
theorem ql_X0_advanceFromFirst : (Cond.selects yX0_advanceFromFirst.cls yX0_advanceFromFirst yX0_advanceFromFirst) ∈ gW := gW_mem 16 (by decide +kernel) (by decide +kernel)
theorem mV_X0_advanceFromFirst : hMV yX0_advanceFromFirst cX0_advanceFromFirst 3 (some .boolean) 1 := ⟨qc_X0_advanceFromFirst, qi_X0_advanceFromFirst, ql_X0_advanceFromFirst, qN_X0, ⟨by decide, by decide⟩, by decide +kernel⟩
theorem qc_X0_give : (Cond.code yX0_give cX0_give 2 none) ∈ gW := gW_mem 565 (by decide +kernel) (by decide +kernel)
theorem qi_X0_give : (Cond.instanceMethod yX0_give) ∈ gW := gW_mem 564 (by decide +kernel) (by decide +kernel)
theorem ql_X0_give : (Cond.selects yX0_give.cls yX0_give yX0_give) ∈ gW := gW_mem 18 (by decide +kernel) (by decide +kernel)
theorem mV_X0_give : hMV yX0_give cX0_give 2 none 1 := ⟨qc_X0_give, qi_X0_give, ql_X0_give, qN_X0, ⟨by decide, by decide⟩, by decide +kernel⟩
theorem qc_X0_firstNotCome : (Cond.code yX0_firstNotCome cX0_firstNotCome 4 (some .int)) ∈ gW := gW_mem 561 (by decide +kernel) (by decide +kernel)
theorem qi_X0_firstNotCome : (Cond.instanceMethod yX0_firstNotCome) ∈ gW := gW_mem 560 (by decide +kernel) (by decide +kernel)
theorem ql_X0_firstNotCome : (Cond.selects yX0_firstNotCome.cls yX0_firstNotCome yX0_firstNotCome) ∈ gW := gW_mem 17 (by decide +kernel) (by decide +kernel)
theorem mV_X0_firstNotCome : hMV yX0_firstNotCome cX0_firstNotCome 4 (some .int) 1 := ⟨qc_X0_firstNotCome, qi_X0_firstNotCome, ql_X0_firstNotCome, qN_X0, ⟨by decide, by decide⟩, by decide +kernel⟩
theorem qc_X0_bound : (Cond.code yX0_bound cX0_bound 3 (some .int)) ∈ gW := gW_mem 569 (by decide +kernel) (by decide +kernel)
theorem qi_X0_bound : (Cond.instanceMethod yX0_bound) ∈ gW := gW_mem 568 (by decide +kernel) (by decide +kernel)
theorem ql_X0_bound : (Cond.selects yX0_bound.cls yX0_bound yX0_bound) ∈ gW := gW_mem 19 (by decide +kernel) (by decide +kernel)
theorem mV_X0_bound : hMV yX0_bound cX0_bound 3 (some .int) 0 := ⟨qc_X0_bound, qi_X0_bound, ql_X0_bound, qN_X0, ⟨by decide, by decide⟩, by decide +kernel⟩
theorem qc_X1_init : (Cond.code yX1_init cX1_init 2 none) ∈ gW := gW_mem 47 (by decide +kernel) (by decide +kernel)
theorem qi_X1_init : (Cond.instanceMethod yX1_init) ∈ gW := gW_mem 46 (by decide +kernel) (by decide +kernel)
theorem mI_X1_init : hMI yX1_init cX1_init 2 1 := ⟨qc_X1_init, qi_X1_init, qN_X1, rfl, ⟨by decide, by decide⟩, by decide +kernel⟩
theorem qc_X1_changeWish : (Cond.code yX1_changeWish cX1_changeWish 4 (some .int)) ∈ gW := gW_mem 274 (by decide +kernel) (by decide +kernel)
theorem qi_X1_changeWish : (Cond.instanceMethod yX1_changeWish) ∈ gW := gW_mem 272 (by decide +kernel) (by decide +kernel)
theorem ql_X1_changeWish : (Cond.selects yX1_changeWish.cls yX1_changeWish yX1_changeWish) ∈ gW := gW_mem 273 (by decide +kernel) (by decide +kernel)
theorem mV_X1_changeWish : hMV yX1_changeWish cX1_changeWish 4 (some .int) 2 := ⟨qc_X1_changeWish, qi_X1_changeWish, ql_X1_changeWish, qN_X1, ⟨by decide, by decide⟩, by decide +kernel⟩
theorem qc_X1_changeAllowed : (Cond.code yX1_changeAllowed cX1_changeAllowed 4 (some .int)) ∈ gW := gW_mem 286 (by decide +kernel) (by decide +kernel)
theorem qi_X1_changeAllowed : (Cond.instanceMethod yX1_changeAllowed) ∈ gW := gW_mem 284 (by decide +kernel) (by decide +kernel)
theorem ql_X1_changeAllowed : (Cond.selects yX1_changeAllowed.cls yX1_changeAllowed yX1_changeAllowed) ∈ gW := gW_mem 285 (by decide +kernel) (by decide +kernel)
theorem mV_X1_changeAllowed : hMV yX1_changeAllowed cX1_changeAllowed 4 (some .int) 2 := ⟨qc_X1_changeAllowed, qi_X1_changeAllowed, ql_X1_changeAllowed, qN_X1, ⟨by decide, by decide⟩, by decide +kernel⟩
theorem qc_X1_changeMagic : (Cond.code yX1_changeMagic cX1_changeMagic 3 (some .int)) ∈ gW := gW_mem 302 (by decide +kernel) (by decide +kernel)
theorem qi_X1_changeMagic : (Cond.instanceMethod yX1_changeMagic) ∈ gW := gW_mem 300 (by decide +kernel) (by decide +kernel)
theorem ql_X1_changeMagic : (Cond.selects yX1_changeMagic.cls yX1_changeMagic yX1_changeMagic) ∈ gW := gW_mem 301 (by decide +kernel) (by decide +kernel)
theorem mV_X1_changeMagic : hMV yX1_changeMagic cX1_changeMagic 3 (some .int) 1 := ⟨qc_X1_changeMagic, qi_X1_changeMagic, ql_X1_changeMagic, qN_X1, ⟨by decide, by decide⟩, by decide +kernel⟩
theorem qc_X1_begin : (Cond.code yX1_begin cX1_begin 1 (some .int)) ∈ gW := gW_mem 330 (by decide +kernel) (by decide +kernel)
theorem qi_X1_begin : (Cond.instanceMethod yX1_begin) ∈ gW := gW_mem 328 (by decide +kernel) (by decide +kernel)
theorem ql_X1_begin : (Cond.selects yX1_begin.cls yX1_begin yX1_begin) ∈ gW := gW_mem 329 (by decide +kernel) (by decide +kernel)
theorem mV_X1_begin : hMV yX1_begin cX1_begin 1 (some .int) 0 := ⟨qc_X1_begin, qi_X1_begin, ql_X1_begin, qN_X1, ⟨by decide, by decide⟩, by decide +kernel⟩
theorem qc_X1_finish : (Cond.code yX1_finish cX1_finish 2 (some .int)) ∈ gW := gW_mem 402 (by decide +kernel) (by decide +kernel)
theorem qi_X1_finish : (Cond.instanceMethod yX1_finish) ∈ gW := gW_mem 400 (by decide +kernel) (by decide +kernel)
theorem ql_X1_finish : (Cond.selects yX1_finish.cls yX1_finish yX1_finish) ∈ gW := gW_mem 401 (by decide +kernel) (by decide +kernel)
theorem mV_X1_finish : hMV yX1_finish cX1_finish 2 (some .int) 0 := ⟨qc_X1_finish, qi_X1_finish, ql_X1_finish, qN_X1, ⟨by decide, by decide⟩, by decide +kernel⟩
theorem qc_X1_tick : (Cond.code yX1_tick cX1_tick 1 (some .boolean)) ∈ gW := gW_mem 424 (by decide +kernel) (by decide +kernel)
theorem qi_X1_tick : (Cond.instanceMethod yX1_tick) ∈ gW := gW_mem 422 (by decide +kernel) (by decide +kernel)
theorem ql_X1_tick : (Cond.selects yX1_tick.cls yX1_tick yX1_tick) ∈ gW := gW_mem 423 (by decide +kernel) (by decide +kernel)
theorem mV_X1_tick : hMV yX1_tick cX1_tick 1 (some .boolean) 0 := ⟨qc_X1_tick, qi_X1_tick, ql_X1_tick, qN_X1, ⟨by decide, by decide⟩, by decide +kernel⟩
theorem qc_X1_hear : (Cond.code yX1_hear cX1_hear 2 none) ∈ gW := gW_mem 443 (by decide +kernel) (by decide +kernel)
theorem qi_X1_hear : (Cond.instanceMethod yX1_hear) ∈ gW := gW_mem 441 (by decide +kernel) (by decide +kernel)
theorem ql_X1_hear : (Cond.selects yX1_hear.cls yX1_hear yX1_hear) ∈ gW := gW_mem 442 (by decide +kernel) (by decide +kernel)
theorem mV_X1_hear : hMV yX1_hear cX1_hear 2 none 1 := ⟨qc_X1_hear, qi_X1_hear, ql_X1_hear, qN_X1, ⟨by decide, by decide⟩, by decide +kernel⟩
theorem qc_X1_hearRequest : (Cond.code yX1_hearRequest cX1_hearRequest 2 none) ∈ gW := gW_mem 447 (by decide +kernel) (by decide +kernel)
theorem qi_X1_hearRequest : (Cond.instanceMethod yX1_hearRequest) ∈ gW := gW_mem 446 (by decide +kernel) (by decide +kernel)
theorem ql_X1_hearRequest : (Cond.selects yX1_hearRequest.cls yX1_hearRequest yX1_hearRequest) ∈ gW := gW_mem 4 (by decide +kernel) (by decide +kernel)
theorem mV_X1_hearRequest : hMV yX1_hearRequest cX1_hearRequest 2 none 1 := ⟨qc_X1_hearRequest, qi_X1_hearRequest, ql_X1_hearRequest, qN_X1, ⟨by decide, by decide⟩, by decide +kernel⟩
theorem qc_X1_hearAnswer : (Cond.code yX1_hearAnswer cX1_hearAnswer 3 none) ∈ gW := gW_mem 479 (by decide +kernel) (by decide +kernel)
theorem qi_X1_hearAnswer : (Cond.instanceMethod yX1_hearAnswer) ∈ gW := gW_mem 478 (by decide +kernel) (by decide +kernel)
theorem ql_X1_hearAnswer : (Cond.selects yX1_hearAnswer.cls yX1_hearAnswer yX1_hearAnswer) ∈ gW := gW_mem 12 (by decide +kernel) (by decide +kernel)
theorem mV_X1_hearAnswer : hMV yX1_hearAnswer cX1_hearAnswer 3 none 1 := ⟨qc_X1_hearAnswer, qi_X1_hearAnswer, ql_X1_hearAnswer, qN_X1, ⟨by decide, by decide⟩, by decide +kernel⟩
theorem qc_X1_changeAskedFor : (Cond.code yX1_changeAskedFor cX1_changeAskedFor 3 none) ∈ gW := gW_mem 483 (by decide +kernel) (by decide +kernel)
theorem qi_X1_changeAskedFor : (Cond.instanceMethod yX1_changeAskedFor) ∈ gW := gW_mem 482 (by decide +kernel) (by decide +kernel)
theorem ql_X1_changeAskedFor : (Cond.selects yX1_changeAskedFor.cls yX1_changeAskedFor yX1_changeAskedFor) ∈ gW := gW_mem 13 (by decide +kernel) (by decide +kernel)
theorem mV_X1_changeAskedFor : hMV yX1_changeAskedFor cX1_changeAskedFor 3 none 1 := ⟨qc_X1_changeAskedFor, qi_X1_changeAskedFor, ql_X1_changeAskedFor, qN_X1, ⟨by decide, by decide⟩, by decide +kernel⟩
theorem qc_X1_ask : (Cond.code yX1_ask cX1_ask 1 (some .boolean)) ∈ gW := gW_mem 337 (by decide +kernel) (by decide +kernel)
theorem qi_X1_ask : (Cond.instanceMethod yX1_ask) ∈ gW := gW_mem 336 (by decide +kernel) (by decide +kernel)
theorem ql_X1_ask : (Cond.selects yX1_ask.cls yX1_ask yX1_ask) ∈ gW := gW_mem 2 (by decide +kernel) (by decide +kernel)
theorem mV_X1_ask : hMV yX1_ask cX1_ask 1 (some .boolean) 0 := ⟨qc_X1_ask, qi_X1_ask, ql_X1_ask, qN_X1, ⟨by decide, by decide⟩, by decide +kernel⟩
theorem qc_X1_sendStop : (Cond.code yX1_sendStop cX1_sendStop 1 none) ∈ gW := gW_mem 406 (by decide +kernel) (by decide +kernel)
theorem qi_X1_sendStop : (Cond.instanceMethod yX1_sendStop) ∈ gW := gW_mem 405 (by decide +kernel) (by decide +kernel)
theorem ql_X1_sendStop : (Cond.selects yX1_sendStop.cls yX1_sendStop yX1_sendStop) ∈ gW := gW_mem 3 (by decide +kernel) (by decide +kernel)
theorem mV_X1_sendStop : hMV yX1_sendStop cX1_sendStop 1 none 0 := ⟨qc_X1_sendStop, qi_X1_sendStop, ql_X1_sendStop, qN_X1, ⟨by decide, by decide⟩, by decide +kernel⟩
theorem qc_X1_answer : (Cond.code yX1_answer cX1_answer 3 none) ∈ gW := gW_mem 451 (by decide +kernel) (by decide +kernel)
theorem qi_X1_answer : (Cond.instanceMethod yX1_answer) ∈ gW := gW_mem 450 (by decide +kernel) (by decide +kernel)
theorem ql_X1_answer : (Cond.selects yX1_answer.cls yX1_answer yX1_answer) ∈ gW := gW_mem 5 (by decide +kernel) (by decide +kernel)
theorem mV_X1_answer : hMV yX1_answer cX1_answer 3 none 1 := ⟨qc_X1_answer, qi_X1_answer, ql_X1_answer, qN_X1, ⟨by decide, by decide⟩, by decide +kernel⟩
theorem qc_X1_kindOfAnswer : (Cond.code yX1_kindOfAnswer cX1_kindOfAnswer 4 (some .int)) ∈ gW := gW_mem 455 (by decide +kernel) (by decide +kernel)
theorem qi_X1_kindOfAnswer : (Cond.instanceMethod yX1_kindOfAnswer) ∈ gW := gW_mem 454 (by decide +kernel) (by decide +kernel)
theorem ql_X1_kindOfAnswer : (Cond.selects yX1_kindOfAnswer.cls yX1_kindOfAnswer yX1_kindOfAnswer) ∈ gW := gW_mem 6 (by decide +kernel) (by decide +kernel)
theorem mV_X1_kindOfAnswer : hMV yX1_kindOfAnswer cX1_kindOfAnswer 4 (some .int) 1 := ⟨qc_X1_kindOfAnswer, qi_X1_kindOfAnswer, ql_X1_kindOfAnswer, qN_X1, ⟨by decide, by decide⟩, by decide +kernel⟩
theorem qc_X1_toldOptions : (Cond.code yX1_toldOptions cX1_toldOptions 5 (some (.array .int))) ∈ gW := gW_mem 471 (by decide +kernel) (by decide +kernel)
theorem qi_X1_toldOptions : (Cond.instanceMethod yX1_toldOptions) ∈ gW := gW_mem 470 (by decide +kernel) (by decide +kernel)
theorem ql_X1_toldOptions : (Cond.selects yX1_toldOptions.cls yX1_toldOptions yX1_toldOptions) ∈ gW := gW_mem 10 (by decide +kernel) (by decide +kernel)
theorem mV_X1_toldOptions : hMV yX1_toldOptions cX1_toldOptions 5 (some (.array .int)) 2 := ⟨qc_X1_toldOptions, qi_X1_toldOptions, ql_X1_toldOptions, qN_X1, ⟨by decide, by decide⟩, by decide +kernel⟩
theorem qc_X1_isUnknown : (Cond.code yX1_isUnknown cX1_isUnknown 3 (some .boolean)) ∈ gW := gW_mem 459 (by decide +kernel) (by decide +kernel)
theorem qi_X1_isUnknown : (Cond.instanceMethod yX1_isUnknown) ∈ gW := gW_mem 458 (by decide +kernel) (by decide +kernel)
theorem ql_X1_isUnknown : (Cond.selects yX1_isUnknown.cls yX1_isUnknown yX1_isUnknown) ∈ gW := gW_mem 7 (by decide +kernel) (by decide +kernel)
theorem mV_X1_isUnknown : hMV yX1_isUnknown cX1_isUnknown 3 (some .boolean) 2 := ⟨qc_X1_isUnknown, qi_X1_isUnknown, ql_X1_isUnknown, qN_X1, ⟨by decide, by decide⟩, by decide +kernel⟩
theorem qc_X1_isRefused : (Cond.code yX1_isRefused cX1_isRefused 3 (some .boolean)) ∈ gW := gW_mem 463 (by decide +kernel) (by decide +kernel)
theorem qi_X1_isRefused : (Cond.instanceMethod yX1_isRefused) ∈ gW := gW_mem 462 (by decide +kernel) (by decide +kernel)
theorem ql_X1_isRefused : (Cond.selects yX1_isRefused.cls yX1_isRefused yX1_isRefused) ∈ gW := gW_mem 8 (by decide +kernel) (by decide +kernel)
theorem mV_X1_isRefused : hMV yX1_isRefused cX1_isRefused 3 (some .boolean) 2 := ⟨qc_X1_isRefused, qi_X1_isRefused, ql_X1_isRefused, qN_X1, ⟨by decide, by decide⟩, by decide +kernel⟩
theorem qc_X1_allows : (Cond.code yX1_allows cX1_allows 3 (some .boolean)) ∈ gW := gW_mem 467 (by decide +kernel) (by decide +kernel)
theorem qi_X1_allows : (Cond.instanceMethod yX1_allows) ∈ gW := gW_mem 466 (by decide +kernel) (by decide +kernel)
theorem ql_X1_allows : (Cond.selects yX1_allows.cls yX1_allows yX1_allows) ∈ gW := gW_mem 9 (by decide +kernel) (by decide +kernel)
theorem mV_X1_allows : hMV yX1_allows cX1_allows 3 (some .boolean) 2 := ⟨qc_X1_allows, qi_X1_allows, ql_X1_allows, qN_X1, ⟨by decide, by decide⟩, by decide +kernel⟩
theorem qc_X1_lowestAllowed : (Cond.code yX1_lowestAllowed cX1_lowestAllowed 3 (some .int)) ∈ gW := gW_mem 475 (by decide +kernel) (by decide +kernel)
theorem qi_X1_lowestAllowed : (Cond.instanceMethod yX1_lowestAllowed) ∈ gW := gW_mem 474 (by decide +kernel) (by decide +kernel)
theorem ql_X1_lowestAllowed : (Cond.selects yX1_lowestAllowed.cls yX1_lowestAllowed yX1_lowestAllowed) ∈ gW := gW_mem 11 (by decide +kernel) (by decide +kernel)
theorem mV_X1_lowestAllowed : hMV yX1_lowestAllowed cX1_lowestAllowed 3 (some .int) 1 := ⟨qc_X1_lowestAllowed, qi_X1_lowestAllowed, ql_X1_lowestAllowed, qN_X1, ⟨by decide, by decide⟩, by decide +kernel⟩
theorem qc_X1_tellNothing : (Cond.code yX1_tellNothing cX1_tellNothing 1 (some (.array .int))) ∈ gW := gW_mem 409 (by decide +kernel) (by decide +kernel)
theorem qs_X1_tellNothing : (Cond.static yX1_tellNothing) ∈ gW := gW_mem 408 (by decide +kernel) (by decide +kernel)
theorem mS_X1_tellNothing : hMS yX1_tellNothing cX1_tellNothing 1 (some (.array .int)) 0 := ⟨qc_X1_tellNothing, qs_X1_tellNothing, qN_X1, ⟨by decide, by decide⟩, by decide +kernel⟩
theorem qc_X2_init : (Cond.code yX2_init cX2_init 5 none) ∈ gW := gW_mem 356 (by decide +kernel) (by decide +kernel)
theorem qi_X2_init : (Cond.instanceMethod yX2_init) ∈ gW := gW_mem 355 (by decide +kernel) (by decide +kernel)
theorem mI_X2_init : hMI yX2_init cX2_init 5 4 := ⟨qc_X2_init, qi_X2_init, qN_X2, rfl, ⟨by decide, by decide⟩, by decide +kernel⟩
theorem qc_X3_init : (Cond.code yX3_init cX3_init 1 none) ∈ gW := gW_mem 53 (by decide +kernel) (by decide +kernel)
theorem qi_X3_init : (Cond.instanceMethod yX3_init) ∈ gW := gW_mem 52 (by decide +kernel) (by decide +kernel)
theorem mI_X3_init : hMI yX3_init cX3_init 1 0 := ⟨qc_X3_init, qi_X3_init, qN_X3, rfl, ⟨by decide, by decide⟩, by decide +kernel⟩
theorem qc_X3_put : (Cond.code yX3_put cX3_put 2 none) ∈ gW := gW_mem 382 (by decide +kernel) (by decide +kernel)
theorem qi_X3_put : (Cond.instanceMethod yX3_put) ∈ gW := gW_mem 380 (by decide +kernel) (by decide +kernel)
theorem ql_X3_put : (Cond.selects yX3_put.cls yX3_put yX3_put) ∈ gW := gW_mem 381 (by decide +kernel) (by decide +kernel)
theorem mV_X3_put : hMV yX3_put cX3_put 2 none 1 := ⟨qc_X3_put, qi_X3_put, ql_X3_put, qN_X3, ⟨by decide, by decide⟩, by decide +kernel⟩
theorem qc_X3_takeFirst : (Cond.code yX3_takeFirst cX3_takeFirst 2 (some (.object "OptionLine$Frame"))) ∈ gW := gW_mem 438 (by decide +kernel) (by decide +kernel)
theorem qi_X3_takeFirst : (Cond.instanceMethod yX3_takeFirst) ∈ gW := gW_mem 436 (by decide +kernel) (by decide +kernel)
theorem ql_X3_takeFirst : (Cond.selects yX3_takeFirst.cls yX3_takeFirst yX3_takeFirst) ∈ gW := gW_mem 437 (by decide +kernel) (by decide +kernel)
theorem mV_X3_takeFirst : hMV yX3_takeFirst cX3_takeFirst 2 (some (.object "OptionLine$Frame")) 0 := ⟨qc_X3_takeFirst, qi_X3_takeFirst, ql_X3_takeFirst, qN_X3, ⟨by decide, by decide⟩, by decide +kernel⟩
theorem qc_X4_init : (Cond.code yX4_init cX4_init 1 none) ∈ gW := gW_mem 39 (by decide +kernel) (by decide +kernel)
theorem qi_X4_init : (Cond.instanceMethod yX4_init) ∈ gW := gW_mem 38 (by decide +kernel) (by decide +kernel)
theorem mI_X4_init : hMI yX4_init cX4_init 1 0 := ⟨qc_X4_init, qi_X4_init, qN_X4, rfl, ⟨by decide, by decide⟩, by decide +kernel⟩
theorem qc_X4_wish : (Cond.code yX4_wish cX4_wish 5 (some .int)) ∈ gW := gW_mem 178 (by decide +kernel) (by decide +kernel)
theorem qi_X4_wish : (Cond.instanceMethod yX4_wish) ∈ gW := gW_mem 176 (by decide +kernel) (by decide +kernel)
theorem ql_X4_wish : (Cond.selects yX4_wish.cls yX4_wish yX4_wish) ∈ gW := gW_mem 177 (by decide +kernel) (by decide +kernel)
theorem mV_X4_wish : hMV yX4_wish cX4_wish 5 (some .int) 3 := ⟨qc_X4_wish, qi_X4_wish, ql_X4_wish, qN_X4, ⟨by decide, by decide⟩, by decide +kernel⟩
theorem qc_X4_allow : (Cond.code yX4_allow cX4_allow 5 (some .int)) ∈ gW := gW_mem 281 (by decide +kernel) (by decide +kernel)
theorem qi_X4_allow : (Cond.instanceMethod yX4_allow) ∈ gW := gW_mem 279 (by decide +kernel) (by decide +kernel)
theorem ql_X4_allow : (Cond.selects yX4_allow.cls yX4_allow yX4_allow) ∈ gW := gW_mem 280 (by decide +kernel) (by decide +kernel)
theorem mV_X4_allow : hMV yX4_allow cX4_allow 5 (some .int) 3 := ⟨qc_X4_allow, qi_X4_allow, ql_X4_allow, qN_X4, ⟨by decide, by decide⟩, by decide +kernel⟩
theorem qc_X4_setMagic : (Cond.code yX4_setMagic cX4_setMagic 3 (some .int)) ∈ gW := gW_mem 298 (by decide +kernel) (by decide +kernel)
theorem qi_X4_setMagic : (Cond.instanceMethod yX4_setMagic) ∈ gW := gW_mem 296 (by decide +kernel) (by decide +kernel)
theorem ql_X4_setMagic : (Cond.selects yX4_setMagic.cls yX4_setMagic yX4_setMagic) ∈ gW := gW_mem 297 (by decide +kernel) (by decide +kernel)
theorem mV_X4_setMagic : hMV yX4_setMagic cX4_setMagic 3 (some .int) 2 := ⟨qc_X4_setMagic, qi_X4_setMagic, ql_X4_setMagic, qN_X4, ⟨by decide, by decide⟩, by decide +kernel⟩
theorem qc_X4_open : (Cond.code yX4_open cX4_open 3 (some .int)) ∈ gW := gW_mem 310 (by decide +kernel) (by decide +kernel)
theorem qi_X4_open : (Cond.instanceMethod yX4_open) ∈ gW := gW_mem 308 (by decide +kernel) (by decide +kernel)
theorem ql_X4_open : (Cond.selects yX4_open.cls yX4_open yX4_open) ∈ gW := gW_mem 309 (by decide +kernel) (by decide +kernel)
theorem mV_X4_open : hMV yX4_open cX4_open 3 (some .int) 1 := ⟨qc_X4_open, qi_X4_open, ql_X4_open, qN_X4, ⟨by decide, by decide⟩, by decide +kernel⟩
theorem qc_X4_close : (Cond.code yX4_close cX4_close 3 (some .int)) ∈ gW := gW_mem 397 (by decide +kernel) (by decide +kernel)
theorem qi_X4_close : (Cond.instanceMethod yX4_close) ∈ gW := gW_mem 395 (by decide +kernel) (by decide +kernel)
theorem ql_X4_close : (Cond.selects yX4_close.cls yX4_close yX4_close) ∈ gW := gW_mem 396 (by decide +kernel) (by decide +kernel)
theorem mV_X4_close : hMV yX4_close cX4_close 3 (some .int) 1 := ⟨qc_X4_close, qi_X4_close, ql_X4_close, qN_X4, ⟨by decide, by decide⟩, by decide +kernel⟩
theorem qc_X4_deliver : (Cond.code yX4_deliver cX4_deliver 3 (some .int)) ∈ gW := gW_mem 431 (by decide +kernel) (by decide +kernel)
theorem qi_X4_deliver : (Cond.instanceMethod yX4_deliver) ∈ gW := gW_mem 429 (by decide +kernel) (by decide +kernel)
theorem ql_X4_deliver : (Cond.selects yX4_deliver.cls yX4_deliver yX4_deliver) ∈ gW := gW_mem 430 (by decide +kernel) (by decide +kernel)
theorem mV_X4_deliver : hMV yX4_deliver cX4_deliver 3 (some .int) 1 := ⟨qc_X4_deliver, qi_X4_deliver, ql_X4_deliver, qN_X4, ⟨by decide, by decide⟩, by decide +kernel⟩
theorem qc_X4_lose : (Cond.code yX4_lose cX4_lose 4 (some .int)) ∈ gW := gW_mem 490 (by decide +kernel) (by decide +kernel)
theorem qi_X4_lose : (Cond.instanceMethod yX4_lose) ∈ gW := gW_mem 488 (by decide +kernel) (by decide +kernel)
theorem ql_X4_lose : (Cond.selects yX4_lose.cls yX4_lose yX4_lose) ∈ gW := gW_mem 489 (by decide +kernel) (by decide +kernel)
theorem mV_X4_lose : hMV yX4_lose cX4_lose 4 (some .int) 1 := ⟨qc_X4_lose, qi_X4_lose, ql_X4_lose, qN_X4, ⟨by decide, by decide⟩, by decide +kernel⟩
theorem qc_X4_loop : (Cond.code yX4_loop cX4_loop 4 (some .int)) ∈ gW := gW_mem 497 (by decide +kernel) (by decide +kernel)
theorem qi_X4_loop : (Cond.instanceMethod yX4_loop) ∈ gW := gW_mem 495 (by decide +kernel) (by decide +kernel)
theorem ql_X4_loop : (Cond.selects yX4_loop.cls yX4_loop yX4_loop) ∈ gW := gW_mem 496 (by decide +kernel) (by decide +kernel)
theorem mV_X4_loop : hMV yX4_loop cX4_loop 4 (some .int) 1 := ⟨qc_X4_loop, qi_X4_loop, ql_X4_loop, qN_X4, ⟨by decide, by decide⟩, by decide +kernel⟩
theorem qc_X4_pass : (Cond.code yX4_pass cX4_pass 4 (some .int)) ∈ gW := gW_mem 419 (by decide +kernel) (by decide +kernel)
theorem qi_X4_pass : (Cond.instanceMethod yX4_pass) ∈ gW := gW_mem 417 (by decide +kernel) (by decide +kernel)
theorem ql_X4_pass : (Cond.selects yX4_pass.cls yX4_pass yX4_pass) ∈ gW := gW_mem 418 (by decide +kernel) (by decide +kernel)
theorem mV_X4_pass : hMV yX4_pass cX4_pass 4 (some .int) 1 := ⟨qc_X4_pass, qi_X4_pass, ql_X4_pass, qN_X4, ⟨by decide, by decide⟩, by decide +kernel⟩
theorem qc_X4_stateOf : (Cond.code yX4_stateOf cX4_stateOf 2 (some .int)) ∈ gW := gW_mem 591 (by decide +kernel) (by decide +kernel)
theorem qi_X4_stateOf : (Cond.instanceMethod yX4_stateOf) ∈ gW := gW_mem 589 (by decide +kernel) (by decide +kernel)
theorem ql_X4_stateOf : (Cond.selects yX4_stateOf.cls yX4_stateOf yX4_stateOf) ∈ gW := gW_mem 590 (by decide +kernel) (by decide +kernel)
theorem mV_X4_stateOf : hMV yX4_stateOf cX4_stateOf 2 (some .int) 1 := ⟨qc_X4_stateOf, qi_X4_stateOf, ql_X4_stateOf, qN_X4, ⟨by decide, by decide⟩, by decide +kernel⟩
theorem qc_X4_asked : (Cond.code yX4_asked cX4_asked 4 (some .int)) ∈ gW := gW_mem 617 (by decide +kernel) (by decide +kernel)
theorem qi_X4_asked : (Cond.instanceMethod yX4_asked) ∈ gW := gW_mem 615 (by decide +kernel) (by decide +kernel)
theorem ql_X4_asked : (Cond.selects yX4_asked.cls yX4_asked yX4_asked) ∈ gW := gW_mem 616 (by decide +kernel) (by decide +kernel)
theorem mV_X4_asked : hMV yX4_asked cX4_asked 4 (some .int) 2 := ⟨qc_X4_asked, qi_X4_asked, ql_X4_asked, qN_X4, ⟨by decide, by decide⟩, by decide +kernel⟩
theorem qc_X4_requests : (Cond.code yX4_requests cX4_requests 2 (some .int)) ∈ gW := gW_mem 595 (by decide +kernel) (by decide +kernel)
theorem qi_X4_requests : (Cond.instanceMethod yX4_requests) ∈ gW := gW_mem 593 (by decide +kernel) (by decide +kernel)
theorem ql_X4_requests : (Cond.selects yX4_requests.cls yX4_requests yX4_requests) ∈ gW := gW_mem 594 (by decide +kernel) (by decide +kernel)
theorem mV_X4_requests : hMV yX4_requests cX4_requests 2 (some .int) 1 := ⟨qc_X4_requests, qi_X4_requests, ql_X4_requests, qN_X4, ⟨by decide, by decide⟩, by decide +kernel⟩
theorem qc_X4_isLooped : (Cond.code yX4_isLooped cX4_isLooped 2 (some .boolean)) ∈ gW := gW_mem 599 (by decide +kernel) (by decide +kernel)
theorem qi_X4_isLooped : (Cond.instanceMethod yX4_isLooped) ∈ gW := gW_mem 597 (by decide +kernel) (by decide +kernel)
theorem ql_X4_isLooped : (Cond.selects yX4_isLooped.cls yX4_isLooped yX4_isLooped) ∈ gW := gW_mem 598 (by decide +kernel) (by decide +kernel)
theorem mV_X4_isLooped : hMV yX4_isLooped cX4_isLooped 2 (some .boolean) 1 := ⟨qc_X4_isLooped, qi_X4_isLooped, ql_X4_isLooped, qN_X4, ⟨by decide, by decide⟩, by decide +kernel⟩
theorem qc_X4_underWay : (Cond.code yX4_underWay cX4_underWay 2 (some .int)) ∈ gW := gW_mem 606 (by decide +kernel) (by decide +kernel)
theorem qi_X4_underWay : (Cond.instanceMethod yX4_underWay) ∈ gW := gW_mem 604 (by decide +kernel) (by decide +kernel)
theorem ql_X4_underWay : (Cond.selects yX4_underWay.cls yX4_underWay yX4_underWay) ∈ gW := gW_mem 605 (by decide +kernel) (by decide +kernel)
theorem mV_X4_underWay : hMV yX4_underWay cX4_underWay 2 (some .int) 1 := ⟨qc_X4_underWay, qi_X4_underWay, ql_X4_underWay, qN_X4, ⟨by decide, by decide⟩, by decide +kernel⟩
theorem qc_X4_missed : (Cond.code yX4_missed cX4_missed 2 (some .int)) ∈ gW := gW_mem 610 (by decide +kernel) (by decide +kernel)
theorem qi_X4_missed : (Cond.instanceMethod yX4_missed) ∈ gW := gW_mem 608 (by decide +kernel) (by decide +kernel)
theorem ql_X4_missed : (Cond.selects yX4_missed.cls yX4_missed yX4_missed) ∈ gW := gW_mem 609 (by decide +kernel) (by decide +kernel)
theorem mV_X4_missed : hMV yX4_missed cX4_missed 2 (some .int) 1 := ⟨qc_X4_missed, qi_X4_missed, ql_X4_missed, qN_X4, ⟨by decide, by decide⟩, by decide +kernel⟩
theorem qc_X4_send : (Cond.code yX4_send cX4_send 2 (some .int)) ∈ gW := gW_mem 518 (by decide +kernel) (by decide +kernel)
theorem qi_X4_send : (Cond.instanceMethod yX4_send) ∈ gW := gW_mem 516 (by decide +kernel) (by decide +kernel)
theorem ql_X4_send : (Cond.selects yX4_send.cls yX4_send yX4_send) ∈ gW := gW_mem 517 (by decide +kernel) (by decide +kernel)
theorem mV_X4_send : hMV yX4_send cX4_send 2 (some .int) 1 := ⟨qc_X4_send, qi_X4_send, ql_X4_send, qN_X4, ⟨by decide, by decide⟩, by decide +kernel⟩
theorem qc_X4_come : (Cond.code yX4_come cX4_come 2 (some .int)) ∈ gW := gW_mem 531 (by decide +kernel) (by decide +kernel)
theorem qi_X4_come : (Cond.instanceMethod yX4_come) ∈ gW := gW_mem 529 (by decide +kernel) (by decide +kernel)
theorem ql_X4_come : (Cond.selects yX4_come.cls yX4_come yX4_come) ∈ gW := gW_mem 530 (by decide +kernel) (by decide +kernel)
theorem mV_X4_come : hMV yX4_come cX4_come 2 (some .int) 1 := ⟨qc_X4_come, qi_X4_come, ql_X4_come, qN_X4, ⟨by decide, by decide⟩, by decide +kernel⟩
theorem qc_X4_drop : (Cond.code yX4_drop cX4_drop 2 (some .int)) ∈ gW := gW_mem 577 (by decide +kernel) (by decide +kernel)
theorem qi_X4_drop : (Cond.instanceMethod yX4_drop) ∈ gW := gW_mem 575 (by decide +kernel) (by decide +kernel)
theorem ql_X4_drop : (Cond.selects yX4_drop.cls yX4_drop yX4_drop) ∈ gW := gW_mem 576 (by decide +kernel) (by decide +kernel)
theorem mV_X4_drop : hMV yX4_drop cX4_drop 2 (some .int) 1 := ⟨qc_X4_drop, qi_X4_drop, ql_X4_drop, qN_X4, ⟨by decide, by decide⟩, by decide +kernel⟩
theorem qc_X4_given : (Cond.code yX4_given cX4_given 1 (some .int)) ∈ gW := gW_mem 629 (by decide +kernel) (by decide +kernel)
theorem qi_X4_given : (Cond.instanceMethod yX4_given) ∈ gW := gW_mem 627 (by decide +kernel) (by decide +kernel)
theorem ql_X4_given : (Cond.selects yX4_given.cls yX4_given yX4_given) ∈ gW := gW_mem 628 (by decide +kernel) (by decide +kernel)
theorem mV_X4_given : hMV yX4_given cX4_given 1 (some .int) 0 := ⟨qc_X4_given, qi_X4_given, ql_X4_given, qN_X4, ⟨by decide, by decide⟩, by decide +kernel⟩
theorem qc_X4_givenAt : (Cond.code yX4_givenAt cX4_givenAt 2 (some .int)) ∈ gW := gW_mem 624 (by decide +kernel) (by decide +kernel)
theorem qi_X4_givenAt : (Cond.instanceMethod yX4_givenAt) ∈ gW := gW_mem 622 (by decide +kernel) (by decide +kernel)
theorem ql_X4_givenAt : (Cond.selects yX4_givenAt.cls yX4_givenAt yX4_givenAt) ∈ gW := gW_mem 623 (by decide +kernel) (by decide +kernel)
theorem mV_X4_givenAt : hMV yX4_givenAt cX4_givenAt 2 (some .int) 1 := ⟨qc_X4_givenAt, qi_X4_givenAt, ql_X4_givenAt, qN_X4, ⟨by decide, by decide⟩, by decide +kernel⟩
theorem qc_X4_next : (Cond.code yX4_next cX4_next 1 (some .int)) ∈ gW := gW_mem 633 (by decide +kernel) (by decide +kernel)
theorem qi_X4_next : (Cond.instanceMethod yX4_next) ∈ gW := gW_mem 631 (by decide +kernel) (by decide +kernel)
theorem ql_X4_next : (Cond.selects yX4_next.cls yX4_next yX4_next) ∈ gW := gW_mem 632 (by decide +kernel) (by decide +kernel)
theorem mV_X4_next : hMV yX4_next cX4_next 1 (some .int) 0 := ⟨qc_X4_next, qi_X4_next, ql_X4_next, qN_X4, ⟨by decide, by decide⟩, by decide +kernel⟩
theorem qc_X4_endAt : (Cond.code yX4_endAt cX4_endAt 2 (some (.object "OptionLine$End"))) ∈ gW := gW_mem 182 (by decide +kernel) (by decide +kernel)
theorem qi_X4_endAt : (Cond.instanceMethod yX4_endAt) ∈ gW := gW_mem 181 (by decide +kernel) (by decide +kernel)
theorem ql_X4_endAt : (Cond.selects yX4_endAt.cls yX4_endAt yX4_endAt) ∈ gW := gW_mem 0 (by decide +kernel) (by decide +kernel)
theorem mV_X4_endAt : hMV yX4_endAt cX4_endAt 2 (some (.object "OptionLine$End")) 1 := ⟨qc_X4_endAt, qi_X4_endAt, ql_X4_endAt, qN_X4, ⟨by decide, by decide⟩, by decide +kernel⟩
theorem qc_X4_refuseNoOption : (Cond.code yX4_refuseNoOption cX4_refuseNoOption 1 none) ∈ gW := gW_mem 253 (by decide +kernel) (by decide +kernel)
theorem qs_X4_refuseNoOption : (Cond.static yX4_refuseNoOption) ∈ gW := gW_mem 252 (by decide +kernel) (by decide +kernel)
theorem mS_X4_refuseNoOption : hMS yX4_refuseNoOption cX4_refuseNoOption 1 none 1 := ⟨qc_X4_refuseNoOption, qs_X4_refuseNoOption, qN_X4, ⟨by decide, by decide⟩, by decide +kernel⟩
theorem qc_X4_takeFrame : (Cond.code yX4_takeFrame cX4_takeFrame 2 (some (.object "OptionLine$Frame"))) ∈ gW := gW_mem 434 (by decide +kernel) (by decide +kernel)
theorem qs_X4_takeFrame : (Cond.static yX4_takeFrame) ∈ gW := gW_mem 433 (by decide +kernel) (by decide +kernel)
theorem mS_X4_takeFrame : hMS yX4_takeFrame cX4_takeFrame 2 (some (.object "OptionLine$Frame")) 1 := ⟨qc_X4_takeFrame, qs_X4_takeFrame, qN_X4, ⟨by decide, by decide⟩, by decide +kernel⟩
theorem qc_X4_refuseEmptyLine : (Cond.code yX4_refuseEmptyLine cX4_refuseEmptyLine 2 none) ∈ gW := gW_mem 535 (by decide +kernel) (by decide +kernel)
theorem qi_X4_refuseEmptyLine : (Cond.instanceMethod yX4_refuseEmptyLine) ∈ gW := gW_mem 534 (by decide +kernel) (by decide +kernel)
theorem ql_X4_refuseEmptyLine : (Cond.selects yX4_refuseEmptyLine.cls yX4_refuseEmptyLine yX4_refuseEmptyLine) ∈ gW := gW_mem 14 (by decide +kernel) (by decide +kernel)
theorem mV_X4_refuseEmptyLine : hMV yX4_refuseEmptyLine cX4_refuseEmptyLine 2 none 1 := ⟨qc_X4_refuseEmptyLine, qi_X4_refuseEmptyLine, ql_X4_refuseEmptyLine, qN_X4, ⟨by decide, by decide⟩, by decide +kernel⟩
theorem qc_J7_fill_53178 : (Cond.code yJ7_fill_53178 cJ7_fill_53178 4 none) ∈ gW := gW_mem 69 (by decide +kernel) (by decide +kernel)
theorem qs_J7_fill_53178 : (Cond.static yJ7_fill_53178) ∈ gW := gW_mem 68 (by decide +kernel) (by decide +kernel)
theorem mS_J7_fill_53178 : hMS yJ7_fill_53178 cJ7_fill_53178 4 none 2 := ⟨qc_J7_fill_53178, qs_J7_fill_53178, qN_J7, ⟨by decide, by decide⟩, by decide +kernel⟩
theorem qc_J7_copyOf_59c91 : (Cond.code yJ7_copyOf_59c91 cJ7_copyOf_59c91 3 (some (.array .int))) ∈ gW := gW_mem 342 (by decide +kernel) (by decide +kernel)
theorem qs_J7_copyOf_59c91 : (Cond.static yJ7_copyOf_59c91) ∈ gW := gW_mem 341 (by decide +kernel) (by decide +kernel)
theorem mS_J7_copyOf_59c91 : hMS yJ7_copyOf_59c91 cJ7_copyOf_59c91 3 (some (.array .int)) 2 := ⟨qc_J7_copyOf_59c91, qs_J7_copyOf_59c91, qN_J7, ⟨by decide, by decide⟩, by decide +kernel⟩
theorem qc_L_cell : (Cond.code yL_cell cL_cell 2 (some .int)) ∈ gW := gW_mem 162 (by decide +kernel) (by decide +kernel)
theorem qs_L_cell : (Cond.static yL_cell) ∈ gW := gW_mem 161 (by decide +kernel) (by decide +kernel)
theorem mS_L_cell : hMS yL_cell cL_cell 2 (some .int) 2 := ⟨qc_L_cell, qs_L_cell, qN_L, ⟨by decide, by decide⟩, by decide +kernel⟩
theorem qc_L_low : (Cond.code yL_low cL_low 2 (some .int)) ∈ gW := gW_mem 166 (by decide +kernel) (by decide +kernel)
theorem qs_L_low : (Cond.static yL_low) ∈ gW := gW_mem 165 (by decide +kernel) (by decide +kernel)
theorem mS_L_low : hMS yL_low cL_low 2 (some .int) 2 := ⟨qc_L_low, qs_L_low, qN_L, ⟨by decide, by decide⟩, by decide +kernel⟩
theorem qc_L_wish : (Cond.codeWith yL_wish cL_wish 6 (some .int) [(0, 9, 12, 14), (0, 9, 17, 16)]) ∈ gW := gW_mem 172 (by decide +kernel) (by decide +kernel)
theorem qs_L_wish : (Cond.static yL_wish) ∈ gW := gW_mem 171 (by decide +kernel) (by decide +kernel)
theorem mH_L_wish : hMH yL_wish cL_wish 6 (some .int) [(0, 9, 12, 14), (0, 9, 17, 16)] 4 := ⟨qc_L_wish, qs_L_wish, qN_L, ⟨by decide, by decide⟩, by decide +kernel⟩
theorem qc_L_allow : (Cond.codeWith yL_allow cL_allow 6 (some .int) [(0, 9, 12, 14), (0, 9, 17, 16)]) ∈ gW := gW_mem 277 (by decide +kernel) (by decide +kernel)
theorem qs_L_allow : (Cond.static yL_allow) ∈ gW := gW_mem 276 (by decide +kernel) (by decide +kernel)
theorem mH_L_allow : hMH yL_allow cL_allow 6 (some .int) [(0, 9, 12, 14), (0, 9, 17, 16)] 4 := ⟨qc_L_allow, qs_L_allow, qN_L, ⟨by decide, by decide⟩, by decide +kernel⟩
theorem qc_L_setsMagic : (Cond.codeWith yL_setsMagic cL_setsMagic 6 (some .boolean) [(0, 17, 20, 14)]) ∈ gW := gW_mem 294 (by decide +kernel) (by decide +kernel)
theorem qs_L_setsMagic : (Cond.static yL_setsMagic) ∈ gW := gW_mem 293 (by decide +kernel) (by decide +kernel)
theorem mH_L_setsMagic : hMH yL_setsMagic cL_setsMagic 6 (some .boolean) [(0, 17, 20, 14)] 4 := ⟨qc_L_setsMagic, qs_L_setsMagic, qN_L, ⟨by decide, by decide⟩, by decide +kernel⟩
theorem qc_L_open : (Cond.codeWith yL_open cL_open 4 (some .int) [(0, 6, 9, 14), (0, 6, 13, 29)]) ∈ gW := gW_mem 305 (by decide +kernel) (by decide +kernel)
theorem qs_L_open : (Cond.static yL_open) ∈ gW := gW_mem 304 (by decide +kernel) (by decide +kernel)
theorem mH_L_open : hMH yL_open cL_open 4 (some .int) [(0, 6, 9, 14), (0, 6, 13, 29)] 2 := ⟨qc_L_open, qs_L_open, qN_L, ⟨by decide, by decide⟩, by decide +kernel⟩
theorem qc_L_close : (Cond.codeWith yL_close cL_close 4 (some .int) [(0, 6, 9, 14), (0, 6, 13, 29)]) ∈ gW := gW_mem 393 (by decide +kernel) (by decide +kernel)
theorem qs_L_close : (Cond.static yL_close) ∈ gW := gW_mem 392 (by decide +kernel) (by decide +kernel)
theorem mH_L_close : hMH yL_close cL_close 4 (some .int) [(0, 6, 9, 14), (0, 6, 13, 29)] 2 := ⟨qc_L_close, qs_L_close, qN_L, ⟨by decide, by decide⟩, by decide +kernel⟩
theorem qc_L_deliver : (Cond.codeWith yL_deliver cL_deliver 4 (some .int) [(0, 6, 9, 14), (0, 6, 13, 29)]) ∈ gW := gW_mem 427 (by decide +kernel) (by decide +kernel)
theorem qs_L_deliver : (Cond.static yL_deliver) ∈ gW := gW_mem 426 (by decide +kernel) (by decide +kernel)
theorem mH_L_deliver : hMH yL_deliver cL_deliver 4 (some .int) [(0, 6, 9, 14), (0, 6, 13, 29)] 2 := ⟨qc_L_deliver, qs_L_deliver, qN_L, ⟨by decide, by decide⟩, by decide +kernel⟩
theorem qc_L_lose : (Cond.codeWith yL_lose cL_lose 4 (some .int) [(0, 6, 9, 14), (0, 6, 13, 29)]) ∈ gW := gW_mem 486 (by decide +kernel) (by decide +kernel)
theorem qs_L_lose : (Cond.static yL_lose) ∈ gW := gW_mem 485 (by decide +kernel) (by decide +kernel)
theorem mH_L_lose : hMH yL_lose cL_lose 4 (some .int) [(0, 6, 9, 14), (0, 6, 13, 29)] 2 := ⟨qc_L_lose, qs_L_lose, qN_L, ⟨by decide, by decide⟩, by decide +kernel⟩
theorem qc_L_loop : (Cond.codeWith yL_loop cL_loop 4 (some .int) [(0, 6, 9, 14), (0, 6, 13, 29)]) ∈ gW := gW_mem 493 (by decide +kernel) (by decide +kernel)
theorem qs_L_loop : (Cond.static yL_loop) ∈ gW := gW_mem 492 (by decide +kernel) (by decide +kernel)
theorem mH_L_loop : hMH yL_loop cL_loop 4 (some .int) [(0, 6, 9, 14), (0, 6, 13, 29)] 2 := ⟨qc_L_loop, qs_L_loop, qN_L, ⟨by decide, by decide⟩, by decide +kernel⟩
theorem qc_L_pass : (Cond.codeWith yL_pass cL_pass 4 (some .int) [(0, 6, 9, 16)]) ∈ gW := gW_mem 415 (by decide +kernel) (by decide +kernel)
theorem qs_L_pass : (Cond.static yL_pass) ∈ gW := gW_mem 414 (by decide +kernel) (by decide +kernel)
theorem mH_L_pass : hMH yL_pass cL_pass 4 (some .int) [(0, 6, 9, 16)] 2 := ⟨qc_L_pass, qs_L_pass, qN_L, ⟨by decide, by decide⟩, by decide +kernel⟩
theorem qc_L_stateOf : (Cond.codeWith yL_stateOf cL_stateOf 4 (some .int) [(0, 6, 9, 14)]) ∈ gW := gW_mem 587 (by decide +kernel) (by decide +kernel)
theorem qs_L_stateOf : (Cond.static yL_stateOf) ∈ gW := gW_mem 586 (by decide +kernel) (by decide +kernel)
theorem mH_L_stateOf : hMH yL_stateOf cL_stateOf 4 (some .int) [(0, 6, 9, 14)] 2 := ⟨qc_L_stateOf, qs_L_stateOf, qN_L, ⟨by decide, by decide⟩, by decide +kernel⟩
theorem qc_L_asked : (Cond.codeWith yL_asked cL_asked 5 (some .int) [(0, 7, 10, 14)]) ∈ gW := gW_mem 613 (by decide +kernel) (by decide +kernel)
theorem qs_L_asked : (Cond.static yL_asked) ∈ gW := gW_mem 612 (by decide +kernel) (by decide +kernel)
theorem mH_L_asked : hMH yL_asked cL_asked 5 (some .int) [(0, 7, 10, 14)] 3 := ⟨qc_L_asked, qs_L_asked, qN_L, ⟨by decide, by decide⟩, by decide +kernel⟩
theorem qc_L_underWay : (Cond.codeWith yL_underWay cL_underWay 4 (some .int) [(0, 6, 9, 14)]) ∈ gW := gW_mem 602 (by decide +kernel) (by decide +kernel)
theorem qs_L_underWay : (Cond.static yL_underWay) ∈ gW := gW_mem 601 (by decide +kernel) (by decide +kernel)
theorem mH_L_underWay : hMH yL_underWay cL_underWay 4 (some .int) [(0, 6, 9, 14)] 2 := ⟨qc_L_underWay, qs_L_underWay, qN_L, ⟨by decide, by decide⟩, by decide +kernel⟩
theorem qc_L_send : (Cond.codeWith yL_send cL_send 4 (some .int) [(0, 6, 9, 16), (0, 6, 13, 29)]) ∈ gW := gW_mem 514 (by decide +kernel) (by decide +kernel)
theorem qs_L_send : (Cond.static yL_send) ∈ gW := gW_mem 513 (by decide +kernel) (by decide +kernel)
theorem mH_L_send : hMH yL_send cL_send 4 (some .int) [(0, 6, 9, 16), (0, 6, 13, 29)] 2 := ⟨qc_L_send, qs_L_send, qN_L, ⟨by decide, by decide⟩, by decide +kernel⟩
theorem qc_L_come : (Cond.codeWith yL_come cL_come 4 (some .int) [(0, 6, 9, 14), (0, 6, 13, 29)]) ∈ gW := gW_mem 527 (by decide +kernel) (by decide +kernel)
theorem qs_L_come : (Cond.static yL_come) ∈ gW := gW_mem 526 (by decide +kernel) (by decide +kernel)
theorem mH_L_come : hMH yL_come cL_come 4 (some .int) [(0, 6, 9, 14), (0, 6, 13, 29)] 2 := ⟨qc_L_come, qs_L_come, qN_L, ⟨by decide, by decide⟩, by decide +kernel⟩
theorem qc_L_drop : (Cond.codeWith yL_drop cL_drop 4 (some .int) [(0, 6, 9, 14), (0, 6, 13, 29)]) ∈ gW := gW_mem 573 (by decide +kernel) (by decide +kernel)
theorem qs_L_drop : (Cond.static yL_drop) ∈ gW := gW_mem 572 (by decide +kernel) (by decide +kernel)
theorem mH_L_drop : hMH yL_drop cL_drop 4 (some .int) [(0, 6, 9, 14), (0, 6, 13, 29)] 2 := ⟨qc_L_drop, qs_L_drop, qN_L, ⟨by decide, by decide⟩, by decide +kernel⟩
theorem qc_L_givenAt : (Cond.codeWith yL_givenAt cL_givenAt 4 (some .int) [(0, 6, 9, 14)]) ∈ gW := gW_mem 620 (by decide +kernel) (by decide +kernel)
theorem qs_L_givenAt : (Cond.static yL_givenAt) ∈ gW := gW_mem 619 (by decide +kernel) (by decide +kernel)
theorem mH_L_givenAt : hMH yL_givenAt cL_givenAt 4 (some .int) [(0, 6, 9, 14)] 2 := ⟨qc_L_givenAt, qs_L_givenAt, qN_L, ⟨by decide, by decide⟩, by decide +kernel⟩
theorem qc_L_number : (Cond.code yL_number cL_number 1 (some .int)) ∈ gW := gW_mem 289 (by decide +kernel) (by decide +kernel)
theorem qs_L_number : (Cond.static yL_number) ∈ gW := gW_mem 288 (by decide +kernel) (by decide +kernel)
theorem mS_L_number : hMS yL_number cL_number 1 (some .int) 1 := ⟨qc_L_number, qs_L_number, qN_L, ⟨by decide, by decide⟩, by decide +kernel⟩
theorem qc_L_post : (Cond.code yL_post cL_post 7 none) ∈ gW := gW_mem 389 (by decide +kernel) (by decide +kernel)
theorem qs_L_post : (Cond.static yL_post) ∈ gW := gW_mem 388 (by decide +kernel) (by decide +kernel)
theorem mS_L_post : hMS yL_post cL_post 7 none 6 := ⟨qc_L_post, qs_L_post, qN_L, ⟨by decide, by decide⟩, by decide +kernel⟩
theorem qc_L_pull : (Cond.code yL_pull cL_pull 6 (some .long)) ∈ gW := gW_mem 500 (by decide +kernel) (by decide +kernel)
theorem qs_L_pull : (Cond.static yL_pull) ∈ gW := gW_mem 499 (by decide +kernel) (by decide +kernel)
theorem mS_L_pull : hMS yL_pull cL_pull 6 (some .long) 3 := ⟨qc_L_pull, qs_L_pull, qN_L, ⟨by decide, by decide⟩, by decide +kernel⟩
theorem qc_L_beg : (Cond.code yL_beg cL_beg 8 (some .int)) ∈ gW := gW_mem 385 (by decide +kernel) (by decide +kernel)
theorem qs_L_beg : (Cond.static yL_beg) ∈ gW := gW_mem 384 (by decide +kernel) (by decide +kernel)
theorem mS_L_beg : hMS yL_beg cL_beg 8 (some .int) 4 := ⟨qc_L_beg, qs_L_beg, qN_L, ⟨by decide, by decide⟩, by decide +kernel⟩
theorem qc_L_answer : (Cond.code yL_answer cL_answer 16 none) ∈ gW := gW_mem 508 (by decide +kernel) (by decide +kernel)
theorem qs_L_answer : (Cond.static yL_answer) ∈ gW := gW_mem 507 (by decide +kernel) (by decide +kernel)
theorem mS_L_answer : hMS yL_answer cL_answer 16 none 5 := ⟨qc_L_answer, qs_L_answer, qN_L, ⟨by decide, by decide⟩, by decide +kernel⟩
theorem qc_L_take : (Cond.code yL_take cL_take 11 none) ∈ gW := gW_mem 504 (by decide +kernel) (by decide +kernel)
theorem qs_L_take : (Cond.static yL_take) ∈ gW := gW_mem 503 (by decide +kernel) (by decide +kernel)
theorem mS_L_take : hMS yL_take cL_take 11 none 6 := ⟨qc_L_take, qs_L_take, qN_L, ⟨by decide, by decide⟩, by decide +kernel⟩
theorem qc_L_goBy : (Cond.code yL_goBy cL_goBy 8 (some .int)) ∈ gW := gW_mem 412 (by decide +kernel) (by decide +kernel)
theorem qs_L_goBy : (Cond.static yL_goBy) ∈ gW := gW_mem 411 (by decide +kernel) (by decide +kernel)
theorem mS_L_goBy : hMS yL_goBy cL_goBy 8 (some .int) 5 := ⟨qc_L_goBy, qs_L_goBy, qN_L, ⟨by decide, by decide⟩, by decide +kernel⟩
theorem qc_L_links : (Cond.code yL_links cL_links 17 (some .boolean)) ∈ gW := gW_mem 169 (by decide +kernel) (by decide +kernel)
theorem qs_L_links : (Cond.static yL_links) ∈ gW := gW_mem 168 (by decide +kernel) (by decide +kernel)
theorem mS_L_links : hMS yL_links cL_links 17 (some .boolean) 10 := ⟨qc_L_links, qs_L_links, qN_L, ⟨by decide, by decide⟩, by decide +kernel⟩
theorem qc_L_follow : (Cond.code yL_follow cL_follow 8 none) ∈ gW := gW_mem 581 (by decide +kernel) (by decide +kernel)
theorem qs_L_follow : (Cond.static yL_follow) ∈ gW := gW_mem 580 (by decide +kernel) (by decide +kernel)
theorem mS_L_follow : hMS yL_follow cL_follow 8 none 4 := ⟨qc_L_follow, qs_L_follow, qN_L, ⟨by decide, by decide⟩, by decide +kernel⟩
theorem qc_L_bundles : (Cond.code yL_bundles cL_bundles 11 (some .boolean)) ∈ gW := gW_mem 511 (by decide +kernel) (by decide +kernel)
theorem qs_L_bundles : (Cond.static yL_bundles) ∈ gW := gW_mem 510 (by decide +kernel) (by decide +kernel)
theorem mS_L_bundles : hMS yL_bundles cL_bundles 11 (some .boolean) 8 := ⟨qc_L_bundles, qs_L_bundles, qN_L, ⟨by decide, by decide⟩, by decide +kernel⟩
theorem qc_L_isTold : (Cond.code yL_isTold cL_isTold 8 (some .boolean)) ∈ gW := gW_mem 584 (by decide +kernel) (by decide +kernel)
theorem qs_L_isTold : (Cond.static yL_isTold) ∈ gW := gW_mem 583 (by decide +kernel) (by decide +kernel)
theorem mS_L_isTold : hMS yL_isTold cL_isTold 8 (some .boolean) 5 := ⟨qc_L_isTold, qs_L_isTold, qN_L, ⟨by decide, by decide⟩, by decide +kernel⟩
theorem in_X0 : ∀ w ∈ u_ws RX0 TX0 9, w ∈ gW := gW_all [130, 132, 134, 136, 138, 140, 142, 144, 146] (by decide +kernel) (by decide +kernel)
theorem in_X1 : ∀ w ∈ u_ws RX1 TX1 11, w ∈ gW := gW_all [87, 89, 91, 93, 95, 97, 99, 101, 103, 105, 107] (by decide +kernel) (by decide +kernel)
theorem in_X2 : ∀ w ∈ u_ws RX2 TX2 5, w ∈ gW := gW_all [368, 370, 372, 374, 376] (by decide +kernel) (by decide +kernel)
theorem in_X3 : ∀ w ∈ u_ws RX3 TX3 3, w ∈ gW := gW_all [59, 61, 63] (by decide +kernel) (by decide +kernel)
theorem in_X4 : ∀ w ∈ u_ws RX4 TX4 3, w ∈ gW := gW_all [153, 155, 157] (by decide +kernel) (by decide +kernel)
theorem tF_eI : Bundle.fit eI = true ∧ (∀ n ∈ tNm, Bundle.fit n = true) := ⟨by decide +kernel, by decide +kernel⟩
theorem tA_eI : ∀ w ∈ (vx_atS RX4 141 eI tNm).filter goodWord, w ∈ gW := hall_of (by decide +kernel)
theorem tB_eI : ∀ w ∈ (vx_atS RX4 141 eI tNm).filter (fun w => !goodWord w), w ∈ hOt := hall_of (by decide +kernel)
theorem tF_eA : Bundle.fit eA = true ∧ (∀ n ∈ tNm, Bundle.fit n = true) := ⟨by decide +kernel, by decide +kernel⟩
theorem tA_eA : ∀ w ∈ (vx_atS RX4 39 eA tNm).filter goodWord, w ∈ gW := hall_of (by decide +kernel)
theorem tB_eA : ∀ w ∈ (vx_atS RX4 39 eA tNm).filter (fun w => !goodWord w), w ∈ hOt := hall_of (by decide +kernel)
theorem tF_eS : Bundle.fit eS = true ∧ (∀ n ∈ tNm, Bundle.fit n = true) := ⟨by decide +kernel, by decide +kernel⟩
theorem tA_eS : ∀ w ∈ (vx_atS RX4 63 eS tNm).filter goodWord, w ∈ gW := hall_of (by decide +kernel)
theorem tB_eS : ∀ w ∈ (vx_atS RX4 63 eS tNm).filter (fun w => !goodWord w), w ∈ hOt := hall_of (by decide +kernel)
theorem tG_eI : ∀ w ∈ Cond.classLink RX4 137 eI :: Cond.initialized eI :: vx_atS RX4 141 eI tNm, vx_ot w = true := hallb_of (by decide +kernel)
theorem tG_eA : ∀ w ∈ Cond.classLink RX4 35 eA :: Cond.initialized eA :: vx_atS RX4 39 eA tNm, vx_ot w = true := hallb_of (by decide +kernel)
theorem tG_eS : ∀ w ∈ Cond.classLink RX4 59 eS :: Cond.initialized eS :: vx_atS RX4 63 eS tNm, vx_ot w = true := hallb_of (by decide +kernel)
end
section
theorem dX0_init_0 : decode cX0_init 0 = .ok (.aload_n 0, 1) := by decide +kernel
theorem dX0_init_1 : decode cX0_init 1 = .ok (.invokespecial 3, 3) := by decide +kernel
theorem dX0_init_4 : decode cX0_init 4 = .ok (.aload_n 0, 1) := by decide +kernel
theorem dX0_init_5 : decode cX0_init 5 = .ok (.bipush 61, 2) := by decide +kernel
theorem dX0_init_7 : decode cX0_init 7 = .ok (.newarray .int, 2) := by decide +kernel
theorem dX0_init_9 : decode cX0_init 9 = .ok (.putfield 9, 3) := by decide +kernel
theorem dX0_init_12 : decode cX0_init 12 = .ok (.aload_n 0, 1) := by decide +kernel
theorem dX0_init_13 : decode cX0_init 13 = .ok (.sipush 240, 3) := by decide +kernel
theorem dX0_init_16 : decode cX0_init 16 = .ok (.newarray .int, 2) := by decide +kernel
theorem dX0_init_18 : decode cX0_init 18 = .ok (.putfield 15, 3) := by decide +kernel
theorem dX0_init_21 : decode cX0_init 21 = .ok (.aload_n 0, 1) := by decide +kernel
theorem dX0_init_22 : decode cX0_init 22 = .ok (.sipush 240, 3) := by decide +kernel
theorem dX0_init_25 : decode cX0_init 25 = .ok (.newarray .boolean, 2) := by decide +kernel
theorem dX0_init_27 : decode cX0_init 27 = .ok (.putfield 18, 3) := by decide +kernel
theorem dX0_init_30 : decode cX0_init 30 = .ok (.aload_n 0, 1) := by decide +kernel
theorem dX0_init_31 : decode cX0_init 31 = .ok (.iconst 3, 1) := by decide +kernel
theorem dX0_init_32 : decode cX0_init 32 = .ok (.newarray .int, 2) := by decide +kernel
theorem dX0_init_34 : decode cX0_init 34 = .ok (.putfield 22, 3) := by decide +kernel
theorem dX0_init_37 : decode cX0_init 37 = .ok (.aload_n 0, 1) := by decide +kernel
theorem dX0_init_38 : decode cX0_init 38 = .ok (.iconst 3, 1) := by decide +kernel
theorem dX0_init_39 : decode cX0_init 39 = .ok (.newarray .int, 2) := by decide +kernel
theorem dX0_init_41 : decode cX0_init 41 = .ok (.putfield 25, 3) := by decide +kernel
theorem dX0_init_44 : decode cX0_init 44 = .ok (.aload_n 0, 1) := by decide +kernel
theorem dX0_init_45 : decode cX0_init 45 = .ok (.bipush 60, 2) := by decide +kernel
theorem dX0_init_47 : decode cX0_init 47 = .ok (.newarray .int, 2) := by decide +kernel
theorem dX0_init_49 : decode cX0_init 49 = .ok (.putfield 28, 3) := by decide +kernel
theorem dX0_init_52 : decode cX0_init 52 = .ok (.aload_n 0, 1) := by decide +kernel
theorem dX0_init_53 : decode cX0_init 53 = .ok (.iconst 0, 1) := by decide +kernel
theorem dX0_init_54 : decode cX0_init 54 = .ok (.putfield 31, 3) := by decide +kernel
theorem dX0_init_57 : decode cX0_init 57 = .ok (.aload_n 0, 1) := by decide +kernel
theorem dX0_init_58 : decode cX0_init 58 = .ok (.iconst 0, 1) := by decide +kernel
theorem dX0_init_59 : decode cX0_init 59 = .ok (.putfield 35, 3) := by decide +kernel
theorem dX0_init_62 : decode cX0_init 62 = .ok (.aload_n 0, 1) := by decide +kernel
theorem dX0_init_63 : decode cX0_init 63 = .ok (.iconst 0, 1) := by decide +kernel
theorem dX0_init_64 : decode cX0_init 64 = .ok (.putfield 38, 3) := by decide +kernel
theorem dX0_init_67 : decode cX0_init 67 = .ok (.iconst 0, 1) := by decide +kernel
theorem dX0_init_68 : decode cX0_init 68 = .ok (.istore_n 1, 1) := by decide +kernel
theorem dX0_init_69 : decode cX0_init 69 = .ok (.iload_n 1, 1) := by decide +kernel
theorem dX0_init_70 : decode cX0_init 70 = .ok (.iconst 3, 1) := by decide +kernel
theorem dX0_init_71 : decode cX0_init 71 = .ok (.if_icmp .ge 16, 3) := by decide +kernel
theorem dX0_init_74 : decode cX0_init 74 = .ok (.aload_n 0, 1) := by decide +kernel
theorem dX0_init_75 : decode cX0_init 75 = .ok (.getfield 22, 3) := by decide +kernel
theorem dX0_init_78 : decode cX0_init 78 = .ok (.iload_n 1, 1) := by decide +kernel
theorem dX0_init_79 : decode cX0_init 79 = .ok (.iload_n 1, 1) := by decide +kernel
theorem dX0_init_80 : decode cX0_init 80 = .ok (.iastore, 1) := by decide +kernel
theorem dX0_init_81 : decode cX0_init 81 = .ok (.iinc 1 1, 3) := by decide +kernel
theorem dX0_init_84 : decode cX0_init 84 = .ok (.goto (-15), 3) := by decide +kernel
theorem dX0_init_87 : decode cX0_init 87 = .ok (.aload_n 0, 1) := by decide +kernel
theorem dX0_init_88 : decode cX0_init 88 = .ok (.getfield 25, 3) := by decide +kernel
theorem dX0_init_91 : decode cX0_init 91 = .ok (.iconst (-1), 1) := by decide +kernel
theorem dX0_init_92 : decode cX0_init 92 = .ok (.invokestatic 41, 3) := by decide +kernel
theorem dX0_init_95 : decode cX0_init 95 = .ok (.return_, 1) := by decide +kernel
theorem dX0_addPacket_0 : decode cX0_addPacket 0 = .ok (.aload_n 0, 1) := by decide +kernel
theorem dX0_addPacket_1 : decode cX0_addPacket 1 = .ok (.getfield 9, 3) := by decide +kernel
theorem dX0_addPacket_4 : decode cX0_addPacket 4 = .ok (.aload_n 0, 1) := by decide +kernel
theorem dX0_addPacket_5 : decode cX0_addPacket 5 = .ok (.getfield 31, 3) := by decide +kernel
theorem dX0_addPacket_8 : decode cX0_addPacket 8 = .ok (.iaload, 1) := by decide +kernel
theorem dX0_addPacket_9 : decode cX0_addPacket 9 = .ok (.istore_n 2, 1) := by decide +kernel
theorem dX0_addPacket_10 : decode cX0_addPacket 10 = .ok (.iload_n 2, 1) := by decide +kernel
theorem dX0_addPacket_11 : decode cX0_addPacket 11 = .ok (.istore_n 3, 1) := by decide +kernel
theorem dX0_addPacket_12 : decode cX0_addPacket 12 = .ok (.iload_n 3, 1) := by decide +kernel
theorem dX0_addPacket_13 : decode cX0_addPacket 13 = .ok (.iload_n 2, 1) := by decide +kernel
theorem dX0_addPacket_14 : decode cX0_addPacket 14 = .ok (.iload_n 1, 1) := by decide +kernel
theorem dX0_addPacket_15 : decode cX0_addPacket 15 = .ok (.iadd, 1) := by decide +kernel
theorem dX0_addPacket_16 : decode cX0_addPacket 16 = .ok (.if_icmp .ge 19, 3) := by decide +kernel
theorem dX0_addPacket_19 : decode cX0_addPacket 19 = .ok (.aload_n 0, 1) := by decide +kernel
theorem dX0_addPacket_20 : decode cX0_addPacket 20 = .ok (.getfield 15, 3) := by decide +kernel
theorem dX0_addPacket_23 : decode cX0_addPacket 23 = .ok (.iload_n 3, 1) := by decide +kernel
theorem dX0_addPacket_24 : decode cX0_addPacket 24 = .ok (.aload_n 0, 1) := by decide +kernel
theorem dX0_addPacket_25 : decode cX0_addPacket 25 = .ok (.getfield 31, 3) := by decide +kernel
theorem dX0_addPacket_28 : decode cX0_addPacket 28 = .ok (.iastore, 1) := by decide +kernel
theorem dX0_addPacket_29 : decode cX0_addPacket 29 = .ok (.iinc 3 1, 3) := by decide +kernel
theorem dX0_addPacket_32 : decode cX0_addPacket 32 = .ok (.goto (-20), 3) := by decide +kernel
theorem dX0_addPacket_35 : decode cX0_addPacket 35 = .ok (.aload_n 0, 1) := by decide +kernel
theorem dX0_addPacket_36 : decode cX0_addPacket 36 = .ok (.dup, 1) := by decide +kernel
theorem dX0_addPacket_37 : decode cX0_addPacket 37 = .ok (.getfield 31, 3) := by decide +kernel
theorem dX0_addPacket_40 : decode cX0_addPacket 40 = .ok (.iconst 1, 1) := by decide +kernel
theorem dX0_addPacket_41 : decode cX0_addPacket 41 = .ok (.iadd, 1) := by decide +kernel
theorem dX0_addPacket_42 : decode cX0_addPacket 42 = .ok (.putfield 31, 3) := by decide +kernel
theorem dX0_addPacket_45 : decode cX0_addPacket 45 = .ok (.aload_n 0, 1) := by decide +kernel
theorem dX0_addPacket_46 : decode cX0_addPacket 46 = .ok (.getfield 9, 3) := by decide +kernel
theorem dX0_addPacket_49 : decode cX0_addPacket 49 = .ok (.aload_n 0, 1) := by decide +kernel
theorem dX0_addPacket_50 : decode cX0_addPacket 50 = .ok (.getfield 31, 3) := by decide +kernel
theorem dX0_addPacket_53 : decode cX0_addPacket 53 = .ok (.iload_n 2, 1) := by decide +kernel
theorem dX0_addPacket_54 : decode cX0_addPacket 54 = .ok (.iload_n 1, 1) := by decide +kernel
theorem dX0_addPacket_55 : decode cX0_addPacket 55 = .ok (.iadd, 1) := by decide +kernel
theorem dX0_addPacket_56 : decode cX0_addPacket 56 = .ok (.iastore, 1) := by decide +kernel
theorem dX0_addPacket_57 : decode cX0_addPacket 57 = .ok (.iload_n 2, 1) := by decide +kernel
theorem dX0_addPacket_58 : decode cX0_addPacket 58 = .ok (.ireturn, 1) := by decide +kernel
theorem dX0_hasPieceOn_0 : decode cX0_hasPieceOn 0 = .ok (.aload_n 0, 1) := by decide +kernel
theorem dX0_hasPieceOn_1 : decode cX0_hasPieceOn 1 = .ok (.getfield 22, 3) := by decide +kernel
theorem dX0_hasPieceOn_4 : decode cX0_hasPieceOn 4 = .ok (.iload_n 1, 1) := by decide +kernel
theorem dX0_hasPieceOn_5 : decode cX0_hasPieceOn 5 = .ok (.iaload, 1) := by decide +kernel
theorem dX0_hasPieceOn_6 : decode cX0_hasPieceOn 6 = .ok (.aload_n 0, 1) := by decide +kernel
theorem dX0_hasPieceOn_7 : decode cX0_hasPieceOn 7 = .ok (.getfield 9, 3) := by decide +kernel
theorem dX0_hasPieceOn_10 : decode cX0_hasPieceOn 10 = .ok (.aload_n 0, 1) := by decide +kernel
theorem dX0_hasPieceOn_11 : decode cX0_hasPieceOn 11 = .ok (.getfield 31, 3) := by decide +kernel
theorem dX0_hasPieceOn_14 : decode cX0_hasPieceOn 14 = .ok (.iaload, 1) := by decide +kernel
theorem dX0_hasPieceOn_15 : decode cX0_hasPieceOn 15 = .ok (.if_icmp .ge 7, 3) := by decide +kernel
theorem dX0_hasPieceOn_18 : decode cX0_hasPieceOn 18 = .ok (.iconst 1, 1) := by decide +kernel
theorem dX0_hasPieceOn_19 : decode cX0_hasPieceOn 19 = .ok (.goto 4, 3) := by decide +kernel
theorem dX0_hasPieceOn_22 : decode cX0_hasPieceOn 22 = .ok (.iconst 0, 1) := by decide +kernel
theorem dX0_hasPieceOn_23 : decode cX0_hasPieceOn 23 = .ok (.ireturn, 1) := by decide +kernel
theorem dX0_takePiece_0 : decode cX0_takePiece 0 = .ok (.aload_n 0, 1) := by decide +kernel
theorem dX0_takePiece_1 : decode cX0_takePiece 1 = .ok (.getfield 22, 3) := by decide +kernel
theorem dX0_takePiece_4 : decode cX0_takePiece 4 = .ok (.iload_n 1, 1) := by decide +kernel
theorem dX0_takePiece_5 : decode cX0_takePiece 5 = .ok (.iaload, 1) := by decide +kernel
theorem dX0_takePiece_6 : decode cX0_takePiece 6 = .ok (.istore_n 2, 1) := by decide +kernel
theorem dX0_takePiece_7 : decode cX0_takePiece 7 = .ok (.aload_n 0, 1) := by decide +kernel
theorem dX0_takePiece_8 : decode cX0_takePiece 8 = .ok (.getfield 22, 3) := by decide +kernel
theorem dX0_takePiece_11 : decode cX0_takePiece 11 = .ok (.iload_n 1, 1) := by decide +kernel
theorem dX0_takePiece_12 : decode cX0_takePiece 12 = .ok (.iload_n 2, 1) := by decide +kernel
theorem dX0_takePiece_13 : decode cX0_takePiece 13 = .ok (.iconst 3, 1) := by decide +kernel
theorem dX0_takePiece_14 : decode cX0_takePiece 14 = .ok (.iadd, 1) := by decide +kernel
theorem dX0_takePiece_15 : decode cX0_takePiece 15 = .ok (.iastore, 1) := by decide +kernel
theorem dX0_takePiece_16 : decode cX0_takePiece 16 = .ok (.iload_n 2, 1) := by decide +kernel
theorem dX0_takePiece_17 : decode cX0_takePiece 17 = .ok (.ireturn, 1) := by decide +kernel
theorem dX0_bring_0 : decode cX0_bring 0 = .ok (.aload_n 0, 1) := by decide +kernel
theorem dX0_bring_1 : decode cX0_bring 1 = .ok (.getfield 35, 3) := by decide +kernel
theorem dX0_bring_4 : decode cX0_bring 4 = .ok (.istore_n 2, 1) := by decide +kernel
theorem dX0_bring_5 : decode cX0_bring 5 = .ok (.aload_n 0, 1) := by decide +kernel
theorem dX0_bring_6 : decode cX0_bring 6 = .ok (.iload_n 1, 1) := by decide +kernel
theorem dX0_bring_7 : decode cX0_bring 7 = .ok (.invokevirtual 47, 3) := by decide +kernel
theorem dX0_bring_10 : decode cX0_bring 10 = .ok (.istore_n 3, 1) := by decide +kernel
theorem dX0_bring_11 : decode cX0_bring 11 = .ok (.aload_n 0, 1) := by decide +kernel
theorem dX0_bring_12 : decode cX0_bring 12 = .ok (.getfield 18, 3) := by decide +kernel
theorem dX0_bring_15 : decode cX0_bring 15 = .ok (.iload_n 3, 1) := by decide +kernel
theorem dX0_bring_16 : decode cX0_bring 16 = .ok (.iconst 1, 1) := by decide +kernel
theorem dX0_bring_17 : decode cX0_bring 17 = .ok (.bastore, 1) := by decide +kernel
theorem dX0_bring_18 : decode cX0_bring 18 = .ok (.aload_n 0, 1) := by decide +kernel
theorem dX0_bring_19 : decode cX0_bring 19 = .ok (.getfield 25, 3) := by decide +kernel
theorem dX0_bring_22 : decode cX0_bring 22 = .ok (.iload_n 1, 1) := by decide +kernel
theorem dX0_bring_23 : decode cX0_bring 23 = .ok (.iload_n 3, 1) := by decide +kernel
theorem dX0_bring_24 : decode cX0_bring 24 = .ok (.iastore, 1) := by decide +kernel
theorem dX0_bring_25 : decode cX0_bring 25 = .ok (.aload_n 0, 1) := by decide +kernel
theorem dX0_bring_26 : decode cX0_bring 26 = .ok (.getfield 18, 3) := by decide +kernel
theorem dX0_bring_29 : decode cX0_bring 29 = .ok (.arraylength, 1) := by decide +kernel
theorem dX0_bring_30 : decode cX0_bring 30 = .ok (.istore 4, 2) := by decide +kernel
theorem dX0_bring_32 : decode cX0_bring 32 = .ok (.iload 4, 2) := by decide +kernel
theorem dX0_bring_34 : decode cX0_bring 34 = .ok (.ifCond .le 16, 3) := by decide +kernel
theorem dX0_bring_37 : decode cX0_bring 37 = .ok (.aload_n 0, 1) := by decide +kernel
theorem dX0_bring_38 : decode cX0_bring 38 = .ok (.invokevirtual 51, 3) := by decide +kernel
theorem dX0_bring_41 : decode cX0_bring 41 = .ok (.ifCond .eq 9, 3) := by decide +kernel
theorem dX0_bring_44 : decode cX0_bring 44 = .ok (.iinc 4 (-1), 3) := by decide +kernel
theorem dX0_bring_47 : decode cX0_bring 47 = .ok (.goto (-15), 3) := by decide +kernel
theorem dX0_bring_50 : decode cX0_bring 50 = .ok (.aload_n 0, 1) := by decide +kernel
theorem dX0_bring_51 : decode cX0_bring 51 = .ok (.getfield 35, 3) := by decide +kernel
theorem dX0_bring_54 : decode cX0_bring 54 = .ok (.iload_n 2, 1) := by decide +kernel
theorem dX0_bring_55 : decode cX0_bring 55 = .ok (.isub, 1) := by decide +kernel
theorem dX0_bring_56 : decode cX0_bring 56 = .ok (.ireturn, 1) := by decide +kernel
theorem dX0_advance_0 : decode cX0_advance 0 = .ok (.aload_n 0, 1) := by decide +kernel
theorem dX0_advance_1 : decode cX0_advance 1 = .ok (.getfield 38, 3) := by decide +kernel
theorem dX0_advance_4 : decode cX0_advance 4 = .ok (.istore_n 1, 1) := by decide +kernel
theorem dX0_advance_5 : decode cX0_advance 5 = .ok (.iload_n 1, 1) := by decide +kernel
theorem dX0_advance_6 : decode cX0_advance 6 = .ok (.aload_n 0, 1) := by decide +kernel
theorem dX0_advance_7 : decode cX0_advance 7 = .ok (.getfield 9, 3) := by decide +kernel
theorem dX0_advance_10 : decode cX0_advance 10 = .ok (.aload_n 0, 1) := by decide +kernel
theorem dX0_advance_11 : decode cX0_advance 11 = .ok (.getfield 31, 3) := by decide +kernel
theorem dX0_advance_14 : decode cX0_advance 14 = .ok (.iaload, 1) := by decide +kernel
theorem dX0_advance_15 : decode cX0_advance 15 = .ok (.if_icmp .lt 5, 3) := by decide +kernel
theorem dX0_advance_18 : decode cX0_advance 18 = .ok (.iconst 0, 1) := by decide +kernel
theorem dX0_advance_19 : decode cX0_advance 19 = .ok (.ireturn, 1) := by decide +kernel
theorem dX0_advance_20 : decode cX0_advance 20 = .ok (.aload_n 0, 1) := by decide +kernel
theorem dX0_advance_21 : decode cX0_advance 21 = .ok (.getfield 15, 3) := by decide +kernel
theorem dX0_advance_24 : decode cX0_advance 24 = .ok (.iload_n 1, 1) := by decide +kernel
theorem dX0_advance_25 : decode cX0_advance 25 = .ok (.iaload, 1) := by decide +kernel
theorem dX0_advance_26 : decode cX0_advance 26 = .ok (.istore_n 2, 1) := by decide +kernel
theorem dX0_advance_27 : decode cX0_advance 27 = .ok (.aload_n 0, 1) := by decide +kernel
theorem dX0_advance_28 : decode cX0_advance 28 = .ok (.getfield 18, 3) := by decide +kernel
theorem dX0_advance_31 : decode cX0_advance 31 = .ok (.iload_n 1, 1) := by decide +kernel
theorem dX0_advance_32 : decode cX0_advance 32 = .ok (.baload, 1) := by decide +kernel
theorem dX0_advance_33 : decode cX0_advance 33 = .ok (.ifCond .eq 19, 3) := by decide +kernel
theorem dX0_advance_36 : decode cX0_advance 36 = .ok (.aload_n 0, 1) := by decide +kernel
theorem dX0_advance_37 : decode cX0_advance 37 = .ok (.getfield 9, 3) := by decide +kernel
theorem dX0_advance_40 : decode cX0_advance 40 = .ok (.iload_n 2, 1) := by decide +kernel
theorem dX0_advance_41 : decode cX0_advance 41 = .ok (.iaload, 1) := by decide +kernel
theorem dX0_advance_42 : decode cX0_advance 42 = .ok (.iload_n 1, 1) := by decide +kernel
theorem dX0_advance_43 : decode cX0_advance 43 = .ok (.if_icmp .ne 9, 3) := by decide +kernel
theorem dX0_advance_46 : decode cX0_advance 46 = .ok (.aload_n 0, 1) := by decide +kernel
theorem dX0_advance_47 : decode cX0_advance 47 = .ok (.iload_n 2, 1) := by decide +kernel
theorem dX0_advance_48 : decode cX0_advance 48 = .ok (.invokevirtual 55, 3) := by decide +kernel
theorem dX0_advance_51 : decode cX0_advance 51 = .ok (.ireturn, 1) := by decide +kernel
theorem dX0_advance_52 : decode cX0_advance 52 = .ok (.aload_n 0, 1) := by decide +kernel
theorem dX0_advance_53 : decode cX0_advance 53 = .ok (.getfield 18, 3) := by decide +kernel
theorem dX0_advance_56 : decode cX0_advance 56 = .ok (.iload_n 1, 1) := by decide +kernel
theorem dX0_advance_57 : decode cX0_advance 57 = .ok (.baload, 1) := by decide +kernel
theorem dX0_advance_58 : decode cX0_advance 58 = .ok (.ifCond .ne 13, 3) := by decide +kernel
theorem dX0_advance_61 : decode cX0_advance 61 = .ok (.iload_n 1, 1) := by decide +kernel
theorem dX0_advance_62 : decode cX0_advance 62 = .ok (.aload_n 0, 1) := by decide +kernel
theorem dX0_advance_63 : decode cX0_advance 63 = .ok (.invokevirtual 59, 3) := by decide +kernel
theorem dX0_advance_66 : decode cX0_advance 66 = .ok (.if_icmp .lt 5, 3) := by decide +kernel
theorem dX0_advance_69 : decode cX0_advance 69 = .ok (.iconst 0, 1) := by decide +kernel
theorem dX0_advance_70 : decode cX0_advance 70 = .ok (.ireturn, 1) := by decide +kernel
theorem dX0_advance_71 : decode cX0_advance 71 = .ok (.aload_n 0, 1) := by decide +kernel
theorem dX0_advance_72 : decode cX0_advance 72 = .ok (.iload_n 1, 1) := by decide +kernel
theorem dX0_advance_73 : decode cX0_advance 73 = .ok (.iconst 1, 1) := by decide +kernel
theorem dX0_advance_74 : decode cX0_advance 74 = .ok (.iadd, 1) := by decide +kernel
theorem dX0_advance_75 : decode cX0_advance 75 = .ok (.putfield 38, 3) := by decide +kernel
theorem dX0_advance_78 : decode cX0_advance 78 = .ok (.iconst 1, 1) := by decide +kernel
theorem dX0_advance_79 : decode cX0_advance 79 = .ok (.ireturn, 1) := by decide +kernel
theorem dX0_advanceFromFirst_0 : decode cX0_advanceFromFirst 0 = .ok (.aload_n 0, 1) := by decide +kernel
theorem dX0_advanceFromFirst_1 : decode cX0_advanceFromFirst 1 = .ok (.iload_n 1, 1) := by decide +kernel
theorem dX0_advanceFromFirst_2 : decode cX0_advanceFromFirst 2 = .ok (.invokevirtual 63, 3) := by decide +kernel
theorem dX0_advanceFromFirst_5 : decode cX0_advanceFromFirst 5 = .ok (.istore_n 2, 1) := by decide +kernel
theorem dX0_advanceFromFirst_6 : decode cX0_advanceFromFirst 6 = .ok (.iload_n 2, 1) := by decide +kernel
theorem dX0_advanceFromFirst_7 : decode cX0_advanceFromFirst 7 = .ok (.aload_n 0, 1) := by decide +kernel
theorem dX0_advanceFromFirst_8 : decode cX0_advanceFromFirst 8 = .ok (.getfield 9, 3) := by decide +kernel
theorem dX0_advanceFromFirst_11 : decode cX0_advanceFromFirst 11 = .ok (.iload_n 1, 1) := by decide +kernel
theorem dX0_advanceFromFirst_12 : decode cX0_advanceFromFirst 12 = .ok (.iconst 1, 1) := by decide +kernel
theorem dX0_advanceFromFirst_13 : decode cX0_advanceFromFirst 13 = .ok (.iadd, 1) := by decide +kernel
theorem dX0_advanceFromFirst_14 : decode cX0_advanceFromFirst 14 = .ok (.iaload, 1) := by decide +kernel
theorem dX0_advanceFromFirst_15 : decode cX0_advanceFromFirst 15 = .ok (.if_icmp .ne 15, 3) := by decide +kernel
theorem dX0_advanceFromFirst_18 : decode cX0_advanceFromFirst 18 = .ok (.aload_n 0, 1) := by decide +kernel
theorem dX0_advanceFromFirst_19 : decode cX0_advanceFromFirst 19 = .ok (.iload_n 1, 1) := by decide +kernel
theorem dX0_advanceFromFirst_20 : decode cX0_advanceFromFirst 20 = .ok (.invokevirtual 66, 3) := by decide +kernel
theorem dX0_advanceFromFirst_23 : decode cX0_advanceFromFirst 23 = .ok (.aload_n 0, 1) := by decide +kernel
theorem dX0_advanceFromFirst_24 : decode cX0_advanceFromFirst 24 = .ok (.iload_n 2, 1) := by decide +kernel
theorem dX0_advanceFromFirst_25 : decode cX0_advanceFromFirst 25 = .ok (.putfield 38, 3) := by decide +kernel
theorem dX0_advanceFromFirst_28 : decode cX0_advanceFromFirst 28 = .ok (.iconst 1, 1) := by decide +kernel
theorem dX0_advanceFromFirst_29 : decode cX0_advanceFromFirst 29 = .ok (.ireturn, 1) := by decide +kernel
theorem dX0_advanceFromFirst_30 : decode cX0_advanceFromFirst 30 = .ok (.iload_n 2, 1) := by decide +kernel
theorem dX0_advanceFromFirst_31 : decode cX0_advanceFromFirst 31 = .ok (.aload_n 0, 1) := by decide +kernel
theorem dX0_advanceFromFirst_32 : decode cX0_advanceFromFirst 32 = .ok (.invokevirtual 59, 3) := by decide +kernel
theorem dX0_advanceFromFirst_35 : decode cX0_advanceFromFirst 35 = .ok (.if_icmp .lt 5, 3) := by decide +kernel
theorem dX0_advanceFromFirst_38 : decode cX0_advanceFromFirst 38 = .ok (.iconst 0, 1) := by decide +kernel
theorem dX0_advanceFromFirst_39 : decode cX0_advanceFromFirst 39 = .ok (.ireturn, 1) := by decide +kernel
theorem dX0_advanceFromFirst_40 : decode cX0_advanceFromFirst 40 = .ok (.aload_n 0, 1) := by decide +kernel
theorem dX0_advanceFromFirst_41 : decode cX0_advanceFromFirst 41 = .ok (.iload_n 2, 1) := by decide +kernel
theorem dX0_advanceFromFirst_42 : decode cX0_advanceFromFirst 42 = .ok (.iconst 1, 1) := by decide +kernel
theorem dX0_advanceFromFirst_43 : decode cX0_advanceFromFirst 43 = .ok (.iadd, 1) := by decide +kernel
theorem dX0_advanceFromFirst_44 : decode cX0_advanceFromFirst 44 = .ok (.putfield 38, 3) := by decide +kernel
theorem dX0_advanceFromFirst_47 : decode cX0_advanceFromFirst 47 = .ok (.iconst 1, 1) := by decide +kernel
theorem dX0_advanceFromFirst_48 : decode cX0_advanceFromFirst 48 = .ok (.ireturn, 1) := by decide +kernel
theorem dX0_give_0 : decode cX0_give 0 = .ok (.aload_n 0, 1) := by decide +kernel
theorem dX0_give_1 : decode cX0_give 1 = .ok (.getfield 35, 3) := by decide +kernel
theorem dX0_give_4 : decode cX0_give 4 = .ok (.aload_n 0, 1) := by decide +kernel
theorem dX0_give_5 : decode cX0_give 5 = .ok (.getfield 28, 3) := by decide +kernel
theorem dX0_give_8 : decode cX0_give 8 = .ok (.arraylength, 1) := by decide +kernel
theorem dX0_give_9 : decode cX0_give 9 = .ok (.if_icmp .ge 23, 3) := by decide +kernel
theorem dX0_give_12 : decode cX0_give 12 = .ok (.aload_n 0, 1) := by decide +kernel
theorem dX0_give_13 : decode cX0_give 13 = .ok (.getfield 28, 3) := by decide +kernel
theorem dX0_give_16 : decode cX0_give 16 = .ok (.aload_n 0, 1) := by decide +kernel
theorem dX0_give_17 : decode cX0_give 17 = .ok (.getfield 35, 3) := by decide +kernel
theorem dX0_give_20 : decode cX0_give 20 = .ok (.iload_n 1, 1) := by decide +kernel
theorem dX0_give_21 : decode cX0_give 21 = .ok (.iastore, 1) := by decide +kernel
theorem dX0_give_22 : decode cX0_give 22 = .ok (.aload_n 0, 1) := by decide +kernel
theorem dX0_give_23 : decode cX0_give 23 = .ok (.dup, 1) := by decide +kernel
theorem dX0_give_24 : decode cX0_give 24 = .ok (.getfield 35, 3) := by decide +kernel
theorem dX0_give_27 : decode cX0_give 27 = .ok (.iconst 1, 1) := by decide +kernel
theorem dX0_give_28 : decode cX0_give 28 = .ok (.iadd, 1) := by decide +kernel
theorem dX0_give_29 : decode cX0_give 29 = .ok (.putfield 35, 3) := by decide +kernel
theorem dX0_give_32 : decode cX0_give 32 = .ok (.return_, 1) := by decide +kernel
theorem dX0_firstNotCome_0 : decode cX0_firstNotCome 0 = .ok (.aload_n 0, 1) := by decide +kernel
theorem dX0_firstNotCome_1 : decode cX0_firstNotCome 1 = .ok (.getfield 9, 3) := by decide +kernel
theorem dX0_firstNotCome_4 : decode cX0_firstNotCome 4 = .ok (.iload_n 1, 1) := by decide +kernel
theorem dX0_firstNotCome_5 : decode cX0_firstNotCome 5 = .ok (.iconst 1, 1) := by decide +kernel
theorem dX0_firstNotCome_6 : decode cX0_firstNotCome 6 = .ok (.iadd, 1) := by decide +kernel
theorem dX0_firstNotCome_7 : decode cX0_firstNotCome 7 = .ok (.iaload, 1) := by decide +kernel
theorem dX0_firstNotCome_8 : decode cX0_firstNotCome 8 = .ok (.istore_n 2, 1) := by decide +kernel
theorem dX0_firstNotCome_9 : decode cX0_firstNotCome 9 = .ok (.aload_n 0, 1) := by decide +kernel
theorem dX0_firstNotCome_10 : decode cX0_firstNotCome 10 = .ok (.getfield 9, 3) := by decide +kernel
theorem dX0_firstNotCome_13 : decode cX0_firstNotCome 13 = .ok (.iload_n 1, 1) := by decide +kernel
theorem dX0_firstNotCome_14 : decode cX0_firstNotCome 14 = .ok (.iaload, 1) := by decide +kernel
theorem dX0_firstNotCome_15 : decode cX0_firstNotCome 15 = .ok (.istore_n 3, 1) := by decide +kernel
theorem dX0_firstNotCome_16 : decode cX0_firstNotCome 16 = .ok (.iload_n 3, 1) := by decide +kernel
theorem dX0_firstNotCome_17 : decode cX0_firstNotCome 17 = .ok (.iload_n 2, 1) := by decide +kernel
theorem dX0_firstNotCome_18 : decode cX0_firstNotCome 18 = .ok (.if_icmp .ge 20, 3) := by decide +kernel
theorem dX0_firstNotCome_21 : decode cX0_firstNotCome 21 = .ok (.aload_n 0, 1) := by decide +kernel
theorem dX0_firstNotCome_22 : decode cX0_firstNotCome 22 = .ok (.getfield 18, 3) := by decide +kernel
theorem dX0_firstNotCome_25 : decode cX0_firstNotCome 25 = .ok (.iload_n 3, 1) := by decide +kernel
theorem dX0_firstNotCome_26 : decode cX0_firstNotCome 26 = .ok (.baload, 1) := by decide +kernel
theorem dX0_firstNotCome_27 : decode cX0_firstNotCome 27 = .ok (.ifCond .ne 5, 3) := by decide +kernel
theorem dX0_firstNotCome_30 : decode cX0_firstNotCome 30 = .ok (.iload_n 3, 1) := by decide +kernel
theorem dX0_firstNotCome_31 : decode cX0_firstNotCome 31 = .ok (.ireturn, 1) := by decide +kernel
theorem dX0_firstNotCome_32 : decode cX0_firstNotCome 32 = .ok (.iinc 3 1, 3) := by decide +kernel
theorem dX0_firstNotCome_35 : decode cX0_firstNotCome 35 = .ok (.goto (-19), 3) := by decide +kernel
theorem dX0_firstNotCome_38 : decode cX0_firstNotCome 38 = .ok (.iload_n 2, 1) := by decide +kernel
theorem dX0_firstNotCome_39 : decode cX0_firstNotCome 39 = .ok (.ireturn, 1) := by decide +kernel
theorem dX0_bound_0 : decode cX0_bound 0 = .ok (.aload_n 0, 1) := by decide +kernel
theorem dX0_bound_1 : decode cX0_bound 1 = .ok (.getfield 25, 3) := by decide +kernel
theorem dX0_bound_4 : decode cX0_bound 4 = .ok (.iconst 0, 1) := by decide +kernel
theorem dX0_bound_5 : decode cX0_bound 5 = .ok (.iaload, 1) := by decide +kernel
theorem dX0_bound_6 : decode cX0_bound 6 = .ok (.istore_n 1, 1) := by decide +kernel
theorem dX0_bound_7 : decode cX0_bound 7 = .ok (.iconst 1, 1) := by decide +kernel
theorem dX0_bound_8 : decode cX0_bound 8 = .ok (.istore_n 2, 1) := by decide +kernel
theorem dX0_bound_9 : decode cX0_bound 9 = .ok (.iload_n 2, 1) := by decide +kernel
theorem dX0_bound_10 : decode cX0_bound 10 = .ok (.iconst 3, 1) := by decide +kernel
theorem dX0_bound_11 : decode cX0_bound 11 = .ok (.if_icmp .ge 20, 3) := by decide +kernel
theorem dX0_bound_14 : decode cX0_bound 14 = .ok (.iload_n 1, 1) := by decide +kernel
theorem dX0_bound_15 : decode cX0_bound 15 = .ok (.aload_n 0, 1) := by decide +kernel
theorem dX0_bound_16 : decode cX0_bound 16 = .ok (.getfield 25, 3) := by decide +kernel
theorem dX0_bound_19 : decode cX0_bound 19 = .ok (.iload_n 2, 1) := by decide +kernel
theorem dX0_bound_20 : decode cX0_bound 20 = .ok (.iaload, 1) := by decide +kernel
theorem dX0_bound_21 : decode cX0_bound 21 = .ok (.invokestatic 70, 3) := by decide +kernel
theorem dX0_bound_24 : decode cX0_bound 24 = .ok (.istore_n 1, 1) := by decide +kernel
theorem dX0_bound_25 : decode cX0_bound 25 = .ok (.iinc 2 1, 3) := by decide +kernel
theorem dX0_bound_28 : decode cX0_bound 28 = .ok (.goto (-19), 3) := by decide +kernel
theorem dX0_bound_31 : decode cX0_bound 31 = .ok (.iload_n 1, 1) := by decide +kernel
theorem dX0_bound_32 : decode cX0_bound 32 = .ok (.ireturn, 1) := by decide +kernel
theorem dX1_init_0 : decode cX1_init 0 = .ok (.aload_n 0, 1) := by decide +kernel
theorem dX1_init_1 : decode cX1_init 1 = .ok (.invokespecial 3, 3) := by decide +kernel
theorem dX1_init_4 : decode cX1_init 4 = .ok (.aload_n 0, 1) := by decide +kernel
theorem dX1_init_5 : decode cX1_init 5 = .ok (.bipush 6, 2) := by decide +kernel
theorem dX1_init_7 : decode cX1_init 7 = .ok (.newarray .int, 2) := by decide +kernel
theorem dX1_init_9 : decode cX1_init 9 = .ok (.putfield 9, 3) := by decide +kernel
theorem dX1_init_12 : decode cX1_init 12 = .ok (.aload_n 0, 1) := by decide +kernel
theorem dX1_init_13 : decode cX1_init 13 = .ok (.bipush 6, 2) := by decide +kernel
theorem dX1_init_15 : decode cX1_init 15 = .ok (.newarray .int, 2) := by decide +kernel
theorem dX1_init_17 : decode cX1_init 17 = .ok (.putfield 15, 3) := by decide +kernel
theorem dX1_init_20 : decode cX1_init 20 = .ok (.aload_n 0, 1) := by decide +kernel
theorem dX1_init_21 : decode cX1_init 21 = .ok (.bipush 6, 2) := by decide +kernel
theorem dX1_init_23 : decode cX1_init 23 = .ok (.newarray .int, 2) := by decide +kernel
theorem dX1_init_25 : decode cX1_init 25 = .ok (.putfield 18, 3) := by decide +kernel
theorem dX1_init_28 : decode cX1_init 28 = .ok (.aload_n 0, 1) := by decide +kernel
theorem dX1_init_29 : decode cX1_init 29 = .ok (.new 21, 3) := by decide +kernel
theorem dX1_init_32 : decode cX1_init 32 = .ok (.dup, 1) := by decide +kernel
theorem dX1_init_33 : decode cX1_init 33 = .ok (.invokespecial 23, 3) := by decide +kernel
theorem dX1_init_36 : decode cX1_init 36 = .ok (.putfield 24, 3) := by decide +kernel
theorem dX1_init_39 : decode cX1_init 39 = .ok (.aload_n 0, 1) := by decide +kernel
theorem dX1_init_40 : decode cX1_init 40 = .ok (.iconst 0, 1) := by decide +kernel
theorem dX1_init_41 : decode cX1_init 41 = .ok (.putfield 28, 3) := by decide +kernel
theorem dX1_init_44 : decode cX1_init 44 = .ok (.aload_n 0, 1) := by decide +kernel
theorem dX1_init_45 : decode cX1_init 45 = .ok (.iconst 0, 1) := by decide +kernel
theorem dX1_init_46 : decode cX1_init 46 = .ok (.putfield 32, 3) := by decide +kernel
theorem dX1_init_49 : decode cX1_init 49 = .ok (.aload_n 0, 1) := by decide +kernel
theorem dX1_init_50 : decode cX1_init 50 = .ok (.iconst 0, 1) := by decide +kernel
theorem dX1_init_51 : decode cX1_init 51 = .ok (.putfield 35, 3) := by decide +kernel
theorem dX1_init_54 : decode cX1_init 54 = .ok (.aload_n 0, 1) := by decide +kernel
theorem dX1_init_55 : decode cX1_init 55 = .ok (.iconst (-1), 1) := by decide +kernel
theorem dX1_init_56 : decode cX1_init 56 = .ok (.putfield 38, 3) := by decide +kernel
theorem dX1_init_59 : decode cX1_init 59 = .ok (.aload_n 0, 1) := by decide +kernel
theorem dX1_init_60 : decode cX1_init 60 = .ok (.iconst 0, 1) := by decide +kernel
theorem dX1_init_61 : decode cX1_init 61 = .ok (.putfield 41, 3) := by decide +kernel
theorem dX1_init_64 : decode cX1_init 64 = .ok (.aload_n 0, 1) := by decide +kernel
theorem dX1_init_65 : decode cX1_init 65 = .ok (.iconst 0, 1) := by decide +kernel
theorem dX1_init_66 : decode cX1_init 66 = .ok (.putfield 45, 3) := by decide +kernel
theorem dX1_init_69 : decode cX1_init 69 = .ok (.aload_n 0, 1) := by decide +kernel
theorem dX1_init_70 : decode cX1_init 70 = .ok (.iload_n 1, 1) := by decide +kernel
theorem dX1_init_71 : decode cX1_init 71 = .ok (.putfield 48, 3) := by decide +kernel
theorem dX1_init_74 : decode cX1_init 74 = .ok (.aload_n 0, 1) := by decide +kernel
theorem dX1_init_75 : decode cX1_init 75 = .ok (.getfield 9, 3) := by decide +kernel
theorem dX1_init_78 : decode cX1_init 78 = .ok (.iconst (-1), 1) := by decide +kernel
theorem dX1_init_79 : decode cX1_init 79 = .ok (.invokestatic 51, 3) := by decide +kernel
theorem dX1_init_82 : decode cX1_init 82 = .ok (.aload_n 0, 1) := by decide +kernel
theorem dX1_init_83 : decode cX1_init 83 = .ok (.getfield 18, 3) := by decide +kernel
theorem dX1_init_86 : decode cX1_init 86 = .ok (.iconst (-1), 1) := by decide +kernel
theorem dX1_init_87 : decode cX1_init 87 = .ok (.invokestatic 51, 3) := by decide +kernel
theorem dX1_init_90 : decode cX1_init 90 = .ok (.return_, 1) := by decide +kernel
theorem dX1_changeWish_0 : decode cX1_changeWish 0 = .ok (.aload_n 0, 1) := by decide +kernel
theorem dX1_changeWish_1 : decode cX1_changeWish 1 = .ok (.getfield 9, 3) := by decide +kernel
theorem dX1_changeWish_4 : decode cX1_changeWish 4 = .ok (.iload_n 1, 1) := by decide +kernel
theorem dX1_changeWish_5 : decode cX1_changeWish 5 = .ok (.iaload, 1) := by decide +kernel
theorem dX1_changeWish_6 : decode cX1_changeWish 6 = .ok (.istore_n 3, 1) := by decide +kernel
theorem dX1_changeWish_7 : decode cX1_changeWish 7 = .ok (.aload_n 0, 1) := by decide +kernel
theorem dX1_changeWish_8 : decode cX1_changeWish 8 = .ok (.getfield 9, 3) := by decide +kernel
theorem dX1_changeWish_11 : decode cX1_changeWish 11 = .ok (.iload_n 1, 1) := by decide +kernel
theorem dX1_changeWish_12 : decode cX1_changeWish 12 = .ok (.iload_n 2, 1) := by decide +kernel
theorem dX1_changeWish_13 : decode cX1_changeWish 13 = .ok (.iastore, 1) := by decide +kernel
theorem dX1_changeWish_14 : decode cX1_changeWish 14 = .ok (.iload_n 3, 1) := by decide +kernel
theorem dX1_changeWish_15 : decode cX1_changeWish 15 = .ok (.ireturn, 1) := by decide +kernel
theorem dX1_changeAllowed_0 : decode cX1_changeAllowed 0 = .ok (.aload_n 0, 1) := by decide +kernel
theorem dX1_changeAllowed_1 : decode cX1_changeAllowed 1 = .ok (.getfield 15, 3) := by decide +kernel
theorem dX1_changeAllowed_4 : decode cX1_changeAllowed 4 = .ok (.iload_n 1, 1) := by decide +kernel
theorem dX1_changeAllowed_5 : decode cX1_changeAllowed 5 = .ok (.iaload, 1) := by decide +kernel
theorem dX1_changeAllowed_6 : decode cX1_changeAllowed 6 = .ok (.istore_n 3, 1) := by decide +kernel
theorem dX1_changeAllowed_7 : decode cX1_changeAllowed 7 = .ok (.aload_n 0, 1) := by decide +kernel
theorem dX1_changeAllowed_8 : decode cX1_changeAllowed 8 = .ok (.getfield 15, 3) := by decide +kernel
theorem dX1_changeAllowed_11 : decode cX1_changeAllowed 11 = .ok (.iload_n 1, 1) := by decide +kernel
theorem dX1_changeAllowed_12 : decode cX1_changeAllowed 12 = .ok (.iload_n 2, 1) := by decide +kernel
theorem dX1_changeAllowed_13 : decode cX1_changeAllowed 13 = .ok (.iastore, 1) := by decide +kernel
theorem dX1_changeAllowed_14 : decode cX1_changeAllowed 14 = .ok (.iload_n 3, 1) := by decide +kernel
theorem dX1_changeAllowed_15 : decode cX1_changeAllowed 15 = .ok (.ireturn, 1) := by decide +kernel
theorem dX1_changeMagic_0 : decode cX1_changeMagic 0 = .ok (.aload_n 0, 1) := by decide +kernel
theorem dX1_changeMagic_1 : decode cX1_changeMagic 1 = .ok (.getfield 48, 3) := by decide +kernel
theorem dX1_changeMagic_4 : decode cX1_changeMagic 4 = .ok (.istore_n 2, 1) := by decide +kernel
theorem dX1_changeMagic_5 : decode cX1_changeMagic 5 = .ok (.aload_n 0, 1) := by decide +kernel
theorem dX1_changeMagic_6 : decode cX1_changeMagic 6 = .ok (.iload_n 1, 1) := by decide +kernel
theorem dX1_changeMagic_7 : decode cX1_changeMagic 7 = .ok (.putfield 48, 3) := by decide +kernel
theorem dX1_changeMagic_10 : decode cX1_changeMagic 10 = .ok (.iload_n 2, 1) := by decide +kernel
theorem dX1_changeMagic_11 : decode cX1_changeMagic 11 = .ok (.ireturn, 1) := by decide +kernel
theorem dX1_begin_0 : decode cX1_begin 0 = .ok (.aload_n 0, 1) := by decide +kernel
theorem dX1_begin_1 : decode cX1_begin 1 = .ok (.getfield 9, 3) := by decide +kernel
theorem dX1_begin_4 : decode cX1_begin 4 = .ok (.iconst 0, 1) := by decide +kernel
theorem dX1_begin_5 : decode cX1_begin 5 = .ok (.aload_n 0, 1) := by decide +kernel
theorem dX1_begin_6 : decode cX1_begin 6 = .ok (.getfield 18, 3) := by decide +kernel
theorem dX1_begin_9 : decode cX1_begin 9 = .ok (.iconst 0, 1) := by decide +kernel
theorem dX1_begin_10 : decode cX1_begin 10 = .ok (.bipush 6, 2) := by decide +kernel
theorem dX1_begin_12 : decode cX1_begin 12 = .ok (.invokestatic 57, 3) := by decide +kernel
theorem dX1_begin_15 : decode cX1_begin 15 = .ok (.aload_n 0, 1) := by decide +kernel
theorem dX1_begin_16 : decode cX1_begin 16 = .ok (.iconst 0, 1) := by decide +kernel
theorem dX1_begin_17 : decode cX1_begin 17 = .ok (.putfield 35, 3) := by decide +kernel
theorem dX1_begin_20 : decode cX1_begin 20 = .ok (.aload_n 0, 1) := by decide +kernel
theorem dX1_begin_21 : decode cX1_begin 21 = .ok (.iconst 1, 1) := by decide +kernel
theorem dX1_begin_22 : decode cX1_begin 22 = .ok (.putfield 28, 3) := by decide +kernel
theorem dX1_begin_25 : decode cX1_begin 25 = .ok (.aload_n 0, 1) := by decide +kernel
theorem dX1_begin_26 : decode cX1_begin 26 = .ok (.invokevirtual 63, 3) := by decide +kernel
theorem dX1_begin_29 : decode cX1_begin 29 = .ok (.pop, 1) := by decide +kernel
theorem dX1_begin_30 : decode cX1_begin 30 = .ok (.aload_n 0, 1) := by decide +kernel
theorem dX1_begin_31 : decode cX1_begin 31 = .ok (.getfield 38, 3) := by decide +kernel
theorem dX1_begin_34 : decode cX1_begin 34 = .ok (.ireturn, 1) := by decide +kernel
theorem dX1_finish_0 : decode cX1_finish 0 = .ok (.aload_n 0, 1) := by decide +kernel
theorem dX1_finish_1 : decode cX1_finish 1 = .ok (.getfield 28, 3) := by decide +kernel
theorem dX1_finish_4 : decode cX1_finish 4 = .ok (.istore_n 1, 1) := by decide +kernel
theorem dX1_finish_5 : decode cX1_finish 5 = .ok (.aload_n 0, 1) := by decide +kernel
theorem dX1_finish_6 : decode cX1_finish 6 = .ok (.invokevirtual 67, 3) := by decide +kernel
theorem dX1_finish_9 : decode cX1_finish 9 = .ok (.aload_n 0, 1) := by decide +kernel
theorem dX1_finish_10 : decode cX1_finish 10 = .ok (.iconst 0, 1) := by decide +kernel
theorem dX1_finish_11 : decode cX1_finish 11 = .ok (.putfield 28, 3) := by decide +kernel
theorem dX1_finish_14 : decode cX1_finish 14 = .ok (.iload_n 1, 1) := by decide +kernel
theorem dX1_finish_15 : decode cX1_finish 15 = .ok (.ireturn, 1) := by decide +kernel
theorem dX1_tick_0 : decode cX1_tick 0 = .ok (.aload_n 0, 1) := by decide +kernel
theorem dX1_tick_1 : decode cX1_tick 1 = .ok (.getfield 28, 3) := by decide +kernel
theorem dX1_tick_4 : decode cX1_tick 4 = .ok (.ifCond .eq 11, 3) := by decide +kernel
theorem dX1_tick_7 : decode cX1_tick 7 = .ok (.aload_n 0, 1) := by decide +kernel
theorem dX1_tick_8 : decode cX1_tick 8 = .ok (.getfield 28, 3) := by decide +kernel
theorem dX1_tick_11 : decode cX1_tick 11 = .ok (.iconst 4, 1) := by decide +kernel
theorem dX1_tick_12 : decode cX1_tick 12 = .ok (.if_icmp .ne 5, 3) := by decide +kernel
theorem dX1_tick_15 : decode cX1_tick 15 = .ok (.iconst 0, 1) := by decide +kernel
theorem dX1_tick_16 : decode cX1_tick 16 = .ok (.ireturn, 1) := by decide +kernel
theorem dX1_tick_17 : decode cX1_tick 17 = .ok (.aload_n 0, 1) := by decide +kernel
theorem dX1_tick_18 : decode cX1_tick 18 = .ok (.dup, 1) := by decide +kernel
theorem dX1_tick_19 : decode cX1_tick 19 = .ok (.getfield 32, 3) := by decide +kernel
theorem dX1_tick_22 : decode cX1_tick 22 = .ok (.iconst 1, 1) := by decide +kernel
theorem dX1_tick_23 : decode cX1_tick 23 = .ok (.isub, 1) := by decide +kernel
theorem dX1_tick_24 : decode cX1_tick 24 = .ok (.putfield 32, 3) := by decide +kernel
theorem dX1_tick_27 : decode cX1_tick 27 = .ok (.aload_n 0, 1) := by decide +kernel
theorem dX1_tick_28 : decode cX1_tick 28 = .ok (.getfield 32, 3) := by decide +kernel
theorem dX1_tick_31 : decode cX1_tick 31 = .ok (.ifCond .le 5, 3) := by decide +kernel
theorem dX1_tick_34 : decode cX1_tick 34 = .ok (.iconst 0, 1) := by decide +kernel
theorem dX1_tick_35 : decode cX1_tick 35 = .ok (.ireturn, 1) := by decide +kernel
theorem dX1_tick_36 : decode cX1_tick 36 = .ok (.aload_n 0, 1) := by decide +kernel
theorem dX1_tick_37 : decode cX1_tick 37 = .ok (.getfield 28, 3) := by decide +kernel
theorem dX1_tick_40 : decode cX1_tick 40 = .ok (.iconst 2, 1) := by decide +kernel
theorem dX1_tick_41 : decode cX1_tick 41 = .ok (.if_icmp .ne 8, 3) := by decide +kernel
theorem dX1_tick_44 : decode cX1_tick 44 = .ok (.aload_n 0, 1) := by decide +kernel
theorem dX1_tick_45 : decode cX1_tick 45 = .ok (.iconst 1, 1) := by decide +kernel
theorem dX1_tick_46 : decode cX1_tick 46 = .ok (.putfield 28, 3) := by decide +kernel
theorem dX1_tick_49 : decode cX1_tick 49 = .ok (.aload_n 0, 1) := by decide +kernel
theorem dX1_tick_50 : decode cX1_tick 50 = .ok (.invokevirtual 63, 3) := by decide +kernel
theorem dX1_tick_53 : decode cX1_tick 53 = .ok (.ireturn, 1) := by decide +kernel
theorem dX1_hear_0 : decode cX1_hear 0 = .ok (.aload_n 1, 1) := by decide +kernel
theorem dX1_hear_1 : decode cX1_hear 1 = .ok (.getfield 70, 3) := by decide +kernel
theorem dX1_hear_4 : decode cX1_hear 4 = .ok (.lookupswitch 44 #[(0, 28), (4, 36)], 28) := by decide +kernel
theorem dX1_hear_32 : decode cX1_hear 32 = .ok (.aload_n 0, 1) := by decide +kernel
theorem dX1_hear_33 : decode cX1_hear 33 = .ok (.aload_n 1, 1) := by decide +kernel
theorem dX1_hear_34 : decode cX1_hear 34 = .ok (.invokevirtual 75, 3) := by decide +kernel
theorem dX1_hear_37 : decode cX1_hear 37 = .ok (.goto 16, 3) := by decide +kernel
theorem dX1_hear_40 : decode cX1_hear 40 = .ok (.aload_n 0, 1) := by decide +kernel
theorem dX1_hear_41 : decode cX1_hear 41 = .ok (.iconst 0, 1) := by decide +kernel
theorem dX1_hear_42 : decode cX1_hear 42 = .ok (.putfield 28, 3) := by decide +kernel
theorem dX1_hear_45 : decode cX1_hear 45 = .ok (.goto 8, 3) := by decide +kernel
theorem dX1_hear_48 : decode cX1_hear 48 = .ok (.aload_n 0, 1) := by decide +kernel
theorem dX1_hear_49 : decode cX1_hear 49 = .ok (.aload_n 1, 1) := by decide +kernel
theorem dX1_hear_50 : decode cX1_hear 50 = .ok (.invokevirtual 79, 3) := by decide +kernel
theorem dX1_hear_53 : decode cX1_hear 53 = .ok (.return_, 1) := by decide +kernel
theorem dX1_hearRequest_0 : decode cX1_hearRequest 0 = .ok (.aload_n 0, 1) := by decide +kernel
theorem dX1_hearRequest_1 : decode cX1_hearRequest 1 = .ok (.aload_n 1, 1) := by decide +kernel
theorem dX1_hearRequest_2 : decode cX1_hearRequest 2 = .ok (.getfield 82, 3) := by decide +kernel
theorem dX1_hearRequest_5 : decode cX1_hearRequest 5 = .ok (.aload_n 0, 1) := by decide +kernel
theorem dX1_hearRequest_6 : decode cX1_hearRequest 6 = .ok (.getfield 48, 3) := by decide +kernel
theorem dX1_hearRequest_9 : decode cX1_hearRequest 9 = .ok (.if_icmp .ne 7, 3) := by decide +kernel
theorem dX1_hearRequest_12 : decode cX1_hearRequest 12 = .ok (.iconst 1, 1) := by decide +kernel
theorem dX1_hearRequest_13 : decode cX1_hearRequest 13 = .ok (.goto 4, 3) := by decide +kernel
theorem dX1_hearRequest_16 : decode cX1_hearRequest 16 = .ok (.iconst 0, 1) := by decide +kernel
theorem dX1_hearRequest_17 : decode cX1_hearRequest 17 = .ok (.putfield 41, 3) := by decide +kernel
theorem dX1_hearRequest_20 : decode cX1_hearRequest 20 = .ok (.aload_n 0, 1) := by decide +kernel
theorem dX1_hearRequest_21 : decode cX1_hearRequest 21 = .ok (.getfield 41, 3) := by decide +kernel
theorem dX1_hearRequest_24 : decode cX1_hearRequest 24 = .ok (.ifCond .eq 4, 3) := by decide +kernel
theorem dX1_hearRequest_27 : decode cX1_hearRequest 27 = .ok (.return_, 1) := by decide +kernel
theorem dX1_hearRequest_28 : decode cX1_hearRequest 28 = .ok (.aload_n 0, 1) := by decide +kernel
theorem dX1_hearRequest_29 : decode cX1_hearRequest 29 = .ok (.getfield 28, 3) := by decide +kernel
theorem dX1_hearRequest_32 : decode cX1_hearRequest 32 = .ok (.ifCond .ne 8, 3) := by decide +kernel
theorem dX1_hearRequest_35 : decode cX1_hearRequest 35 = .ok (.aload_n 0, 1) := by decide +kernel
theorem dX1_hearRequest_36 : decode cX1_hearRequest 36 = .ok (.invokevirtual 67, 3) := by decide +kernel
theorem dX1_hearRequest_39 : decode cX1_hearRequest 39 = .ok (.return_, 1) := by decide +kernel
theorem dX1_hearRequest_40 : decode cX1_hearRequest 40 = .ok (.aload_n 0, 1) := by decide +kernel
theorem dX1_hearRequest_41 : decode cX1_hearRequest 41 = .ok (.getfield 28, 3) := by decide +kernel
theorem dX1_hearRequest_44 : decode cX1_hearRequest 44 = .ok (.iconst 4, 1) := by decide +kernel
theorem dX1_hearRequest_45 : decode cX1_hearRequest 45 = .ok (.if_icmp .ne 16, 3) := by decide +kernel
theorem dX1_hearRequest_48 : decode cX1_hearRequest 48 = .ok (.aload_n 0, 1) := by decide +kernel
theorem dX1_hearRequest_49 : decode cX1_hearRequest 49 = .ok (.invokevirtual 63, 3) := by decide +kernel
theorem dX1_hearRequest_52 : decode cX1_hearRequest 52 = .ok (.ifCond .ne 4, 3) := by decide +kernel
theorem dX1_hearRequest_55 : decode cX1_hearRequest 55 = .ok (.return_, 1) := by decide +kernel
theorem dX1_hearRequest_56 : decode cX1_hearRequest 56 = .ok (.aload_n 0, 1) := by decide +kernel
theorem dX1_hearRequest_57 : decode cX1_hearRequest 57 = .ok (.iconst 1, 1) := by decide +kernel
theorem dX1_hearRequest_58 : decode cX1_hearRequest 58 = .ok (.putfield 28, 3) := by decide +kernel
theorem dX1_hearRequest_61 : decode cX1_hearRequest 61 = .ok (.aload_n 0, 1) := by decide +kernel
theorem dX1_hearRequest_62 : decode cX1_hearRequest 62 = .ok (.aload_n 1, 1) := by decide +kernel
theorem dX1_hearRequest_63 : decode cX1_hearRequest 63 = .ok (.invokevirtual 83, 3) := by decide +kernel
theorem dX1_hearRequest_66 : decode cX1_hearRequest 66 = .ok (.return_, 1) := by decide +kernel
theorem dX1_hearAnswer_0 : decode cX1_hearAnswer 0 = .ok (.aload_n 0, 1) := by decide +kernel
theorem dX1_hearAnswer_1 : decode cX1_hearAnswer 1 = .ok (.getfield 28, 3) := by decide +kernel
theorem dX1_hearAnswer_4 : decode cX1_hearAnswer 4 = .ok (.iconst 1, 1) := by decide +kernel
theorem dX1_hearAnswer_5 : decode cX1_hearAnswer 5 = .ok (.if_icmp .eq 11, 3) := by decide +kernel
theorem dX1_hearAnswer_8 : decode cX1_hearAnswer 8 = .ok (.aload_n 0, 1) := by decide +kernel
theorem dX1_hearAnswer_9 : decode cX1_hearAnswer 9 = .ok (.getfield 28, 3) := by decide +kernel
theorem dX1_hearAnswer_12 : decode cX1_hearAnswer 12 = .ok (.iconst 3, 1) := by decide +kernel
theorem dX1_hearAnswer_13 : decode cX1_hearAnswer 13 = .ok (.if_icmp .ne 7, 3) := by decide +kernel
theorem dX1_hearAnswer_16 : decode cX1_hearAnswer 16 = .ok (.iconst 1, 1) := by decide +kernel
theorem dX1_hearAnswer_17 : decode cX1_hearAnswer 17 = .ok (.goto 4, 3) := by decide +kernel
theorem dX1_hearAnswer_20 : decode cX1_hearAnswer 20 = .ok (.iconst 0, 1) := by decide +kernel
theorem dX1_hearAnswer_21 : decode cX1_hearAnswer 21 = .ok (.istore_n 2, 1) := by decide +kernel
theorem dX1_hearAnswer_22 : decode cX1_hearAnswer 22 = .ok (.iload_n 2, 1) := by decide +kernel
theorem dX1_hearAnswer_23 : decode cX1_hearAnswer 23 = .ok (.ifCond .eq 14, 3) := by decide +kernel
theorem dX1_hearAnswer_26 : decode cX1_hearAnswer 26 = .ok (.aload_n 1, 1) := by decide +kernel
theorem dX1_hearAnswer_27 : decode cX1_hearAnswer 27 = .ok (.getfield 86, 3) := by decide +kernel
theorem dX1_hearAnswer_30 : decode cX1_hearAnswer 30 = .ok (.aload_n 0, 1) := by decide +kernel
theorem dX1_hearAnswer_31 : decode cX1_hearAnswer 31 = .ok (.getfield 38, 3) := by decide +kernel
theorem dX1_hearAnswer_34 : decode cX1_hearAnswer 34 = .ok (.if_icmp .eq 4, 3) := by decide +kernel
theorem dX1_hearAnswer_37 : decode cX1_hearAnswer 37 = .ok (.return_, 1) := by decide +kernel
theorem dX1_hearAnswer_38 : decode cX1_hearAnswer 38 = .ok (.aload_n 1, 1) := by decide +kernel
theorem dX1_hearAnswer_39 : decode cX1_hearAnswer 39 = .ok (.getfield 70, 3) := by decide +kernel
theorem dX1_hearAnswer_42 : decode cX1_hearAnswer 42 = .ok (.iconst 1, 1) := by decide +kernel
theorem dX1_hearAnswer_43 : decode cX1_hearAnswer 43 = .ok (.if_icmp .ne 21, 3) := by decide +kernel
theorem dX1_hearAnswer_46 : decode cX1_hearAnswer 46 = .ok (.aload_n 0, 1) := by decide +kernel
theorem dX1_hearAnswer_47 : decode cX1_hearAnswer 47 = .ok (.aload_n 0, 1) := by decide +kernel
theorem dX1_hearAnswer_48 : decode cX1_hearAnswer 48 = .ok (.getfield 28, 3) := by decide +kernel
theorem dX1_hearAnswer_51 : decode cX1_hearAnswer 51 = .ok (.iconst 1, 1) := by decide +kernel
theorem dX1_hearAnswer_52 : decode cX1_hearAnswer 52 = .ok (.if_icmp .ne 7, 3) := by decide +kernel
theorem dX1_hearAnswer_55 : decode cX1_hearAnswer 55 = .ok (.iconst 2, 1) := by decide +kernel
theorem dX1_hearAnswer_56 : decode cX1_hearAnswer 56 = .ok (.goto 4, 3) := by decide +kernel
theorem dX1_hearAnswer_59 : decode cX1_hearAnswer 59 = .ok (.iconst 4, 1) := by decide +kernel
theorem dX1_hearAnswer_60 : decode cX1_hearAnswer 60 = .ok (.putfield 28, 3) := by decide +kernel
theorem dX1_hearAnswer_63 : decode cX1_hearAnswer 63 = .ok (.return_, 1) := by decide +kernel
theorem dX1_hearAnswer_64 : decode cX1_hearAnswer 64 = .ok (.aload_n 0, 1) := by decide +kernel
theorem dX1_hearAnswer_65 : decode cX1_hearAnswer 65 = .ok (.aload_n 1, 1) := by decide +kernel
theorem dX1_hearAnswer_66 : decode cX1_hearAnswer 66 = .ok (.invokevirtual 89, 3) := by decide +kernel
theorem dX1_hearAnswer_69 : decode cX1_hearAnswer 69 = .ok (.aload_n 0, 1) := by decide +kernel
theorem dX1_hearAnswer_70 : decode cX1_hearAnswer 70 = .ok (.invokevirtual 63, 3) := by decide +kernel
theorem dX1_hearAnswer_73 : decode cX1_hearAnswer 73 = .ok (.pop, 1) := by decide +kernel
theorem dX1_hearAnswer_74 : decode cX1_hearAnswer 74 = .ok (.return_, 1) := by decide +kernel
theorem dX1_changeAskedFor_0 : decode cX1_changeAskedFor 0 = .ok (.iconst 0, 1) := by decide +kernel
theorem dX1_changeAskedFor_1 : decode cX1_changeAskedFor 1 = .ok (.istore_n 2, 1) := by decide +kernel
theorem dX1_changeAskedFor_2 : decode cX1_changeAskedFor 2 = .ok (.iload_n 2, 1) := by decide +kernel
theorem dX1_changeAskedFor_3 : decode cX1_changeAskedFor 3 = .ok (.bipush 6, 2) := by decide +kernel
theorem dX1_changeAskedFor_5 : decode cX1_changeAskedFor 5 = .ok (.if_icmp .ge 43, 3) := by decide +kernel
theorem dX1_changeAskedFor_8 : decode cX1_changeAskedFor 8 = .ok (.aload_n 1, 1) := by decide +kernel
theorem dX1_changeAskedFor_9 : decode cX1_changeAskedFor 9 = .ok (.getfield 92, 3) := by decide +kernel
theorem dX1_changeAskedFor_12 : decode cX1_changeAskedFor 12 = .ok (.iload_n 2, 1) := by decide +kernel
theorem dX1_changeAskedFor_13 : decode cX1_changeAskedFor 13 = .ok (.iaload, 1) := by decide +kernel
theorem dX1_changeAskedFor_14 : decode cX1_changeAskedFor 14 = .ok (.iconst (-1), 1) := by decide +kernel
theorem dX1_changeAskedFor_15 : decode cX1_changeAskedFor 15 = .ok (.if_icmp .eq 27, 3) := by decide +kernel
theorem dX1_changeAskedFor_18 : decode cX1_changeAskedFor 18 = .ok (.aload_n 0, 1) := by decide +kernel
theorem dX1_changeAskedFor_19 : decode cX1_changeAskedFor 19 = .ok (.getfield 18, 3) := by decide +kernel
theorem dX1_changeAskedFor_22 : decode cX1_changeAskedFor 22 = .ok (.iload_n 2, 1) := by decide +kernel
theorem dX1_changeAskedFor_23 : decode cX1_changeAskedFor 23 = .ok (.aload_n 1, 1) := by decide +kernel
theorem dX1_changeAskedFor_24 : decode cX1_changeAskedFor 24 = .ok (.getfield 70, 3) := by decide +kernel
theorem dX1_changeAskedFor_27 : decode cX1_changeAskedFor 27 = .ok (.iconst 2, 1) := by decide +kernel
theorem dX1_changeAskedFor_28 : decode cX1_changeAskedFor 28 = .ok (.if_icmp .ne 12, 3) := by decide +kernel
theorem dX1_changeAskedFor_31 : decode cX1_changeAskedFor 31 = .ok (.aload_n 1, 1) := by decide +kernel
theorem dX1_changeAskedFor_32 : decode cX1_changeAskedFor 32 = .ok (.getfield 92, 3) := by decide +kernel
theorem dX1_changeAskedFor_35 : decode cX1_changeAskedFor 35 = .ok (.iload_n 2, 1) := by decide +kernel
theorem dX1_changeAskedFor_36 : decode cX1_changeAskedFor 36 = .ok (.iaload, 1) := by decide +kernel
theorem dX1_changeAskedFor_37 : decode cX1_changeAskedFor 37 = .ok (.goto 4, 3) := by decide +kernel
theorem dX1_changeAskedFor_40 : decode cX1_changeAskedFor 40 = .ok (.iconst (-1), 1) := by decide +kernel
theorem dX1_changeAskedFor_41 : decode cX1_changeAskedFor 41 = .ok (.iastore, 1) := by decide +kernel
theorem dX1_changeAskedFor_42 : decode cX1_changeAskedFor 42 = .ok (.iinc 2 1, 3) := by decide +kernel
theorem dX1_changeAskedFor_45 : decode cX1_changeAskedFor 45 = .ok (.goto (-43), 3) := by decide +kernel
theorem dX1_changeAskedFor_48 : decode cX1_changeAskedFor 48 = .ok (.return_, 1) := by decide +kernel
theorem dX1_ask_0 : decode cX1_ask 0 = .ok (.aload_n 0, 1) := by decide +kernel
theorem dX1_ask_1 : decode cX1_ask 1 = .ok (.getfield 35, 3) := by decide +kernel
theorem dX1_ask_4 : decode cX1_ask 4 = .ok (.bipush 10, 2) := by decide +kernel
theorem dX1_ask_6 : decode cX1_ask 6 = .ok (.if_icmp .lt 10, 3) := by decide +kernel
theorem dX1_ask_9 : decode cX1_ask 9 = .ok (.aload_n 0, 1) := by decide +kernel
theorem dX1_ask_10 : decode cX1_ask 10 = .ok (.iconst 0, 1) := by decide +kernel
theorem dX1_ask_11 : decode cX1_ask 11 = .ok (.putfield 28, 3) := by decide +kernel
theorem dX1_ask_14 : decode cX1_ask 14 = .ok (.iconst 0, 1) := by decide +kernel
theorem dX1_ask_15 : decode cX1_ask 15 = .ok (.ireturn, 1) := by decide +kernel
theorem dX1_ask_16 : decode cX1_ask 16 = .ok (.aload_n 0, 1) := by decide +kernel
theorem dX1_ask_17 : decode cX1_ask 17 = .ok (.dup, 1) := by decide +kernel
theorem dX1_ask_18 : decode cX1_ask 18 = .ok (.getfield 35, 3) := by decide +kernel
theorem dX1_ask_21 : decode cX1_ask 21 = .ok (.iconst 1, 1) := by decide +kernel
theorem dX1_ask_22 : decode cX1_ask 22 = .ok (.iadd, 1) := by decide +kernel
theorem dX1_ask_23 : decode cX1_ask 23 = .ok (.putfield 35, 3) := by decide +kernel
theorem dX1_ask_26 : decode cX1_ask 26 = .ok (.aload_n 0, 1) := by decide +kernel
theorem dX1_ask_27 : decode cX1_ask 27 = .ok (.dup, 1) := by decide +kernel
theorem dX1_ask_28 : decode cX1_ask 28 = .ok (.getfield 38, 3) := by decide +kernel
theorem dX1_ask_31 : decode cX1_ask 31 = .ok (.iconst 1, 1) := by decide +kernel
theorem dX1_ask_32 : decode cX1_ask 32 = .ok (.iadd, 1) := by decide +kernel
theorem dX1_ask_33 : decode cX1_ask 33 = .ok (.putfield 38, 3) := by decide +kernel
theorem dX1_ask_36 : decode cX1_ask 36 = .ok (.aload_n 0, 1) := by decide +kernel
theorem dX1_ask_37 : decode cX1_ask 37 = .ok (.iconst 3, 1) := by decide +kernel
theorem dX1_ask_38 : decode cX1_ask 38 = .ok (.putfield 32, 3) := by decide +kernel
theorem dX1_ask_41 : decode cX1_ask 41 = .ok (.aload_n 0, 1) := by decide +kernel
theorem dX1_ask_42 : decode cX1_ask 42 = .ok (.getfield 24, 3) := by decide +kernel
theorem dX1_ask_45 : decode cX1_ask 45 = .ok (.new 71, 3) := by decide +kernel
theorem dX1_ask_48 : decode cX1_ask 48 = .ok (.dup, 1) := by decide +kernel
theorem dX1_ask_49 : decode cX1_ask 49 = .ok (.iconst 0, 1) := by decide +kernel
theorem dX1_ask_50 : decode cX1_ask 50 = .ok (.aload_n 0, 1) := by decide +kernel
theorem dX1_ask_51 : decode cX1_ask 51 = .ok (.getfield 38, 3) := by decide +kernel
theorem dX1_ask_54 : decode cX1_ask 54 = .ok (.aload_n 0, 1) := by decide +kernel
theorem dX1_ask_55 : decode cX1_ask 55 = .ok (.getfield 48, 3) := by decide +kernel
theorem dX1_ask_58 : decode cX1_ask 58 = .ok (.aload_n 0, 1) := by decide +kernel
theorem dX1_ask_59 : decode cX1_ask 59 = .ok (.getfield 18, 3) := by decide +kernel
theorem dX1_ask_62 : decode cX1_ask 62 = .ok (.bipush 6, 2) := by decide +kernel
theorem dX1_ask_64 : decode cX1_ask 64 = .ok (.invokestatic 95, 3) := by decide +kernel
theorem dX1_ask_67 : decode cX1_ask 67 = .ok (.invokespecial 99, 3) := by decide +kernel
theorem dX1_ask_70 : decode cX1_ask 70 = .ok (.invokevirtual 102, 3) := by decide +kernel
theorem dX1_ask_73 : decode cX1_ask 73 = .ok (.iconst 1, 1) := by decide +kernel
theorem dX1_ask_74 : decode cX1_ask 74 = .ok (.ireturn, 1) := by decide +kernel
theorem dX1_sendStop_0 : decode cX1_sendStop 0 = .ok (.aload_n 0, 1) := by decide +kernel
theorem dX1_sendStop_1 : decode cX1_sendStop 1 = .ok (.getfield 24, 3) := by decide +kernel
theorem dX1_sendStop_4 : decode cX1_sendStop 4 = .ok (.new 71, 3) := by decide +kernel
theorem dX1_sendStop_7 : decode cX1_sendStop 7 = .ok (.dup, 1) := by decide +kernel
theorem dX1_sendStop_8 : decode cX1_sendStop 8 = .ok (.iconst 4, 1) := by decide +kernel
theorem dX1_sendStop_9 : decode cX1_sendStop 9 = .ok (.iconst 0, 1) := by decide +kernel
theorem dX1_sendStop_10 : decode cX1_sendStop 10 = .ok (.iconst 0, 1) := by decide +kernel
theorem dX1_sendStop_11 : decode cX1_sendStop 11 = .ok (.invokestatic 105, 3) := by decide +kernel
theorem dX1_sendStop_14 : decode cX1_sendStop 14 = .ok (.invokespecial 99, 3) := by decide +kernel
theorem dX1_sendStop_17 : decode cX1_sendStop 17 = .ok (.invokevirtual 102, 3) := by decide +kernel
theorem dX1_sendStop_20 : decode cX1_sendStop 20 = .ok (.return_, 1) := by decide +kernel
theorem dX1_answer_0 : decode cX1_answer 0 = .ok (.aload_n 0, 1) := by decide +kernel
theorem dX1_answer_1 : decode cX1_answer 1 = .ok (.aload_n 1, 1) := by decide +kernel
theorem dX1_answer_2 : decode cX1_answer 2 = .ok (.getfield 92, 3) := by decide +kernel
theorem dX1_answer_5 : decode cX1_answer 5 = .ok (.invokevirtual 109, 3) := by decide +kernel
theorem dX1_answer_8 : decode cX1_answer 8 = .ok (.istore_n 2, 1) := by decide +kernel
theorem dX1_answer_9 : decode cX1_answer 9 = .ok (.aload_n 0, 1) := by decide +kernel
theorem dX1_answer_10 : decode cX1_answer 10 = .ok (.getfield 24, 3) := by decide +kernel
theorem dX1_answer_13 : decode cX1_answer 13 = .ok (.new 71, 3) := by decide +kernel
theorem dX1_answer_16 : decode cX1_answer 16 = .ok (.dup, 1) := by decide +kernel
theorem dX1_answer_17 : decode cX1_answer 17 = .ok (.iload_n 2, 1) := by decide +kernel
theorem dX1_answer_18 : decode cX1_answer 18 = .ok (.aload_n 1, 1) := by decide +kernel
theorem dX1_answer_19 : decode cX1_answer 19 = .ok (.getfield 86, 3) := by decide +kernel
theorem dX1_answer_22 : decode cX1_answer 22 = .ok (.iconst 0, 1) := by decide +kernel
theorem dX1_answer_23 : decode cX1_answer 23 = .ok (.aload_n 0, 1) := by decide +kernel
theorem dX1_answer_24 : decode cX1_answer 24 = .ok (.iload_n 2, 1) := by decide +kernel
theorem dX1_answer_25 : decode cX1_answer 25 = .ok (.aload_n 1, 1) := by decide +kernel
theorem dX1_answer_26 : decode cX1_answer 26 = .ok (.getfield 92, 3) := by decide +kernel
theorem dX1_answer_29 : decode cX1_answer 29 = .ok (.invokevirtual 113, 3) := by decide +kernel
theorem dX1_answer_32 : decode cX1_answer 32 = .ok (.invokespecial 99, 3) := by decide +kernel
theorem dX1_answer_35 : decode cX1_answer 35 = .ok (.invokevirtual 102, 3) := by decide +kernel
theorem dX1_answer_38 : decode cX1_answer 38 = .ok (.iload_n 2, 1) := by decide +kernel
theorem dX1_answer_39 : decode cX1_answer 39 = .ok (.iconst 1, 1) := by decide +kernel
theorem dX1_answer_40 : decode cX1_answer 40 = .ok (.if_icmp .eq 26, 3) := by decide +kernel
theorem dX1_answer_43 : decode cX1_answer 43 = .ok (.aload_n 0, 1) := by decide +kernel
theorem dX1_answer_44 : decode cX1_answer 44 = .ok (.aload_n 0, 1) := by decide +kernel
theorem dX1_answer_45 : decode cX1_answer 45 = .ok (.getfield 28, 3) := by decide +kernel
theorem dX1_answer_48 : decode cX1_answer 48 = .ok (.iconst 3, 1) := by decide +kernel
theorem dX1_answer_49 : decode cX1_answer 49 = .ok (.if_icmp .ne 7, 3) := by decide +kernel
theorem dX1_answer_52 : decode cX1_answer 52 = .ok (.iconst 1, 1) := by decide +kernel
theorem dX1_answer_53 : decode cX1_answer 53 = .ok (.goto 7, 3) := by decide +kernel
theorem dX1_answer_56 : decode cX1_answer 56 = .ok (.aload_n 0, 1) := by decide +kernel
theorem dX1_answer_57 : decode cX1_answer 57 = .ok (.getfield 28, 3) := by decide +kernel
theorem dX1_answer_60 : decode cX1_answer 60 = .ok (.putfield 28, 3) := by decide +kernel
theorem dX1_answer_63 : decode cX1_answer 63 = .ok (.goto 32, 3) := by decide +kernel
theorem dX1_answer_66 : decode cX1_answer 66 = .ok (.aload_n 0, 1) := by decide +kernel
theorem dX1_answer_67 : decode cX1_answer 67 = .ok (.getfield 28, 3) := by decide +kernel
theorem dX1_answer_70 : decode cX1_answer 70 = .ok (.iconst 1, 1) := by decide +kernel
theorem dX1_answer_71 : decode cX1_answer 71 = .ok (.if_icmp .ne 11, 3) := by decide +kernel
theorem dX1_answer_74 : decode cX1_answer 74 = .ok (.aload_n 0, 1) := by decide +kernel
theorem dX1_answer_75 : decode cX1_answer 75 = .ok (.iconst 3, 1) := by decide +kernel
theorem dX1_answer_76 : decode cX1_answer 76 = .ok (.putfield 28, 3) := by decide +kernel
theorem dX1_answer_79 : decode cX1_answer 79 = .ok (.goto 16, 3) := by decide +kernel
theorem dX1_answer_82 : decode cX1_answer 82 = .ok (.aload_n 0, 1) := by decide +kernel
theorem dX1_answer_83 : decode cX1_answer 83 = .ok (.getfield 28, 3) := by decide +kernel
theorem dX1_answer_86 : decode cX1_answer 86 = .ok (.iconst 2, 1) := by decide +kernel
theorem dX1_answer_87 : decode cX1_answer 87 = .ok (.if_icmp .ne 8, 3) := by decide +kernel
theorem dX1_answer_90 : decode cX1_answer 90 = .ok (.aload_n 0, 1) := by decide +kernel
theorem dX1_answer_91 : decode cX1_answer 91 = .ok (.iconst 4, 1) := by decide +kernel
theorem dX1_answer_92 : decode cX1_answer 92 = .ok (.putfield 28, 3) := by decide +kernel
theorem dX1_answer_95 : decode cX1_answer 95 = .ok (.return_, 1) := by decide +kernel
theorem dX1_kindOfAnswer_0 : decode cX1_kindOfAnswer 0 = .ok (.iconst 1, 1) := by decide +kernel
theorem dX1_kindOfAnswer_1 : decode cX1_kindOfAnswer 1 = .ok (.istore_n 2, 1) := by decide +kernel
theorem dX1_kindOfAnswer_2 : decode cX1_kindOfAnswer 2 = .ok (.iconst 0, 1) := by decide +kernel
theorem dX1_kindOfAnswer_3 : decode cX1_kindOfAnswer 3 = .ok (.istore_n 3, 1) := by decide +kernel
theorem dX1_kindOfAnswer_4 : decode cX1_kindOfAnswer 4 = .ok (.iload_n 3, 1) := by decide +kernel
theorem dX1_kindOfAnswer_5 : decode cX1_kindOfAnswer 5 = .ok (.bipush 6, 2) := by decide +kernel
theorem dX1_kindOfAnswer_7 : decode cX1_kindOfAnswer 7 = .ok (.if_icmp .ge 35, 3) := by decide +kernel
theorem dX1_kindOfAnswer_10 : decode cX1_kindOfAnswer 10 = .ok (.aload_n 0, 1) := by decide +kernel
theorem dX1_kindOfAnswer_11 : decode cX1_kindOfAnswer 11 = .ok (.iload_n 3, 1) := by decide +kernel
theorem dX1_kindOfAnswer_12 : decode cX1_kindOfAnswer 12 = .ok (.aload_n 1, 1) := by decide +kernel
theorem dX1_kindOfAnswer_13 : decode cX1_kindOfAnswer 13 = .ok (.iload_n 3, 1) := by decide +kernel
theorem dX1_kindOfAnswer_14 : decode cX1_kindOfAnswer 14 = .ok (.iaload, 1) := by decide +kernel
theorem dX1_kindOfAnswer_15 : decode cX1_kindOfAnswer 15 = .ok (.invokevirtual 117, 3) := by decide +kernel
theorem dX1_kindOfAnswer_18 : decode cX1_kindOfAnswer 18 = .ok (.ifCond .eq 5, 3) := by decide +kernel
theorem dX1_kindOfAnswer_21 : decode cX1_kindOfAnswer 21 = .ok (.iconst 3, 1) := by decide +kernel
theorem dX1_kindOfAnswer_22 : decode cX1_kindOfAnswer 22 = .ok (.ireturn, 1) := by decide +kernel
theorem dX1_kindOfAnswer_23 : decode cX1_kindOfAnswer 23 = .ok (.aload_n 0, 1) := by decide +kernel
theorem dX1_kindOfAnswer_24 : decode cX1_kindOfAnswer 24 = .ok (.iload_n 3, 1) := by decide +kernel
theorem dX1_kindOfAnswer_25 : decode cX1_kindOfAnswer 25 = .ok (.aload_n 1, 1) := by decide +kernel
theorem dX1_kindOfAnswer_26 : decode cX1_kindOfAnswer 26 = .ok (.iload_n 3, 1) := by decide +kernel
theorem dX1_kindOfAnswer_27 : decode cX1_kindOfAnswer 27 = .ok (.iaload, 1) := by decide +kernel
theorem dX1_kindOfAnswer_28 : decode cX1_kindOfAnswer 28 = .ok (.invokevirtual 121, 3) := by decide +kernel
theorem dX1_kindOfAnswer_31 : decode cX1_kindOfAnswer 31 = .ok (.ifCond .eq 5, 3) := by decide +kernel
theorem dX1_kindOfAnswer_34 : decode cX1_kindOfAnswer 34 = .ok (.iconst 2, 1) := by decide +kernel
theorem dX1_kindOfAnswer_35 : decode cX1_kindOfAnswer 35 = .ok (.istore_n 2, 1) := by decide +kernel
theorem dX1_kindOfAnswer_36 : decode cX1_kindOfAnswer 36 = .ok (.iinc 3 1, 3) := by decide +kernel
theorem dX1_kindOfAnswer_39 : decode cX1_kindOfAnswer 39 = .ok (.goto (-35), 3) := by decide +kernel
theorem dX1_kindOfAnswer_42 : decode cX1_kindOfAnswer 42 = .ok (.iload_n 2, 1) := by decide +kernel
theorem dX1_kindOfAnswer_43 : decode cX1_kindOfAnswer 43 = .ok (.ireturn, 1) := by decide +kernel
theorem dX1_toldOptions_0 : decode cX1_toldOptions 0 = .ok (.invokestatic 105, 3) := by decide +kernel
theorem dX1_toldOptions_3 : decode cX1_toldOptions 3 = .ok (.astore_n 3, 1) := by decide +kernel
theorem dX1_toldOptions_4 : decode cX1_toldOptions 4 = .ok (.iconst 0, 1) := by decide +kernel
theorem dX1_toldOptions_5 : decode cX1_toldOptions 5 = .ok (.istore 4, 2) := by decide +kernel
theorem dX1_toldOptions_7 : decode cX1_toldOptions 7 = .ok (.iload 4, 2) := by decide +kernel
theorem dX1_toldOptions_9 : decode cX1_toldOptions 9 = .ok (.bipush 6, 2) := by decide +kernel
theorem dX1_toldOptions_11 : decode cX1_toldOptions 11 = .ok (.if_icmp .ge 63, 3) := by decide +kernel
theorem dX1_toldOptions_14 : decode cX1_toldOptions 14 = .ok (.iload_n 1, 1) := by decide +kernel
theorem dX1_toldOptions_15 : decode cX1_toldOptions 15 = .ok (.iconst 3, 1) := by decide +kernel
theorem dX1_toldOptions_16 : decode cX1_toldOptions 16 = .ok (.if_icmp .ne 24, 3) := by decide +kernel
theorem dX1_toldOptions_19 : decode cX1_toldOptions 19 = .ok (.aload_n 0, 1) := by decide +kernel
theorem dX1_toldOptions_20 : decode cX1_toldOptions 20 = .ok (.iload 4, 2) := by decide +kernel
theorem dX1_toldOptions_22 : decode cX1_toldOptions 22 = .ok (.aload_n 2, 1) := by decide +kernel
theorem dX1_toldOptions_23 : decode cX1_toldOptions 23 = .ok (.iload 4, 2) := by decide +kernel
theorem dX1_toldOptions_25 : decode cX1_toldOptions 25 = .ok (.iaload, 1) := by decide +kernel
theorem dX1_toldOptions_26 : decode cX1_toldOptions 26 = .ok (.invokevirtual 117, 3) := by decide +kernel
theorem dX1_toldOptions_29 : decode cX1_toldOptions 29 = .ok (.ifCond .eq 11, 3) := by decide +kernel
theorem dX1_toldOptions_32 : decode cX1_toldOptions 32 = .ok (.aload_n 3, 1) := by decide +kernel
theorem dX1_toldOptions_33 : decode cX1_toldOptions 33 = .ok (.iload 4, 2) := by decide +kernel
theorem dX1_toldOptions_35 : decode cX1_toldOptions 35 = .ok (.aload_n 2, 1) := by decide +kernel
theorem dX1_toldOptions_36 : decode cX1_toldOptions 36 = .ok (.iload 4, 2) := by decide +kernel
theorem dX1_toldOptions_38 : decode cX1_toldOptions 38 = .ok (.iaload, 1) := by decide +kernel
theorem dX1_toldOptions_39 : decode cX1_toldOptions 39 = .ok (.iastore, 1) := by decide +kernel
theorem dX1_toldOptions_40 : decode cX1_toldOptions 40 = .ok (.iload_n 1, 1) := by decide +kernel
theorem dX1_toldOptions_41 : decode cX1_toldOptions 41 = .ok (.iconst 2, 1) := by decide +kernel
theorem dX1_toldOptions_42 : decode cX1_toldOptions 42 = .ok (.if_icmp .ne 26, 3) := by decide +kernel
theorem dX1_toldOptions_45 : decode cX1_toldOptions 45 = .ok (.aload_n 0, 1) := by decide +kernel
theorem dX1_toldOptions_46 : decode cX1_toldOptions 46 = .ok (.iload 4, 2) := by decide +kernel
theorem dX1_toldOptions_48 : decode cX1_toldOptions 48 = .ok (.aload_n 2, 1) := by decide +kernel
theorem dX1_toldOptions_49 : decode cX1_toldOptions 49 = .ok (.iload 4, 2) := by decide +kernel
theorem dX1_toldOptions_51 : decode cX1_toldOptions 51 = .ok (.iaload, 1) := by decide +kernel
theorem dX1_toldOptions_52 : decode cX1_toldOptions 52 = .ok (.invokevirtual 121, 3) := by decide +kernel
theorem dX1_toldOptions_55 : decode cX1_toldOptions 55 = .ok (.ifCond .eq 13, 3) := by decide +kernel
theorem dX1_toldOptions_58 : decode cX1_toldOptions 58 = .ok (.aload_n 3, 1) := by decide +kernel
theorem dX1_toldOptions_59 : decode cX1_toldOptions 59 = .ok (.iload 4, 2) := by decide +kernel
theorem dX1_toldOptions_61 : decode cX1_toldOptions 61 = .ok (.aload_n 0, 1) := by decide +kernel
theorem dX1_toldOptions_62 : decode cX1_toldOptions 62 = .ok (.iload 4, 2) := by decide +kernel
theorem dX1_toldOptions_64 : decode cX1_toldOptions 64 = .ok (.invokevirtual 124, 3) := by decide +kernel
theorem dX1_toldOptions_67 : decode cX1_toldOptions 67 = .ok (.iastore, 1) := by decide +kernel
theorem dX1_toldOptions_68 : decode cX1_toldOptions 68 = .ok (.iinc 4 1, 3) := by decide +kernel
theorem dX1_toldOptions_71 : decode cX1_toldOptions 71 = .ok (.goto (-64), 3) := by decide +kernel
theorem dX1_toldOptions_74 : decode cX1_toldOptions 74 = .ok (.aload_n 3, 1) := by decide +kernel
theorem dX1_toldOptions_75 : decode cX1_toldOptions 75 = .ok (.areturn, 1) := by decide +kernel
theorem dX1_isUnknown_0 : decode cX1_isUnknown 0 = .ok (.iload_n 2, 1) := by decide +kernel
theorem dX1_isUnknown_1 : decode cX1_isUnknown 1 = .ok (.iconst (-1), 1) := by decide +kernel
theorem dX1_isUnknown_2 : decode cX1_isUnknown 2 = .ok (.if_icmp .eq 16, 3) := by decide +kernel
theorem dX1_isUnknown_5 : decode cX1_isUnknown 5 = .ok (.aload_n 0, 1) := by decide +kernel
theorem dX1_isUnknown_6 : decode cX1_isUnknown 6 = .ok (.getfield 15, 3) := by decide +kernel
theorem dX1_isUnknown_9 : decode cX1_isUnknown 9 = .ok (.iload_n 1, 1) := by decide +kernel
theorem dX1_isUnknown_10 : decode cX1_isUnknown 10 = .ok (.iaload, 1) := by decide +kernel
theorem dX1_isUnknown_11 : decode cX1_isUnknown 11 = .ok (.ifCond .ne 7, 3) := by decide +kernel
theorem dX1_isUnknown_14 : decode cX1_isUnknown 14 = .ok (.iconst 1, 1) := by decide +kernel
theorem dX1_isUnknown_15 : decode cX1_isUnknown 15 = .ok (.goto 4, 3) := by decide +kernel
theorem dX1_isUnknown_18 : decode cX1_isUnknown 18 = .ok (.iconst 0, 1) := by decide +kernel
theorem dX1_isUnknown_19 : decode cX1_isUnknown 19 = .ok (.ireturn, 1) := by decide +kernel
theorem dX1_isRefused_0 : decode cX1_isRefused 0 = .ok (.iload_n 2, 1) := by decide +kernel
theorem dX1_isRefused_1 : decode cX1_isRefused 1 = .ok (.iconst (-1), 1) := by decide +kernel
theorem dX1_isRefused_2 : decode cX1_isRefused 2 = .ok (.if_icmp .eq 16, 3) := by decide +kernel
theorem dX1_isRefused_5 : decode cX1_isRefused 5 = .ok (.aload_n 0, 1) := by decide +kernel
theorem dX1_isRefused_6 : decode cX1_isRefused 6 = .ok (.iload_n 1, 1) := by decide +kernel
theorem dX1_isRefused_7 : decode cX1_isRefused 7 = .ok (.iload_n 2, 1) := by decide +kernel
theorem dX1_isRefused_8 : decode cX1_isRefused 8 = .ok (.invokevirtual 128, 3) := by decide +kernel
theorem dX1_isRefused_11 : decode cX1_isRefused 11 = .ok (.ifCond .ne 7, 3) := by decide +kernel
theorem dX1_isRefused_14 : decode cX1_isRefused 14 = .ok (.iconst 1, 1) := by decide +kernel
theorem dX1_isRefused_15 : decode cX1_isRefused 15 = .ok (.goto 4, 3) := by decide +kernel
theorem dX1_isRefused_18 : decode cX1_isRefused 18 = .ok (.iconst 0, 1) := by decide +kernel
theorem dX1_isRefused_19 : decode cX1_isRefused 19 = .ok (.ireturn, 1) := by decide +kernel
theorem dX1_allows_0 : decode cX1_allows 0 = .ok (.aload_n 0, 1) := by decide +kernel
theorem dX1_allows_1 : decode cX1_allows 1 = .ok (.getfield 15, 3) := by decide +kernel
theorem dX1_allows_4 : decode cX1_allows 4 = .ok (.iload_n 1, 1) := by decide +kernel
theorem dX1_allows_5 : decode cX1_allows 5 = .ok (.iaload, 1) := by decide +kernel
theorem dX1_allows_6 : decode cX1_allows 6 = .ok (.iload_n 2, 1) := by decide +kernel
theorem dX1_allows_7 : decode cX1_allows 7 = .ok (.ishr, 1) := by decide +kernel
theorem dX1_allows_8 : decode cX1_allows 8 = .ok (.iconst 1, 1) := by decide +kernel
theorem dX1_allows_9 : decode cX1_allows 9 = .ok (.iand, 1) := by decide +kernel
theorem dX1_allows_10 : decode cX1_allows 10 = .ok (.iconst 1, 1) := by decide +kernel
theorem dX1_allows_11 : decode cX1_allows 11 = .ok (.if_icmp .ne 7, 3) := by decide +kernel
theorem dX1_allows_14 : decode cX1_allows 14 = .ok (.iconst 1, 1) := by decide +kernel
theorem dX1_allows_15 : decode cX1_allows 15 = .ok (.goto 4, 3) := by decide +kernel
theorem dX1_allows_18 : decode cX1_allows 18 = .ok (.iconst 0, 1) := by decide +kernel
theorem dX1_allows_19 : decode cX1_allows 19 = .ok (.ireturn, 1) := by decide +kernel
theorem dX1_lowestAllowed_0 : decode cX1_lowestAllowed 0 = .ok (.iconst 0, 1) := by decide +kernel
theorem dX1_lowestAllowed_1 : decode cX1_lowestAllowed 1 = .ok (.istore_n 2, 1) := by decide +kernel
theorem dX1_lowestAllowed_2 : decode cX1_lowestAllowed 2 = .ok (.iload_n 2, 1) := by decide +kernel
theorem dX1_lowestAllowed_3 : decode cX1_lowestAllowed 3 = .ok (.bipush 9, 2) := by decide +kernel
theorem dX1_lowestAllowed_5 : decode cX1_lowestAllowed 5 = .ok (.if_icmp .gt 20, 3) := by decide +kernel
theorem dX1_lowestAllowed_8 : decode cX1_lowestAllowed 8 = .ok (.aload_n 0, 1) := by decide +kernel
theorem dX1_lowestAllowed_9 : decode cX1_lowestAllowed 9 = .ok (.iload_n 1, 1) := by decide +kernel
theorem dX1_lowestAllowed_10 : decode cX1_lowestAllowed 10 = .ok (.iload_n 2, 1) := by decide +kernel
theorem dX1_lowestAllowed_11 : decode cX1_lowestAllowed 11 = .ok (.invokevirtual 128, 3) := by decide +kernel
theorem dX1_lowestAllowed_14 : decode cX1_lowestAllowed 14 = .ok (.ifCond .eq 5, 3) := by decide +kernel
theorem dX1_lowestAllowed_17 : decode cX1_lowestAllowed 17 = .ok (.iload_n 2, 1) := by decide +kernel
theorem dX1_lowestAllowed_18 : decode cX1_lowestAllowed 18 = .ok (.ireturn, 1) := by decide +kernel
theorem dX1_lowestAllowed_19 : decode cX1_lowestAllowed 19 = .ok (.iinc 2 1, 3) := by decide +kernel
theorem dX1_lowestAllowed_22 : decode cX1_lowestAllowed 22 = .ok (.goto (-20), 3) := by decide +kernel
theorem dX1_lowestAllowed_25 : decode cX1_lowestAllowed 25 = .ok (.iconst (-1), 1) := by decide +kernel
theorem dX1_lowestAllowed_26 : decode cX1_lowestAllowed 26 = .ok (.ireturn, 1) := by decide +kernel
theorem dX1_tellNothing_0 : decode cX1_tellNothing 0 = .ok (.bipush 6, 2) := by decide +kernel
theorem dX1_tellNothing_2 : decode cX1_tellNothing 2 = .ok (.newarray .int, 2) := by decide +kernel
theorem dX1_tellNothing_4 : decode cX1_tellNothing 4 = .ok (.astore_n 0, 1) := by decide +kernel
theorem dX1_tellNothing_5 : decode cX1_tellNothing 5 = .ok (.aload_n 0, 1) := by decide +kernel
theorem dX1_tellNothing_6 : decode cX1_tellNothing 6 = .ok (.iconst (-1), 1) := by decide +kernel
theorem dX1_tellNothing_7 : decode cX1_tellNothing 7 = .ok (.invokestatic 51, 3) := by decide +kernel
theorem dX1_tellNothing_10 : decode cX1_tellNothing 10 = .ok (.aload_n 0, 1) := by decide +kernel
theorem dX1_tellNothing_11 : decode cX1_tellNothing 11 = .ok (.areturn, 1) := by decide +kernel
theorem dX2_init_0 : decode cX2_init 0 = .ok (.aload_n 0, 1) := by decide +kernel
theorem dX2_init_1 : decode cX2_init 1 = .ok (.invokespecial 1, 3) := by decide +kernel
theorem dX2_init_4 : decode cX2_init 4 = .ok (.aload_n 0, 1) := by decide +kernel
theorem dX2_init_5 : decode cX2_init 5 = .ok (.iload_n 1, 1) := by decide +kernel
theorem dX2_init_6 : decode cX2_init 6 = .ok (.putfield 7, 3) := by decide +kernel
theorem dX2_init_9 : decode cX2_init 9 = .ok (.aload_n 0, 1) := by decide +kernel
theorem dX2_init_10 : decode cX2_init 10 = .ok (.iload_n 2, 1) := by decide +kernel
theorem dX2_init_11 : decode cX2_init 11 = .ok (.putfield 13, 3) := by decide +kernel
theorem dX2_init_14 : decode cX2_init 14 = .ok (.aload_n 0, 1) := by decide +kernel
theorem dX2_init_15 : decode cX2_init 15 = .ok (.iload_n 3, 1) := by decide +kernel
theorem dX2_init_16 : decode cX2_init 16 = .ok (.putfield 16, 3) := by decide +kernel
theorem dX2_init_19 : decode cX2_init 19 = .ok (.aload_n 0, 1) := by decide +kernel
theorem dX2_init_20 : decode cX2_init 20 = .ok (.aload 4, 2) := by decide +kernel
theorem dX2_init_22 : decode cX2_init 22 = .ok (.putfield 19, 3) := by decide +kernel
theorem dX2_init_25 : decode cX2_init 25 = .ok (.return_, 1) := by decide +kernel
theorem dX3_init_0 : decode cX3_init 0 = .ok (.aload_n 0, 1) := by decide +kernel
theorem dX3_init_1 : decode cX3_init 1 = .ok (.invokespecial 3, 3) := by decide +kernel
theorem dX3_init_4 : decode cX3_init 4 = .ok (.return_, 1) := by decide +kernel
theorem dX3_put_0 : decode cX3_put 0 = .ok (.aload_n 0, 1) := by decide +kernel
theorem dX3_put_1 : decode cX3_put 1 = .ok (.getfield 9, 3) := by decide +kernel
theorem dX3_put_4 : decode cX3_put 4 = .ok (.sipush 4096, 3) := by decide +kernel
theorem dX3_put_7 : decode cX3_put 7 = .ok (.if_icmp .lt 4, 3) := by decide +kernel
theorem dX3_put_10 : decode cX3_put 10 = .ok (.return_, 1) := by decide +kernel
theorem dX3_put_11 : decode cX3_put 11 = .ok (.aload_n 0, 1) := by decide +kernel
theorem dX3_put_12 : decode cX3_put 12 = .ok (.getfield 15, 3) := by decide +kernel
theorem dX3_put_15 : decode cX3_put 15 = .ok (.ifnonnull 11, 3) := by decide +kernel
theorem dX3_put_18 : decode cX3_put 18 = .ok (.aload_n 0, 1) := by decide +kernel
theorem dX3_put_19 : decode cX3_put 19 = .ok (.aload_n 1, 1) := by decide +kernel
theorem dX3_put_20 : decode cX3_put 20 = .ok (.putfield 19, 3) := by decide +kernel
theorem dX3_put_23 : decode cX3_put 23 = .ok (.goto 11, 3) := by decide +kernel
theorem dX3_put_26 : decode cX3_put 26 = .ok (.aload_n 0, 1) := by decide +kernel
theorem dX3_put_27 : decode cX3_put 27 = .ok (.getfield 15, 3) := by decide +kernel
theorem dX3_put_30 : decode cX3_put 30 = .ok (.aload_n 1, 1) := by decide +kernel
theorem dX3_put_31 : decode cX3_put 31 = .ok (.putfield 22, 3) := by decide +kernel
theorem dX3_put_34 : decode cX3_put 34 = .ok (.aload_n 0, 1) := by decide +kernel
theorem dX3_put_35 : decode cX3_put 35 = .ok (.aload_n 1, 1) := by decide +kernel
theorem dX3_put_36 : decode cX3_put 36 = .ok (.putfield 15, 3) := by decide +kernel
theorem dX3_put_39 : decode cX3_put 39 = .ok (.aload_n 0, 1) := by decide +kernel
theorem dX3_put_40 : decode cX3_put 40 = .ok (.dup, 1) := by decide +kernel
theorem dX3_put_41 : decode cX3_put 41 = .ok (.getfield 9, 3) := by decide +kernel
theorem dX3_put_44 : decode cX3_put 44 = .ok (.iconst 1, 1) := by decide +kernel
theorem dX3_put_45 : decode cX3_put 45 = .ok (.iadd, 1) := by decide +kernel
theorem dX3_put_46 : decode cX3_put 46 = .ok (.putfield 9, 3) := by decide +kernel
theorem dX3_put_49 : decode cX3_put 49 = .ok (.return_, 1) := by decide +kernel
theorem dX3_takeFirst_0 : decode cX3_takeFirst 0 = .ok (.aload_n 0, 1) := by decide +kernel
theorem dX3_takeFirst_1 : decode cX3_takeFirst 1 = .ok (.getfield 19, 3) := by decide +kernel
theorem dX3_takeFirst_4 : decode cX3_takeFirst 4 = .ok (.astore_n 1, 1) := by decide +kernel
theorem dX3_takeFirst_5 : decode cX3_takeFirst 5 = .ok (.aload_n 1, 1) := by decide +kernel
theorem dX3_takeFirst_6 : decode cX3_takeFirst 6 = .ok (.ifnonnull 5, 3) := by decide +kernel
theorem dX3_takeFirst_9 : decode cX3_takeFirst 9 = .ok (.aconst_null, 1) := by decide +kernel
theorem dX3_takeFirst_10 : decode cX3_takeFirst 10 = .ok (.areturn, 1) := by decide +kernel
theorem dX3_takeFirst_11 : decode cX3_takeFirst 11 = .ok (.aload_n 0, 1) := by decide +kernel
theorem dX3_takeFirst_12 : decode cX3_takeFirst 12 = .ok (.aload_n 1, 1) := by decide +kernel
theorem dX3_takeFirst_13 : decode cX3_takeFirst 13 = .ok (.getfield 22, 3) := by decide +kernel
theorem dX3_takeFirst_16 : decode cX3_takeFirst 16 = .ok (.putfield 19, 3) := by decide +kernel
theorem dX3_takeFirst_19 : decode cX3_takeFirst 19 = .ok (.aload_n 0, 1) := by decide +kernel
theorem dX3_takeFirst_20 : decode cX3_takeFirst 20 = .ok (.getfield 19, 3) := by decide +kernel
theorem dX3_takeFirst_23 : decode cX3_takeFirst 23 = .ok (.ifnonnull 8, 3) := by decide +kernel
theorem dX3_takeFirst_26 : decode cX3_takeFirst 26 = .ok (.aload_n 0, 1) := by decide +kernel
theorem dX3_takeFirst_27 : decode cX3_takeFirst 27 = .ok (.aconst_null, 1) := by decide +kernel
theorem dX3_takeFirst_28 : decode cX3_takeFirst 28 = .ok (.putfield 15, 3) := by decide +kernel
theorem dX3_takeFirst_31 : decode cX3_takeFirst 31 = .ok (.aload_n 0, 1) := by decide +kernel
theorem dX3_takeFirst_32 : decode cX3_takeFirst 32 = .ok (.dup, 1) := by decide +kernel
theorem dX3_takeFirst_33 : decode cX3_takeFirst 33 = .ok (.getfield 9, 3) := by decide +kernel
theorem dX3_takeFirst_36 : decode cX3_takeFirst 36 = .ok (.iconst 1, 1) := by decide +kernel
theorem dX3_takeFirst_37 : decode cX3_takeFirst 37 = .ok (.isub, 1) := by decide +kernel
theorem dX3_takeFirst_38 : decode cX3_takeFirst 38 = .ok (.putfield 9, 3) := by decide +kernel
theorem dX3_takeFirst_41 : decode cX3_takeFirst 41 = .ok (.aload_n 1, 1) := by decide +kernel
theorem dX3_takeFirst_42 : decode cX3_takeFirst 42 = .ok (.areturn, 1) := by decide +kernel
theorem dX4_init_0 : decode cX4_init 0 = .ok (.aload_n 0, 1) := by decide +kernel
theorem dX4_init_1 : decode cX4_init 1 = .ok (.invokespecial 1, 3) := by decide +kernel
theorem dX4_init_4 : decode cX4_init 4 = .ok (.aload_n 0, 1) := by decide +kernel
theorem dX4_init_5 : decode cX4_init 5 = .ok (.new 7, 3) := by decide +kernel
theorem dX4_init_8 : decode cX4_init 8 = .ok (.dup, 1) := by decide +kernel
theorem dX4_init_9 : decode cX4_init 9 = .ok (.iconst 1, 1) := by decide +kernel
theorem dX4_init_10 : decode cX4_init 10 = .ok (.invokespecial 9, 3) := by decide +kernel
theorem dX4_init_13 : decode cX4_init 13 = .ok (.putfield 12, 3) := by decide +kernel
theorem dX4_init_16 : decode cX4_init 16 = .ok (.aload_n 0, 1) := by decide +kernel
theorem dX4_init_17 : decode cX4_init 17 = .ok (.new 7, 3) := by decide +kernel
theorem dX4_init_20 : decode cX4_init 20 = .ok (.dup, 1) := by decide +kernel
theorem dX4_init_21 : decode cX4_init 21 = .ok (.iconst 2, 1) := by decide +kernel
theorem dX4_init_22 : decode cX4_init 22 = .ok (.invokespecial 9, 3) := by decide +kernel
theorem dX4_init_25 : decode cX4_init 25 = .ok (.putfield 18, 3) := by decide +kernel
theorem dX4_init_28 : decode cX4_init 28 = .ok (.aload_n 0, 1) := by decide +kernel
theorem dX4_init_29 : decode cX4_init 29 = .ok (.new 21, 3) := by decide +kernel
theorem dX4_init_32 : decode cX4_init 32 = .ok (.dup, 1) := by decide +kernel
theorem dX4_init_33 : decode cX4_init 33 = .ok (.invokespecial 23, 3) := by decide +kernel
theorem dX4_init_36 : decode cX4_init 36 = .ok (.putfield 24, 3) := by decide +kernel
theorem dX4_init_39 : decode cX4_init 39 = .ok (.return_, 1) := by decide +kernel
theorem dX4_wish_0 : decode cX4_wish 0 = .ok (.aload_n 0, 1) := by decide +kernel
theorem dX4_wish_1 : decode cX4_wish 1 = .ok (.iload_n 1, 1) := by decide +kernel
theorem dX4_wish_2 : decode cX4_wish 2 = .ok (.invokevirtual 28, 3) := by decide +kernel
theorem dX4_wish_5 : decode cX4_wish 5 = .ok (.astore 4, 2) := by decide +kernel
theorem dX4_wish_7 : decode cX4_wish 7 = .ok (.iload_n 2, 1) := by decide +kernel
theorem dX4_wish_8 : decode cX4_wish 8 = .ok (.invokestatic 32, 3) := by decide +kernel
theorem dX4_wish_11 : decode cX4_wish 11 = .ok (.iload_n 3, 1) := by decide +kernel
theorem dX4_wish_12 : decode cX4_wish 12 = .ok (.iconst (-1), 1) := by decide +kernel
theorem dX4_wish_13 : decode cX4_wish 13 = .ok (.if_icmp .lt 9, 3) := by decide +kernel
theorem dX4_wish_16 : decode cX4_wish 16 = .ok (.iload_n 3, 1) := by decide +kernel
theorem dX4_wish_17 : decode cX4_wish 17 = .ok (.bipush 9, 2) := by decide +kernel
theorem dX4_wish_19 : decode cX4_wish 19 = .ok (.if_icmp .le 13, 3) := by decide +kernel
theorem dX4_wish_22 : decode cX4_wish 22 = .ok (.new 35, 3) := by decide +kernel
theorem dX4_wish_25 : decode cX4_wish 25 = .ok (.dup, 1) := by decide +kernel
theorem dX4_wish_26 : decode cX4_wish 26 = .ok (.ldc 37, 2) := by decide +kernel
theorem dX4_wish_28 : decode cX4_wish 28 = .ok (.invokespecial 39, 3) := by decide +kernel
theorem dX4_wish_31 : decode cX4_wish 31 = .ok (.athrow, 1) := by decide +kernel
theorem dX4_wish_32 : decode cX4_wish 32 = .ok (.aload 4, 2) := by decide +kernel
theorem dX4_wish_34 : decode cX4_wish 34 = .ok (.iload_n 2, 1) := by decide +kernel
theorem dX4_wish_35 : decode cX4_wish 35 = .ok (.iload_n 3, 1) := by decide +kernel
theorem dX4_wish_36 : decode cX4_wish 36 = .ok (.invokevirtual 42, 3) := by decide +kernel
theorem dX4_wish_39 : decode cX4_wish 39 = .ok (.ireturn, 1) := by decide +kernel
theorem dX4_allow_0 : decode cX4_allow 0 = .ok (.aload_n 0, 1) := by decide +kernel
theorem dX4_allow_1 : decode cX4_allow 1 = .ok (.iload_n 1, 1) := by decide +kernel
theorem dX4_allow_2 : decode cX4_allow 2 = .ok (.invokevirtual 28, 3) := by decide +kernel
theorem dX4_allow_5 : decode cX4_allow 5 = .ok (.astore 4, 2) := by decide +kernel
theorem dX4_allow_7 : decode cX4_allow 7 = .ok (.iload_n 2, 1) := by decide +kernel
theorem dX4_allow_8 : decode cX4_allow 8 = .ok (.invokestatic 32, 3) := by decide +kernel
theorem dX4_allow_11 : decode cX4_allow 11 = .ok (.iload_n 3, 1) := by decide +kernel
theorem dX4_allow_12 : decode cX4_allow 12 = .ok (.ifCond .lt 10, 3) := by decide +kernel
theorem dX4_allow_15 : decode cX4_allow 15 = .ok (.iload_n 3, 1) := by decide +kernel
theorem dX4_allow_16 : decode cX4_allow 16 = .ok (.sipush 1023, 3) := by decide +kernel
theorem dX4_allow_19 : decode cX4_allow 19 = .ok (.if_icmp .le 13, 3) := by decide +kernel
theorem dX4_allow_22 : decode cX4_allow 22 = .ok (.new 35, 3) := by decide +kernel
theorem dX4_allow_25 : decode cX4_allow 25 = .ok (.dup, 1) := by decide +kernel
theorem dX4_allow_26 : decode cX4_allow 26 = .ok (.ldc 46, 2) := by decide +kernel
theorem dX4_allow_28 : decode cX4_allow 28 = .ok (.invokespecial 39, 3) := by decide +kernel
theorem dX4_allow_31 : decode cX4_allow 31 = .ok (.athrow, 1) := by decide +kernel
theorem dX4_allow_32 : decode cX4_allow 32 = .ok (.aload 4, 2) := by decide +kernel
theorem dX4_allow_34 : decode cX4_allow 34 = .ok (.iload_n 2, 1) := by decide +kernel
theorem dX4_allow_35 : decode cX4_allow 35 = .ok (.iload_n 3, 1) := by decide +kernel
theorem dX4_allow_36 : decode cX4_allow 36 = .ok (.invokevirtual 48, 3) := by decide +kernel
theorem dX4_allow_39 : decode cX4_allow 39 = .ok (.ireturn, 1) := by decide +kernel
theorem dX4_setMagic_0 : decode cX4_setMagic 0 = .ok (.aload_n 0, 1) := by decide +kernel
theorem dX4_setMagic_1 : decode cX4_setMagic 1 = .ok (.iload_n 1, 1) := by decide +kernel
theorem dX4_setMagic_2 : decode cX4_setMagic 2 = .ok (.invokevirtual 28, 3) := by decide +kernel
theorem dX4_setMagic_5 : decode cX4_setMagic 5 = .ok (.iload_n 2, 1) := by decide +kernel
theorem dX4_setMagic_6 : decode cX4_setMagic 6 = .ok (.invokevirtual 51, 3) := by decide +kernel
theorem dX4_setMagic_9 : decode cX4_setMagic 9 = .ok (.ireturn, 1) := by decide +kernel
theorem dX4_open_0 : decode cX4_open 0 = .ok (.aload_n 0, 1) := by decide +kernel
theorem dX4_open_1 : decode cX4_open 1 = .ok (.iload_n 1, 1) := by decide +kernel
theorem dX4_open_2 : decode cX4_open 2 = .ok (.invokevirtual 28, 3) := by decide +kernel
theorem dX4_open_5 : decode cX4_open 5 = .ok (.astore_n 2, 1) := by decide +kernel
theorem dX4_open_6 : decode cX4_open 6 = .ok (.aload_n 2, 1) := by decide +kernel
theorem dX4_open_7 : decode cX4_open 7 = .ok (.getfield 55, 3) := by decide +kernel
theorem dX4_open_10 : decode cX4_open 10 = .ok (.ifCond .eq 13, 3) := by decide +kernel
theorem dX4_open_13 : decode cX4_open 13 = .ok (.new 59, 3) := by decide +kernel
theorem dX4_open_16 : decode cX4_open 16 = .ok (.dup, 1) := by decide +kernel
theorem dX4_open_17 : decode cX4_open 17 = .ok (.ldc 61, 2) := by decide +kernel
theorem dX4_open_19 : decode cX4_open 19 = .ok (.invokespecial 63, 3) := by decide +kernel
theorem dX4_open_22 : decode cX4_open 22 = .ok (.athrow, 1) := by decide +kernel
theorem dX4_open_23 : decode cX4_open 23 = .ok (.aload_n 2, 1) := by decide +kernel
theorem dX4_open_24 : decode cX4_open 24 = .ok (.invokevirtual 64, 3) := by decide +kernel
theorem dX4_open_27 : decode cX4_open 27 = .ok (.ireturn, 1) := by decide +kernel
theorem dX4_close_0 : decode cX4_close 0 = .ok (.aload_n 0, 1) := by decide +kernel
theorem dX4_close_1 : decode cX4_close 1 = .ok (.iload_n 1, 1) := by decide +kernel
theorem dX4_close_2 : decode cX4_close 2 = .ok (.invokevirtual 28, 3) := by decide +kernel
theorem dX4_close_5 : decode cX4_close 5 = .ok (.astore_n 2, 1) := by decide +kernel
theorem dX4_close_6 : decode cX4_close 6 = .ok (.aload_n 2, 1) := by decide +kernel
theorem dX4_close_7 : decode cX4_close 7 = .ok (.getfield 55, 3) := by decide +kernel
theorem dX4_close_10 : decode cX4_close 10 = .ok (.ifCond .ne 13, 3) := by decide +kernel
theorem dX4_close_13 : decode cX4_close 13 = .ok (.new 59, 3) := by decide +kernel
theorem dX4_close_16 : decode cX4_close 16 = .ok (.dup, 1) := by decide +kernel
theorem dX4_close_17 : decode cX4_close 17 = .ok (.ldc 68, 2) := by decide +kernel
theorem dX4_close_19 : decode cX4_close 19 = .ok (.invokespecial 63, 3) := by decide +kernel
theorem dX4_close_22 : decode cX4_close 22 = .ok (.athrow, 1) := by decide +kernel
theorem dX4_close_23 : decode cX4_close 23 = .ok (.aload_n 2, 1) := by decide +kernel
theorem dX4_close_24 : decode cX4_close 24 = .ok (.invokevirtual 70, 3) := by decide +kernel
theorem dX4_close_27 : decode cX4_close 27 = .ok (.ireturn, 1) := by decide +kernel
theorem dX4_deliver_0 : decode cX4_deliver 0 = .ok (.aload_n 0, 1) := by decide +kernel
theorem dX4_deliver_1 : decode cX4_deliver 1 = .ok (.iload_n 1, 1) := by decide +kernel
theorem dX4_deliver_2 : decode cX4_deliver 2 = .ok (.invokevirtual 28, 3) := by decide +kernel
theorem dX4_deliver_5 : decode cX4_deliver 5 = .ok (.invokestatic 73, 3) := by decide +kernel
theorem dX4_deliver_8 : decode cX4_deliver 8 = .ok (.astore_n 2, 1) := by decide +kernel
theorem dX4_deliver_9 : decode cX4_deliver 9 = .ok (.aload_n 0, 1) := by decide +kernel
theorem dX4_deliver_10 : decode cX4_deliver 10 = .ok (.iconst 1, 1) := by decide +kernel
theorem dX4_deliver_11 : decode cX4_deliver 11 = .ok (.iload_n 1, 1) := by decide +kernel
theorem dX4_deliver_12 : decode cX4_deliver 12 = .ok (.isub, 1) := by decide +kernel
theorem dX4_deliver_13 : decode cX4_deliver 13 = .ok (.invokevirtual 28, 3) := by decide +kernel
theorem dX4_deliver_16 : decode cX4_deliver 16 = .ok (.aload_n 2, 1) := by decide +kernel
theorem dX4_deliver_17 : decode cX4_deliver 17 = .ok (.invokevirtual 77, 3) := by decide +kernel
theorem dX4_deliver_20 : decode cX4_deliver 20 = .ok (.aload_n 2, 1) := by decide +kernel
theorem dX4_deliver_21 : decode cX4_deliver 21 = .ok (.getfield 81, 3) := by decide +kernel
theorem dX4_deliver_24 : decode cX4_deliver 24 = .ok (.ireturn, 1) := by decide +kernel
theorem dX4_lose_0 : decode cX4_lose 0 = .ok (.aload_n 0, 1) := by decide +kernel
theorem dX4_lose_1 : decode cX4_lose 1 = .ok (.iload_n 1, 1) := by decide +kernel
theorem dX4_lose_2 : decode cX4_lose 2 = .ok (.invokevirtual 28, 3) := by decide +kernel
theorem dX4_lose_5 : decode cX4_lose 5 = .ok (.astore_n 2, 1) := by decide +kernel
theorem dX4_lose_6 : decode cX4_lose 6 = .ok (.aload_n 2, 1) := by decide +kernel
theorem dX4_lose_7 : decode cX4_lose 7 = .ok (.invokestatic 73, 3) := by decide +kernel
theorem dX4_lose_10 : decode cX4_lose 10 = .ok (.astore_n 3, 1) := by decide +kernel
theorem dX4_lose_11 : decode cX4_lose 11 = .ok (.aload_n 2, 1) := by decide +kernel
theorem dX4_lose_12 : decode cX4_lose 12 = .ok (.dup, 1) := by decide +kernel
theorem dX4_lose_13 : decode cX4_lose 13 = .ok (.getfield 86, 3) := by decide +kernel
theorem dX4_lose_16 : decode cX4_lose 16 = .ok (.iconst 1, 1) := by decide +kernel
theorem dX4_lose_17 : decode cX4_lose 17 = .ok (.iadd, 1) := by decide +kernel
theorem dX4_lose_18 : decode cX4_lose 18 = .ok (.putfield 86, 3) := by decide +kernel
theorem dX4_lose_21 : decode cX4_lose 21 = .ok (.aload_n 3, 1) := by decide +kernel
theorem dX4_lose_22 : decode cX4_lose 22 = .ok (.getfield 81, 3) := by decide +kernel
theorem dX4_lose_25 : decode cX4_lose 25 = .ok (.ireturn, 1) := by decide +kernel
theorem dX4_loop_0 : decode cX4_loop 0 = .ok (.aload_n 0, 1) := by decide +kernel
theorem dX4_loop_1 : decode cX4_loop 1 = .ok (.iload_n 1, 1) := by decide +kernel
theorem dX4_loop_2 : decode cX4_loop 2 = .ok (.invokevirtual 28, 3) := by decide +kernel
theorem dX4_loop_5 : decode cX4_loop 5 = .ok (.astore_n 2, 1) := by decide +kernel
theorem dX4_loop_6 : decode cX4_loop 6 = .ok (.aload_n 2, 1) := by decide +kernel
theorem dX4_loop_7 : decode cX4_loop 7 = .ok (.invokestatic 73, 3) := by decide +kernel
theorem dX4_loop_10 : decode cX4_loop 10 = .ok (.astore_n 3, 1) := by decide +kernel
theorem dX4_loop_11 : decode cX4_loop 11 = .ok (.aload_n 2, 1) := by decide +kernel
theorem dX4_loop_12 : decode cX4_loop 12 = .ok (.dup, 1) := by decide +kernel
theorem dX4_loop_13 : decode cX4_loop 13 = .ok (.getfield 86, 3) := by decide +kernel
theorem dX4_loop_16 : decode cX4_loop 16 = .ok (.iconst 1, 1) := by decide +kernel
theorem dX4_loop_17 : decode cX4_loop 17 = .ok (.iadd, 1) := by decide +kernel
theorem dX4_loop_18 : decode cX4_loop 18 = .ok (.putfield 86, 3) := by decide +kernel
theorem dX4_loop_21 : decode cX4_loop 21 = .ok (.aload_n 2, 1) := by decide +kernel
theorem dX4_loop_22 : decode cX4_loop 22 = .ok (.aload_n 3, 1) := by decide +kernel
theorem dX4_loop_23 : decode cX4_loop 23 = .ok (.invokevirtual 77, 3) := by decide +kernel
theorem dX4_loop_26 : decode cX4_loop 26 = .ok (.aload_n 3, 1) := by decide +kernel
theorem dX4_loop_27 : decode cX4_loop 27 = .ok (.getfield 81, 3) := by decide +kernel
theorem dX4_loop_30 : decode cX4_loop 30 = .ok (.ireturn, 1) := by decide +kernel
theorem dX4_pass_0 : decode cX4_pass 0 = .ok (.iload_n 1, 1) := by decide +kernel
theorem dX4_pass_1 : decode cX4_pass 1 = .ok (.iconst 1, 1) := by decide +kernel
theorem dX4_pass_2 : decode cX4_pass 2 = .ok (.if_icmp .lt 9, 3) := by decide +kernel
theorem dX4_pass_5 : decode cX4_pass 5 = .ok (.iload_n 1, 1) := by decide +kernel
theorem dX4_pass_6 : decode cX4_pass 6 = .ok (.bipush 50, 2) := by decide +kernel
theorem dX4_pass_8 : decode cX4_pass 8 = .ok (.if_icmp .le 13, 3) := by decide +kernel
theorem dX4_pass_11 : decode cX4_pass 11 = .ok (.new 35, 3) := by decide +kernel
theorem dX4_pass_14 : decode cX4_pass 14 = .ok (.dup, 1) := by decide +kernel
theorem dX4_pass_15 : decode cX4_pass 15 = .ok (.ldc 89, 2) := by decide +kernel
theorem dX4_pass_17 : decode cX4_pass 17 = .ok (.invokespecial 39, 3) := by decide +kernel
theorem dX4_pass_20 : decode cX4_pass 20 = .ok (.athrow, 1) := by decide +kernel
theorem dX4_pass_21 : decode cX4_pass 21 = .ok (.iconst 0, 1) := by decide +kernel
theorem dX4_pass_22 : decode cX4_pass 22 = .ok (.istore_n 2, 1) := by decide +kernel
theorem dX4_pass_23 : decode cX4_pass 23 = .ok (.iconst 0, 1) := by decide +kernel
theorem dX4_pass_24 : decode cX4_pass 24 = .ok (.istore_n 3, 1) := by decide +kernel
theorem dX4_pass_25 : decode cX4_pass 25 = .ok (.iload_n 3, 1) := by decide +kernel
theorem dX4_pass_26 : decode cX4_pass 26 = .ok (.iload_n 1, 1) := by decide +kernel
theorem dX4_pass_27 : decode cX4_pass 27 = .ok (.if_icmp .ge 45, 3) := by decide +kernel
theorem dX4_pass_30 : decode cX4_pass 30 = .ok (.iload_n 2, 1) := by decide +kernel
theorem dX4_pass_31 : decode cX4_pass 31 = .ok (.aload_n 0, 1) := by decide +kernel
theorem dX4_pass_32 : decode cX4_pass 32 = .ok (.getfield 12, 3) := by decide +kernel
theorem dX4_pass_35 : decode cX4_pass 35 = .ok (.invokevirtual 91, 3) := by decide +kernel
theorem dX4_pass_38 : decode cX4_pass 38 = .ok (.ifCond .eq 7, 3) := by decide +kernel
theorem dX4_pass_41 : decode cX4_pass 41 = .ok (.iconst 1, 1) := by decide +kernel
theorem dX4_pass_42 : decode cX4_pass 42 = .ok (.goto 4, 3) := by decide +kernel
theorem dX4_pass_45 : decode cX4_pass 45 = .ok (.iconst 0, 1) := by decide +kernel
theorem dX4_pass_46 : decode cX4_pass 46 = .ok (.iadd, 1) := by decide +kernel
theorem dX4_pass_47 : decode cX4_pass 47 = .ok (.istore_n 2, 1) := by decide +kernel
theorem dX4_pass_48 : decode cX4_pass 48 = .ok (.iload_n 2, 1) := by decide +kernel
theorem dX4_pass_49 : decode cX4_pass 49 = .ok (.aload_n 0, 1) := by decide +kernel
theorem dX4_pass_50 : decode cX4_pass 50 = .ok (.getfield 18, 3) := by decide +kernel
theorem dX4_pass_53 : decode cX4_pass 53 = .ok (.invokevirtual 91, 3) := by decide +kernel
theorem dX4_pass_56 : decode cX4_pass 56 = .ok (.ifCond .eq 7, 3) := by decide +kernel
theorem dX4_pass_59 : decode cX4_pass 59 = .ok (.iconst 1, 1) := by decide +kernel
theorem dX4_pass_60 : decode cX4_pass 60 = .ok (.goto 4, 3) := by decide +kernel
theorem dX4_pass_63 : decode cX4_pass 63 = .ok (.iconst 0, 1) := by decide +kernel
theorem dX4_pass_64 : decode cX4_pass 64 = .ok (.iadd, 1) := by decide +kernel
theorem dX4_pass_65 : decode cX4_pass 65 = .ok (.istore_n 2, 1) := by decide +kernel
theorem dX4_pass_66 : decode cX4_pass 66 = .ok (.iinc 3 1, 3) := by decide +kernel
theorem dX4_pass_69 : decode cX4_pass 69 = .ok (.goto (-44), 3) := by decide +kernel
theorem dX4_pass_72 : decode cX4_pass 72 = .ok (.iload_n 2, 1) := by decide +kernel
theorem dX4_pass_73 : decode cX4_pass 73 = .ok (.ireturn, 1) := by decide +kernel
theorem dX4_stateOf_0 : decode cX4_stateOf 0 = .ok (.aload_n 0, 1) := by decide +kernel
theorem dX4_stateOf_1 : decode cX4_stateOf 1 = .ok (.iload_n 1, 1) := by decide +kernel
theorem dX4_stateOf_2 : decode cX4_stateOf 2 = .ok (.invokevirtual 28, 3) := by decide +kernel
theorem dX4_stateOf_5 : decode cX4_stateOf 5 = .ok (.getfield 55, 3) := by decide +kernel
theorem dX4_stateOf_8 : decode cX4_stateOf 8 = .ok (.ireturn, 1) := by decide +kernel
theorem dX4_asked_0 : decode cX4_asked 0 = .ok (.aload_n 0, 1) := by decide +kernel
theorem dX4_asked_1 : decode cX4_asked 1 = .ok (.iload_n 1, 1) := by decide +kernel
theorem dX4_asked_2 : decode cX4_asked 2 = .ok (.invokevirtual 28, 3) := by decide +kernel
theorem dX4_asked_5 : decode cX4_asked 5 = .ok (.astore_n 3, 1) := by decide +kernel
theorem dX4_asked_6 : decode cX4_asked 6 = .ok (.iload_n 2, 1) := by decide +kernel
theorem dX4_asked_7 : decode cX4_asked 7 = .ok (.invokestatic 32, 3) := by decide +kernel
theorem dX4_asked_10 : decode cX4_asked 10 = .ok (.aload_n 3, 1) := by decide +kernel
theorem dX4_asked_11 : decode cX4_asked 11 = .ok (.getfield 95, 3) := by decide +kernel
theorem dX4_asked_14 : decode cX4_asked 14 = .ok (.iload_n 2, 1) := by decide +kernel
theorem dX4_asked_15 : decode cX4_asked 15 = .ok (.iaload, 1) := by decide +kernel
theorem dX4_asked_16 : decode cX4_asked 16 = .ok (.ireturn, 1) := by decide +kernel
theorem dX4_requests_0 : decode cX4_requests 0 = .ok (.aload_n 0, 1) := by decide +kernel
theorem dX4_requests_1 : decode cX4_requests 1 = .ok (.iload_n 1, 1) := by decide +kernel
theorem dX4_requests_2 : decode cX4_requests 2 = .ok (.invokevirtual 28, 3) := by decide +kernel
theorem dX4_requests_5 : decode cX4_requests 5 = .ok (.getfield 99, 3) := by decide +kernel
theorem dX4_requests_8 : decode cX4_requests 8 = .ok (.ireturn, 1) := by decide +kernel
theorem dX4_isLooped_0 : decode cX4_isLooped 0 = .ok (.aload_n 0, 1) := by decide +kernel
theorem dX4_isLooped_1 : decode cX4_isLooped 1 = .ok (.iload_n 1, 1) := by decide +kernel
theorem dX4_isLooped_2 : decode cX4_isLooped 2 = .ok (.invokevirtual 28, 3) := by decide +kernel
theorem dX4_isLooped_5 : decode cX4_isLooped 5 = .ok (.getfield 102, 3) := by decide +kernel
theorem dX4_isLooped_8 : decode cX4_isLooped 8 = .ok (.ireturn, 1) := by decide +kernel
theorem dX4_underWay_0 : decode cX4_underWay 0 = .ok (.aload_n 0, 1) := by decide +kernel
theorem dX4_underWay_1 : decode cX4_underWay 1 = .ok (.iload_n 1, 1) := by decide +kernel
theorem dX4_underWay_2 : decode cX4_underWay 2 = .ok (.invokevirtual 28, 3) := by decide +kernel
theorem dX4_underWay_5 : decode cX4_underWay 5 = .ok (.getfield 106, 3) := by decide +kernel
theorem dX4_underWay_8 : decode cX4_underWay 8 = .ok (.getfield 110, 3) := by decide +kernel
theorem dX4_underWay_11 : decode cX4_underWay 11 = .ok (.ireturn, 1) := by decide +kernel
theorem dX4_missed_0 : decode cX4_missed 0 = .ok (.aload_n 0, 1) := by decide +kernel
theorem dX4_missed_1 : decode cX4_missed 1 = .ok (.iload_n 1, 1) := by decide +kernel
theorem dX4_missed_2 : decode cX4_missed 2 = .ok (.invokevirtual 28, 3) := by decide +kernel
theorem dX4_missed_5 : decode cX4_missed 5 = .ok (.getfield 86, 3) := by decide +kernel
theorem dX4_missed_8 : decode cX4_missed 8 = .ok (.ireturn, 1) := by decide +kernel
theorem dX4_send_0 : decode cX4_send 0 = .ok (.iload_n 1, 1) := by decide +kernel
theorem dX4_send_1 : decode cX4_send 1 = .ok (.iconst 1, 1) := by decide +kernel
theorem dX4_send_2 : decode cX4_send 2 = .ok (.if_icmp .lt 8, 3) := by decide +kernel
theorem dX4_send_5 : decode cX4_send 5 = .ok (.iload_n 1, 1) := by decide +kernel
theorem dX4_send_6 : decode cX4_send 6 = .ok (.iconst 4, 1) := by decide +kernel
theorem dX4_send_7 : decode cX4_send 7 = .ok (.if_icmp .le 13, 3) := by decide +kernel
theorem dX4_send_10 : decode cX4_send 10 = .ok (.new 35, 3) := by decide +kernel
theorem dX4_send_13 : decode cX4_send 13 = .ok (.dup, 1) := by decide +kernel
theorem dX4_send_14 : decode cX4_send 14 = .ok (.ldc 115, 2) := by decide +kernel
theorem dX4_send_16 : decode cX4_send 16 = .ok (.invokespecial 39, 3) := by decide +kernel
theorem dX4_send_19 : decode cX4_send 19 = .ok (.athrow, 1) := by decide +kernel
theorem dX4_send_20 : decode cX4_send 20 = .ok (.aload_n 0, 1) := by decide +kernel
theorem dX4_send_21 : decode cX4_send 21 = .ok (.getfield 24, 3) := by decide +kernel
theorem dX4_send_24 : decode cX4_send 24 = .ok (.getfield 117, 3) := by decide +kernel
theorem dX4_send_27 : decode cX4_send 27 = .ok (.bipush 60, 2) := by decide +kernel
theorem dX4_send_29 : decode cX4_send 29 = .ok (.if_icmp .lt 13, 3) := by decide +kernel
theorem dX4_send_32 : decode cX4_send 32 = .ok (.new 59, 3) := by decide +kernel
theorem dX4_send_35 : decode cX4_send 35 = .ok (.dup, 1) := by decide +kernel
theorem dX4_send_36 : decode cX4_send 36 = .ok (.ldc 120, 2) := by decide +kernel
theorem dX4_send_38 : decode cX4_send 38 = .ok (.invokespecial 63, 3) := by decide +kernel
theorem dX4_send_41 : decode cX4_send 41 = .ok (.athrow, 1) := by decide +kernel
theorem dX4_send_42 : decode cX4_send 42 = .ok (.aload_n 0, 1) := by decide +kernel
theorem dX4_send_43 : decode cX4_send 43 = .ok (.getfield 24, 3) := by decide +kernel
theorem dX4_send_46 : decode cX4_send 46 = .ok (.iload_n 1, 1) := by decide +kernel
theorem dX4_send_47 : decode cX4_send 47 = .ok (.invokevirtual 122, 3) := by decide +kernel
theorem dX4_send_50 : decode cX4_send 50 = .ok (.ireturn, 1) := by decide +kernel
theorem dX4_come_0 : decode cX4_come 0 = .ok (.aload_n 0, 1) := by decide +kernel
theorem dX4_come_1 : decode cX4_come 1 = .ok (.iload_n 1, 1) := by decide +kernel
theorem dX4_come_2 : decode cX4_come 2 = .ok (.invokevirtual 125, 3) := by decide +kernel
theorem dX4_come_5 : decode cX4_come 5 = .ok (.aload_n 0, 1) := by decide +kernel
theorem dX4_come_6 : decode cX4_come 6 = .ok (.getfield 24, 3) := by decide +kernel
theorem dX4_come_9 : decode cX4_come 9 = .ok (.iload_n 1, 1) := by decide +kernel
theorem dX4_come_10 : decode cX4_come 10 = .ok (.invokevirtual 128, 3) := by decide +kernel
theorem dX4_come_13 : decode cX4_come 13 = .ok (.ireturn, 1) := by decide +kernel
theorem dX4_drop_0 : decode cX4_drop 0 = .ok (.aload_n 0, 1) := by decide +kernel
theorem dX4_drop_1 : decode cX4_drop 1 = .ok (.iload_n 1, 1) := by decide +kernel
theorem dX4_drop_2 : decode cX4_drop 2 = .ok (.invokevirtual 125, 3) := by decide +kernel
theorem dX4_drop_5 : decode cX4_drop 5 = .ok (.aload_n 0, 1) := by decide +kernel
theorem dX4_drop_6 : decode cX4_drop 6 = .ok (.getfield 24, 3) := by decide +kernel
theorem dX4_drop_9 : decode cX4_drop 9 = .ok (.iload_n 1, 1) := by decide +kernel
theorem dX4_drop_10 : decode cX4_drop 10 = .ok (.invokevirtual 131, 3) := by decide +kernel
theorem dX4_drop_13 : decode cX4_drop 13 = .ok (.ireturn, 1) := by decide +kernel
theorem dX4_given_0 : decode cX4_given 0 = .ok (.aload_n 0, 1) := by decide +kernel
theorem dX4_given_1 : decode cX4_given 1 = .ok (.getfield 24, 3) := by decide +kernel
theorem dX4_given_4 : decode cX4_given 4 = .ok (.getfield 134, 3) := by decide +kernel
theorem dX4_given_7 : decode cX4_given 7 = .ok (.ireturn, 1) := by decide +kernel
theorem dX4_givenAt_0 : decode cX4_givenAt 0 = .ok (.iload_n 1, 1) := by decide +kernel
theorem dX4_givenAt_1 : decode cX4_givenAt 1 = .ok (.ifCond .lt 14, 3) := by decide +kernel
theorem dX4_givenAt_4 : decode cX4_givenAt 4 = .ok (.iload_n 1, 1) := by decide +kernel
theorem dX4_givenAt_5 : decode cX4_givenAt 5 = .ok (.aload_n 0, 1) := by decide +kernel
theorem dX4_givenAt_6 : decode cX4_givenAt 6 = .ok (.getfield 24, 3) := by decide +kernel
theorem dX4_givenAt_9 : decode cX4_givenAt 9 = .ok (.getfield 134, 3) := by decide +kernel
theorem dX4_givenAt_12 : decode cX4_givenAt 12 = .ok (.if_icmp .lt 13, 3) := by decide +kernel
theorem dX4_givenAt_15 : decode cX4_givenAt 15 = .ok (.new 137, 3) := by decide +kernel
theorem dX4_givenAt_18 : decode cX4_givenAt 18 = .ok (.dup, 1) := by decide +kernel
theorem dX4_givenAt_19 : decode cX4_givenAt 19 = .ok (.ldc 139, 2) := by decide +kernel
theorem dX4_givenAt_21 : decode cX4_givenAt 21 = .ok (.invokespecial 141, 3) := by decide +kernel
theorem dX4_givenAt_24 : decode cX4_givenAt 24 = .ok (.athrow, 1) := by decide +kernel
theorem dX4_givenAt_25 : decode cX4_givenAt 25 = .ok (.aload_n 0, 1) := by decide +kernel
theorem dX4_givenAt_26 : decode cX4_givenAt 26 = .ok (.getfield 24, 3) := by decide +kernel
theorem dX4_givenAt_29 : decode cX4_givenAt 29 = .ok (.getfield 142, 3) := by decide +kernel
theorem dX4_givenAt_32 : decode cX4_givenAt 32 = .ok (.iload_n 1, 1) := by decide +kernel
theorem dX4_givenAt_33 : decode cX4_givenAt 33 = .ok (.iaload, 1) := by decide +kernel
theorem dX4_givenAt_34 : decode cX4_givenAt 34 = .ok (.ireturn, 1) := by decide +kernel
theorem dX4_next_0 : decode cX4_next 0 = .ok (.aload_n 0, 1) := by decide +kernel
theorem dX4_next_1 : decode cX4_next 1 = .ok (.getfield 24, 3) := by decide +kernel
theorem dX4_next_4 : decode cX4_next 4 = .ok (.getfield 145, 3) := by decide +kernel
theorem dX4_next_7 : decode cX4_next 7 = .ok (.ireturn, 1) := by decide +kernel
theorem dX4_endAt_0 : decode cX4_endAt 0 = .ok (.iload_n 1, 1) := by decide +kernel
theorem dX4_endAt_1 : decode cX4_endAt 1 = .ok (.ifCond .ne 8, 3) := by decide +kernel
theorem dX4_endAt_4 : decode cX4_endAt 4 = .ok (.aload_n 0, 1) := by decide +kernel
theorem dX4_endAt_5 : decode cX4_endAt 5 = .ok (.getfield 12, 3) := by decide +kernel
theorem dX4_endAt_8 : decode cX4_endAt 8 = .ok (.areturn, 1) := by decide +kernel
theorem dX4_endAt_9 : decode cX4_endAt 9 = .ok (.iload_n 1, 1) := by decide +kernel
theorem dX4_endAt_10 : decode cX4_endAt 10 = .ok (.iconst 1, 1) := by decide +kernel
theorem dX4_endAt_11 : decode cX4_endAt 11 = .ok (.if_icmp .ne 8, 3) := by decide +kernel
theorem dX4_endAt_14 : decode cX4_endAt 14 = .ok (.aload_n 0, 1) := by decide +kernel
theorem dX4_endAt_15 : decode cX4_endAt 15 = .ok (.getfield 18, 3) := by decide +kernel
theorem dX4_endAt_18 : decode cX4_endAt 18 = .ok (.areturn, 1) := by decide +kernel
theorem dX4_endAt_19 : decode cX4_endAt 19 = .ok (.new 137, 3) := by decide +kernel
theorem dX4_endAt_22 : decode cX4_endAt 22 = .ok (.dup, 1) := by decide +kernel
theorem dX4_endAt_23 : decode cX4_endAt 23 = .ok (.ldc 148, 2) := by decide +kernel
theorem dX4_endAt_25 : decode cX4_endAt 25 = .ok (.invokespecial 141, 3) := by decide +kernel
theorem dX4_endAt_28 : decode cX4_endAt 28 = .ok (.athrow, 1) := by decide +kernel
theorem dX4_refuseNoOption_0 : decode cX4_refuseNoOption 0 = .ok (.iload_n 0, 1) := by decide +kernel
theorem dX4_refuseNoOption_1 : decode cX4_refuseNoOption 1 = .ok (.ifCond .lt 9, 3) := by decide +kernel
theorem dX4_refuseNoOption_4 : decode cX4_refuseNoOption 4 = .ok (.iload_n 0, 1) := by decide +kernel
theorem dX4_refuseNoOption_5 : decode cX4_refuseNoOption 5 = .ok (.bipush 6, 2) := by decide +kernel
theorem dX4_refuseNoOption_7 : decode cX4_refuseNoOption 7 = .ok (.if_icmp .lt 13, 3) := by decide +kernel
theorem dX4_refuseNoOption_10 : decode cX4_refuseNoOption 10 = .ok (.new 137, 3) := by decide +kernel
theorem dX4_refuseNoOption_13 : decode cX4_refuseNoOption 13 = .ok (.dup, 1) := by decide +kernel
theorem dX4_refuseNoOption_14 : decode cX4_refuseNoOption 14 = .ok (.ldc 150, 2) := by decide +kernel
theorem dX4_refuseNoOption_16 : decode cX4_refuseNoOption 16 = .ok (.invokespecial 141, 3) := by decide +kernel
theorem dX4_refuseNoOption_19 : decode cX4_refuseNoOption 19 = .ok (.athrow, 1) := by decide +kernel
theorem dX4_refuseNoOption_20 : decode cX4_refuseNoOption 20 = .ok (.return_, 1) := by decide +kernel
theorem dX4_takeFrame_0 : decode cX4_takeFrame 0 = .ok (.aload_n 0, 1) := by decide +kernel
theorem dX4_takeFrame_1 : decode cX4_takeFrame 1 = .ok (.getfield 106, 3) := by decide +kernel
theorem dX4_takeFrame_4 : decode cX4_takeFrame 4 = .ok (.invokevirtual 152, 3) := by decide +kernel
theorem dX4_takeFrame_7 : decode cX4_takeFrame 7 = .ok (.astore_n 1, 1) := by decide +kernel
theorem dX4_takeFrame_8 : decode cX4_takeFrame 8 = .ok (.aload_n 1, 1) := by decide +kernel
theorem dX4_takeFrame_9 : decode cX4_takeFrame 9 = .ok (.ifnonnull 13, 3) := by decide +kernel
theorem dX4_takeFrame_12 : decode cX4_takeFrame 12 = .ok (.new 59, 3) := by decide +kernel
theorem dX4_takeFrame_15 : decode cX4_takeFrame 15 = .ok (.dup, 1) := by decide +kernel
theorem dX4_takeFrame_16 : decode cX4_takeFrame 16 = .ok (.ldc 156, 2) := by decide +kernel
theorem dX4_takeFrame_18 : decode cX4_takeFrame 18 = .ok (.invokespecial 63, 3) := by decide +kernel
theorem dX4_takeFrame_21 : decode cX4_takeFrame 21 = .ok (.athrow, 1) := by decide +kernel
theorem dX4_takeFrame_22 : decode cX4_takeFrame 22 = .ok (.aload_n 1, 1) := by decide +kernel
theorem dX4_takeFrame_23 : decode cX4_takeFrame 23 = .ok (.areturn, 1) := by decide +kernel
theorem dX4_refuseEmptyLine_0 : decode cX4_refuseEmptyLine 0 = .ok (.iload_n 1, 1) := by decide +kernel
theorem dX4_refuseEmptyLine_1 : decode cX4_refuseEmptyLine 1 = .ok (.ifCond .lt 8, 3) := by decide +kernel
theorem dX4_refuseEmptyLine_4 : decode cX4_refuseEmptyLine 4 = .ok (.iload_n 1, 1) := by decide +kernel
theorem dX4_refuseEmptyLine_5 : decode cX4_refuseEmptyLine 5 = .ok (.iconst 3, 1) := by decide +kernel
theorem dX4_refuseEmptyLine_6 : decode cX4_refuseEmptyLine 6 = .ok (.if_icmp .lt 13, 3) := by decide +kernel
theorem dX4_refuseEmptyLine_9 : decode cX4_refuseEmptyLine 9 = .ok (.new 137, 3) := by decide +kernel
theorem dX4_refuseEmptyLine_12 : decode cX4_refuseEmptyLine 12 = .ok (.dup, 1) := by decide +kernel
theorem dX4_refuseEmptyLine_13 : decode cX4_refuseEmptyLine 13 = .ok (.ldc 158, 2) := by decide +kernel
theorem dX4_refuseEmptyLine_15 : decode cX4_refuseEmptyLine 15 = .ok (.invokespecial 141, 3) := by decide +kernel
theorem dX4_refuseEmptyLine_18 : decode cX4_refuseEmptyLine 18 = .ok (.athrow, 1) := by decide +kernel
theorem dX4_refuseEmptyLine_19 : decode cX4_refuseEmptyLine 19 = .ok (.aload_n 0, 1) := by decide +kernel
theorem dX4_refuseEmptyLine_20 : decode cX4_refuseEmptyLine 20 = .ok (.getfield 24, 3) := by decide +kernel
theorem dX4_refuseEmptyLine_23 : decode cX4_refuseEmptyLine 23 = .ok (.iload_n 1, 1) := by decide +kernel
theorem dX4_refuseEmptyLine_24 : decode cX4_refuseEmptyLine 24 = .ok (.invokevirtual 160, 3) := by decide +kernel
theorem dX4_refuseEmptyLine_27 : decode cX4_refuseEmptyLine 27 = .ok (.ifCond .ne 13, 3) := by decide +kernel
theorem dX4_refuseEmptyLine_30 : decode cX4_refuseEmptyLine 30 = .ok (.new 59, 3) := by decide +kernel
theorem dX4_refuseEmptyLine_33 : decode cX4_refuseEmptyLine 33 = .ok (.dup, 1) := by decide +kernel
theorem dX4_refuseEmptyLine_34 : decode cX4_refuseEmptyLine 34 = .ok (.ldc 164, 2) := by decide +kernel
theorem dX4_refuseEmptyLine_36 : decode cX4_refuseEmptyLine 36 = .ok (.invokespecial 63, 3) := by decide +kernel
theorem dX4_refuseEmptyLine_39 : decode cX4_refuseEmptyLine 39 = .ok (.athrow, 1) := by decide +kernel
theorem dX4_refuseEmptyLine_40 : decode cX4_refuseEmptyLine 40 = .ok (.return_, 1) := by decide +kernel
theorem dJ9_min_7cf53_0 : decode cJ9_min_7cf53 0 = .ok (.iload_n 0, 1) := by decide +kernel
theorem dJ9_min_7cf53_1 : decode cJ9_min_7cf53 1 = .ok (.iload_n 1, 1) := by decide +kernel
theorem dJ9_min_7cf53_2 : decode cJ9_min_7cf53 2 = .ok (.if_icmp .gt 7, 3) := by decide +kernel
theorem dJ9_min_7cf53_5 : decode cJ9_min_7cf53 5 = .ok (.iload_n 0, 1) := by decide +kernel
theorem dJ9_min_7cf53_6 : decode cJ9_min_7cf53 6 = .ok (.goto 4, 3) := by decide +kernel
theorem dJ9_min_7cf53_9 : decode cJ9_min_7cf53 9 = .ok (.iload_n 1, 1) := by decide +kernel
theorem dJ9_min_7cf53_10 : decode cJ9_min_7cf53 10 = .ok (.ireturn, 1) := by decide +kernel
theorem dJ7_fill_53178_0 : decode cJ7_fill_53178 0 = .ok (.iconst 0, 1) := by decide +kernel
theorem dJ7_fill_53178_1 : decode cJ7_fill_53178 1 = .ok (.istore_n 2, 1) := by decide +kernel
theorem dJ7_fill_53178_2 : decode cJ7_fill_53178 2 = .ok (.aload_n 0, 1) := by decide +kernel
theorem dJ7_fill_53178_3 : decode cJ7_fill_53178 3 = .ok (.arraylength, 1) := by decide +kernel
theorem dJ7_fill_53178_4 : decode cJ7_fill_53178 4 = .ok (.istore_n 3, 1) := by decide +kernel
theorem dJ7_fill_53178_5 : decode cJ7_fill_53178 5 = .ok (.iload_n 2, 1) := by decide +kernel
theorem dJ7_fill_53178_6 : decode cJ7_fill_53178 6 = .ok (.iload_n 3, 1) := by decide +kernel
theorem dJ7_fill_53178_7 : decode cJ7_fill_53178 7 = .ok (.if_icmp .ge 13, 3) := by decide +kernel
theorem dJ7_fill_53178_10 : decode cJ7_fill_53178 10 = .ok (.aload_n 0, 1) := by decide +kernel
theorem dJ7_fill_53178_11 : decode cJ7_fill_53178 11 = .ok (.iload_n 2, 1) := by decide +kernel
theorem dJ7_fill_53178_12 : decode cJ7_fill_53178 12 = .ok (.iload_n 1, 1) := by decide +kernel
theorem dJ7_fill_53178_13 : decode cJ7_fill_53178 13 = .ok (.iastore, 1) := by decide +kernel
theorem dJ7_fill_53178_14 : decode cJ7_fill_53178 14 = .ok (.iinc 2 1, 3) := by decide +kernel
theorem dJ7_fill_53178_17 : decode cJ7_fill_53178 17 = .ok (.goto (-12), 3) := by decide +kernel
theorem dJ7_fill_53178_20 : decode cJ7_fill_53178 20 = .ok (.return_, 1) := by decide +kernel
theorem dJ7_copyOf_59c91_0 : decode cJ7_copyOf_59c91 0 = .ok (.iload_n 1, 1) := by decide +kernel
theorem dJ7_copyOf_59c91_1 : decode cJ7_copyOf_59c91 1 = .ok (.aload_n 0, 1) := by decide +kernel
theorem dJ7_copyOf_59c91_2 : decode cJ7_copyOf_59c91 2 = .ok (.arraylength, 1) := by decide +kernel
theorem dJ7_copyOf_59c91_3 : decode cJ7_copyOf_59c91 3 = .ok (.if_icmp .ne 11, 3) := by decide +kernel
theorem dJ7_copyOf_59c91_6 : decode cJ7_copyOf_59c91 6 = .ok (.aload_n 0, 1) := by decide +kernel
theorem dJ7_copyOf_59c91_7 : decode cJ7_copyOf_59c91 7 = .ok (.invokevirtual 316, 3) := by decide +kernel
theorem dJ7_copyOf_59c91_10 : decode cJ7_copyOf_59c91 10 = .ok (.checkcast 317, 3) := by decide +kernel
theorem dJ7_copyOf_59c91_13 : decode cJ7_copyOf_59c91 13 = .ok (.areturn, 1) := by decide +kernel
theorem dJ7_copyOf_59c91_14 : decode cJ7_copyOf_59c91 14 = .ok (.iload_n 1, 1) := by decide +kernel
theorem dJ7_copyOf_59c91_15 : decode cJ7_copyOf_59c91 15 = .ok (.newarray .int, 2) := by decide +kernel
theorem dJ7_copyOf_59c91_17 : decode cJ7_copyOf_59c91 17 = .ok (.astore_n 2, 1) := by decide +kernel
theorem dJ7_copyOf_59c91_18 : decode cJ7_copyOf_59c91 18 = .ok (.aload_n 0, 1) := by decide +kernel
theorem dJ7_copyOf_59c91_19 : decode cJ7_copyOf_59c91 19 = .ok (.iconst 0, 1) := by decide +kernel
theorem dJ7_copyOf_59c91_20 : decode cJ7_copyOf_59c91 20 = .ok (.aload_n 2, 1) := by decide +kernel
theorem dJ7_copyOf_59c91_21 : decode cJ7_copyOf_59c91 21 = .ok (.iconst 0, 1) := by decide +kernel
theorem dJ7_copyOf_59c91_22 : decode cJ7_copyOf_59c91 22 = .ok (.aload_n 0, 1) := by decide +kernel
theorem dJ7_copyOf_59c91_23 : decode cJ7_copyOf_59c91 23 = .ok (.arraylength, 1) := by decide +kernel
theorem dJ7_copyOf_59c91_24 : decode cJ7_copyOf_59c91 24 = .ok (.iload_n 1, 1) := by decide +kernel
theorem dJ7_copyOf_59c91_25 : decode cJ7_copyOf_59c91 25 = .ok (.invokestatic 304, 3) := by decide +kernel
theorem dJ7_copyOf_59c91_28 : decode cJ7_copyOf_59c91 28 = .ok (.invokestatic 150, 3) := by decide +kernel
theorem dJ7_copyOf_59c91_31 : decode cJ7_copyOf_59c91 31 = .ok (.aload_n 2, 1) := by decide +kernel
theorem dJ7_copyOf_59c91_32 : decode cJ7_copyOf_59c91 32 = .ok (.areturn, 1) := by decide +kernel
end
section
theorem dL_cell_0 : decode cL_cell 0 = .ok (.iload_n 1, 1) := by decide +kernel
theorem dL_cell_1 : decode cL_cell 1 = .ok (.aload_n 0, 1) := by decide +kernel
theorem dL_cell_2 : decode cL_cell 2 = .ok (.arraylength, 1) := by decide +kernel
theorem dL_cell_3 : decode cL_cell 3 = .ok (.if_icmp .ge 9, 3) := by decide +kernel
theorem dL_cell_6 : decode cL_cell 6 = .ok (.aload_n 0, 1) := by decide +kernel
theorem dL_cell_7 : decode cL_cell 7 = .ok (.iload_n 1, 1) := by decide +kernel
theorem dL_cell_8 : decode cL_cell 8 = .ok (.iaload, 1) := by decide +kernel
theorem dL_cell_9 : decode cL_cell 9 = .ok (.goto 10, 3) := by decide +kernel
theorem dL_cell_12 : decode cL_cell 12 = .ok (.ldc 7, 2) := by decide +kernel
theorem dL_cell_14 : decode cL_cell 14 = .ok (.iload_n 1, 1) := by decide +kernel
theorem dL_cell_15 : decode cL_cell 15 = .ok (.bipush 8, 2) := by decide +kernel
theorem dL_cell_17 : decode cL_cell 17 = .ok (.iadd, 1) := by decide +kernel
theorem dL_cell_18 : decode cL_cell 18 = .ok (.imul, 1) := by decide +kernel
theorem dL_cell_19 : decode cL_cell 19 = .ok (.ireturn, 1) := by decide +kernel
theorem dL_low_0 : decode cL_low 0 = .ok (.iload_n 0, 1) := by decide +kernel
theorem dL_low_1 : decode cL_low 1 = .ok (.iconst 1, 1) := by decide +kernel
theorem dL_low_2 : decode cL_low 2 = .ok (.iushr, 1) := by decide +kernel
theorem dL_low_3 : decode cL_low 3 = .ok (.iload_n 1, 1) := by decide +kernel
theorem dL_low_4 : decode cL_low 4 = .ok (.irem, 1) := by decide +kernel
theorem dL_low_5 : decode cL_low 5 = .ok (.ireturn, 1) := by decide +kernel
theorem dL_wish_0 : decode cL_wish 0 = .ok (.aload_n 0, 1) := by decide +kernel
theorem dL_wish_1 : decode cL_wish 1 = .ok (.iload_n 1, 1) := by decide +kernel
theorem dL_wish_2 : decode cL_wish 2 = .ok (.iload_n 2, 1) := by decide +kernel
theorem dL_wish_3 : decode cL_wish 3 = .ok (.iload_n 3, 1) := by decide +kernel
theorem dL_wish_4 : decode cL_wish 4 = .ok (.invokevirtual 8, 3) := by decide +kernel
theorem dL_wish_7 : decode cL_wish 7 = .ok (.istore 4, 2) := by decide +kernel
theorem dL_wish_9 : decode cL_wish 9 = .ok (.goto 13, 3) := by decide +kernel
theorem dL_wish_12 : decode cL_wish 12 = .ok (.astore 5, 2) := by decide +kernel
theorem dL_wish_14 : decode cL_wish 14 = .ok (.bipush (-71), 2) := by decide +kernel
theorem dL_wish_16 : decode cL_wish 16 = .ok (.ireturn, 1) := by decide +kernel
theorem dL_wish_17 : decode cL_wish 17 = .ok (.astore 5, 2) := by decide +kernel
theorem dL_wish_19 : decode cL_wish 19 = .ok (.bipush (-72), 2) := by decide +kernel
theorem dL_wish_21 : decode cL_wish 21 = .ok (.ireturn, 1) := by decide +kernel
theorem dL_wish_22 : decode cL_wish 22 = .ok (.iload 4, 2) := by decide +kernel
theorem dL_wish_24 : decode cL_wish 24 = .ok (.ireturn, 1) := by decide +kernel
theorem dL_allow_0 : decode cL_allow 0 = .ok (.aload_n 0, 1) := by decide +kernel
theorem dL_allow_1 : decode cL_allow 1 = .ok (.iload_n 1, 1) := by decide +kernel
theorem dL_allow_2 : decode cL_allow 2 = .ok (.iload_n 2, 1) := by decide +kernel
theorem dL_allow_3 : decode cL_allow 3 = .ok (.iload_n 3, 1) := by decide +kernel
theorem dL_allow_4 : decode cL_allow 4 = .ok (.invokevirtual 18, 3) := by decide +kernel
theorem dL_allow_7 : decode cL_allow 7 = .ok (.istore 4, 2) := by decide +kernel
theorem dL_allow_9 : decode cL_allow 9 = .ok (.goto 13, 3) := by decide +kernel
theorem dL_allow_12 : decode cL_allow 12 = .ok (.astore 5, 2) := by decide +kernel
theorem dL_allow_14 : decode cL_allow 14 = .ok (.bipush (-71), 2) := by decide +kernel
theorem dL_allow_16 : decode cL_allow 16 = .ok (.ireturn, 1) := by decide +kernel
theorem dL_allow_17 : decode cL_allow 17 = .ok (.astore 5, 2) := by decide +kernel
theorem dL_allow_19 : decode cL_allow 19 = .ok (.bipush (-72), 2) := by decide +kernel
theorem dL_allow_21 : decode cL_allow 21 = .ok (.ireturn, 1) := by decide +kernel
theorem dL_allow_22 : decode cL_allow 22 = .ok (.iload 4, 2) := by decide +kernel
theorem dL_allow_24 : decode cL_allow 24 = .ok (.ireturn, 1) := by decide +kernel
theorem dL_setsMagic_0 : decode cL_setsMagic 0 = .ok (.aload_n 0, 1) := by decide +kernel
theorem dL_setsMagic_1 : decode cL_setsMagic 1 = .ok (.iload_n 1, 1) := by decide +kernel
theorem dL_setsMagic_2 : decode cL_setsMagic 2 = .ok (.iload_n 2, 1) := by decide +kernel
theorem dL_setsMagic_3 : decode cL_setsMagic 3 = .ok (.invokevirtual 21, 3) := by decide +kernel
theorem dL_setsMagic_6 : decode cL_setsMagic 6 = .ok (.iload_n 3, 1) := by decide +kernel
theorem dL_setsMagic_7 : decode cL_setsMagic 7 = .ok (.if_icmp .ne 7, 3) := by decide +kernel
theorem dL_setsMagic_10 : decode cL_setsMagic 10 = .ok (.iconst 1, 1) := by decide +kernel
theorem dL_setsMagic_11 : decode cL_setsMagic 11 = .ok (.goto 4, 3) := by decide +kernel
theorem dL_setsMagic_14 : decode cL_setsMagic 14 = .ok (.iconst 0, 1) := by decide +kernel
theorem dL_setsMagic_15 : decode cL_setsMagic 15 = .ok (.istore 4, 2) := by decide +kernel
theorem dL_setsMagic_17 : decode cL_setsMagic 17 = .ok (.goto 7, 3) := by decide +kernel
theorem dL_setsMagic_20 : decode cL_setsMagic 20 = .ok (.astore 5, 2) := by decide +kernel
theorem dL_setsMagic_22 : decode cL_setsMagic 22 = .ok (.iconst 0, 1) := by decide +kernel
theorem dL_setsMagic_23 : decode cL_setsMagic 23 = .ok (.ireturn, 1) := by decide +kernel
theorem dL_setsMagic_24 : decode cL_setsMagic 24 = .ok (.iload 4, 2) := by decide +kernel
theorem dL_setsMagic_26 : decode cL_setsMagic 26 = .ok (.ireturn, 1) := by decide +kernel
theorem dL_open_0 : decode cL_open 0 = .ok (.aload_n 0, 1) := by decide +kernel
theorem dL_open_1 : decode cL_open 1 = .ok (.iload_n 1, 1) := by decide +kernel
theorem dL_open_2 : decode cL_open 2 = .ok (.invokevirtual 25, 3) := by decide +kernel
theorem dL_open_5 : decode cL_open 5 = .ok (.istore_n 2, 1) := by decide +kernel
theorem dL_open_6 : decode cL_open 6 = .ok (.goto 11, 3) := by decide +kernel
theorem dL_open_9 : decode cL_open 9 = .ok (.astore_n 3, 1) := by decide +kernel
theorem dL_open_10 : decode cL_open 10 = .ok (.bipush (-71), 2) := by decide +kernel
theorem dL_open_12 : decode cL_open 12 = .ok (.ireturn, 1) := by decide +kernel
theorem dL_open_13 : decode cL_open 13 = .ok (.astore_n 3, 1) := by decide +kernel
theorem dL_open_14 : decode cL_open 14 = .ok (.bipush (-73), 2) := by decide +kernel
theorem dL_open_16 : decode cL_open 16 = .ok (.ireturn, 1) := by decide +kernel
theorem dL_open_17 : decode cL_open 17 = .ok (.iload_n 2, 1) := by decide +kernel
theorem dL_open_18 : decode cL_open 18 = .ok (.ireturn, 1) := by decide +kernel
theorem dL_close_0 : decode cL_close 0 = .ok (.aload_n 0, 1) := by decide +kernel
theorem dL_close_1 : decode cL_close 1 = .ok (.iload_n 1, 1) := by decide +kernel
theorem dL_close_2 : decode cL_close 2 = .ok (.invokevirtual 31, 3) := by decide +kernel
theorem dL_close_5 : decode cL_close 5 = .ok (.istore_n 2, 1) := by decide +kernel
theorem dL_close_6 : decode cL_close 6 = .ok (.goto 11, 3) := by decide +kernel
theorem dL_close_9 : decode cL_close 9 = .ok (.astore_n 3, 1) := by decide +kernel
theorem dL_close_10 : decode cL_close 10 = .ok (.bipush (-71), 2) := by decide +kernel
theorem dL_close_12 : decode cL_close 12 = .ok (.ireturn, 1) := by decide +kernel
theorem dL_close_13 : decode cL_close 13 = .ok (.astore_n 3, 1) := by decide +kernel
theorem dL_close_14 : decode cL_close 14 = .ok (.bipush (-73), 2) := by decide +kernel
theorem dL_close_16 : decode cL_close 16 = .ok (.ireturn, 1) := by decide +kernel
theorem dL_close_17 : decode cL_close 17 = .ok (.iload_n 2, 1) := by decide +kernel
theorem dL_close_18 : decode cL_close 18 = .ok (.ireturn, 1) := by decide +kernel
theorem dL_deliver_0 : decode cL_deliver 0 = .ok (.aload_n 0, 1) := by decide +kernel
theorem dL_deliver_1 : decode cL_deliver 1 = .ok (.iload_n 1, 1) := by decide +kernel
theorem dL_deliver_2 : decode cL_deliver 2 = .ok (.invokevirtual 34, 3) := by decide +kernel
theorem dL_deliver_5 : decode cL_deliver 5 = .ok (.istore_n 2, 1) := by decide +kernel
theorem dL_deliver_6 : decode cL_deliver 6 = .ok (.goto 11, 3) := by decide +kernel
theorem dL_deliver_9 : decode cL_deliver 9 = .ok (.astore_n 3, 1) := by decide +kernel
theorem dL_deliver_10 : decode cL_deliver 10 = .ok (.bipush (-71), 2) := by decide +kernel
theorem dL_deliver_12 : decode cL_deliver 12 = .ok (.ireturn, 1) := by decide +kernel
theorem dL_deliver_13 : decode cL_deliver 13 = .ok (.astore_n 3, 1) := by decide +kernel
theorem dL_deliver_14 : decode cL_deliver 14 = .ok (.bipush (-73), 2) := by decide +kernel
theorem dL_deliver_16 : decode cL_deliver 16 = .ok (.ireturn, 1) := by decide +kernel
theorem dL_deliver_17 : decode cL_deliver 17 = .ok (.iload_n 2, 1) := by decide +kernel
theorem dL_deliver_18 : decode cL_deliver 18 = .ok (.ireturn, 1) := by decide +kernel
theorem dL_lose_0 : decode cL_lose 0 = .ok (.aload_n 0, 1) := by decide +kernel
theorem dL_lose_1 : decode cL_lose 1 = .ok (.iload_n 1, 1) := by decide +kernel
theorem dL_lose_2 : decode cL_lose 2 = .ok (.invokevirtual 37, 3) := by decide +kernel
theorem dL_lose_5 : decode cL_lose 5 = .ok (.istore_n 2, 1) := by decide +kernel
theorem dL_lose_6 : decode cL_lose 6 = .ok (.goto 11, 3) := by decide +kernel
theorem dL_lose_9 : decode cL_lose 9 = .ok (.astore_n 3, 1) := by decide +kernel
theorem dL_lose_10 : decode cL_lose 10 = .ok (.bipush (-71), 2) := by decide +kernel
theorem dL_lose_12 : decode cL_lose 12 = .ok (.ireturn, 1) := by decide +kernel
theorem dL_lose_13 : decode cL_lose 13 = .ok (.astore_n 3, 1) := by decide +kernel
theorem dL_lose_14 : decode cL_lose 14 = .ok (.bipush (-73), 2) := by decide +kernel
theorem dL_lose_16 : decode cL_lose 16 = .ok (.ireturn, 1) := by decide +kernel
theorem dL_lose_17 : decode cL_lose 17 = .ok (.iload_n 2, 1) := by decide +kernel
theorem dL_lose_18 : decode cL_lose 18 = .ok (.ireturn, 1) := by decide +kernel
theorem dL_loop_0 : decode cL_loop 0 = .ok (.aload_n 0, 1) := by decide +kernel
theorem dL_loop_1 : decode cL_loop 1 = .ok (.iload_n 1, 1) := by decide +kernel
theorem dL_loop_2 : decode cL_loop 2 = .ok (.invokevirtual 40, 3) := by decide +kernel
theorem dL_loop_5 : decode cL_loop 5 = .ok (.istore_n 2, 1) := by decide +kernel
theorem dL_loop_6 : decode cL_loop 6 = .ok (.goto 11, 3) := by decide +kernel
theorem dL_loop_9 : decode cL_loop 9 = .ok (.astore_n 3, 1) := by decide +kernel
theorem dL_loop_10 : decode cL_loop 10 = .ok (.bipush (-71), 2) := by decide +kernel
theorem dL_loop_12 : decode cL_loop 12 = .ok (.ireturn, 1) := by decide +kernel
theorem dL_loop_13 : decode cL_loop 13 = .ok (.astore_n 3, 1) := by decide +kernel
theorem dL_loop_14 : decode cL_loop 14 = .ok (.bipush (-73), 2) := by decide +kernel
theorem dL_loop_16 : decode cL_loop 16 = .ok (.ireturn, 1) := by decide +kernel
theorem dL_loop_17 : decode cL_loop 17 = .ok (.iload_n 2, 1) := by decide +kernel
theorem dL_loop_18 : decode cL_loop 18 = .ok (.ireturn, 1) := by decide +kernel
theorem dL_pass_0 : decode cL_pass 0 = .ok (.aload_n 0, 1) := by decide +kernel
theorem dL_pass_1 : decode cL_pass 1 = .ok (.iload_n 1, 1) := by decide +kernel
theorem dL_pass_2 : decode cL_pass 2 = .ok (.invokevirtual 43, 3) := by decide +kernel
theorem dL_pass_5 : decode cL_pass 5 = .ok (.istore_n 2, 1) := by decide +kernel
theorem dL_pass_6 : decode cL_pass 6 = .ok (.goto 7, 3) := by decide +kernel
theorem dL_pass_9 : decode cL_pass 9 = .ok (.astore_n 3, 1) := by decide +kernel
theorem dL_pass_10 : decode cL_pass 10 = .ok (.bipush (-72), 2) := by decide +kernel
theorem dL_pass_12 : decode cL_pass 12 = .ok (.ireturn, 1) := by decide +kernel
theorem dL_pass_13 : decode cL_pass 13 = .ok (.iload_n 2, 1) := by decide +kernel
theorem dL_pass_14 : decode cL_pass 14 = .ok (.ireturn, 1) := by decide +kernel
theorem dL_stateOf_0 : decode cL_stateOf 0 = .ok (.aload_n 0, 1) := by decide +kernel
theorem dL_stateOf_1 : decode cL_stateOf 1 = .ok (.iload_n 1, 1) := by decide +kernel
theorem dL_stateOf_2 : decode cL_stateOf 2 = .ok (.invokevirtual 46, 3) := by decide +kernel
theorem dL_stateOf_5 : decode cL_stateOf 5 = .ok (.istore_n 2, 1) := by decide +kernel
theorem dL_stateOf_6 : decode cL_stateOf 6 = .ok (.goto 7, 3) := by decide +kernel
theorem dL_stateOf_9 : decode cL_stateOf 9 = .ok (.astore_n 3, 1) := by decide +kernel
theorem dL_stateOf_10 : decode cL_stateOf 10 = .ok (.bipush (-71), 2) := by decide +kernel
theorem dL_stateOf_12 : decode cL_stateOf 12 = .ok (.ireturn, 1) := by decide +kernel
theorem dL_stateOf_13 : decode cL_stateOf 13 = .ok (.iload_n 2, 1) := by decide +kernel
theorem dL_stateOf_14 : decode cL_stateOf 14 = .ok (.ireturn, 1) := by decide +kernel
theorem dL_asked_0 : decode cL_asked 0 = .ok (.aload_n 0, 1) := by decide +kernel
theorem dL_asked_1 : decode cL_asked 1 = .ok (.iload_n 1, 1) := by decide +kernel
theorem dL_asked_2 : decode cL_asked 2 = .ok (.iload_n 2, 1) := by decide +kernel
theorem dL_asked_3 : decode cL_asked 3 = .ok (.invokevirtual 49, 3) := by decide +kernel
theorem dL_asked_6 : decode cL_asked 6 = .ok (.istore_n 3, 1) := by decide +kernel
theorem dL_asked_7 : decode cL_asked 7 = .ok (.goto 8, 3) := by decide +kernel
theorem dL_asked_10 : decode cL_asked 10 = .ok (.astore 4, 2) := by decide +kernel
theorem dL_asked_12 : decode cL_asked 12 = .ok (.bipush (-71), 2) := by decide +kernel
theorem dL_asked_14 : decode cL_asked 14 = .ok (.ireturn, 1) := by decide +kernel
theorem dL_asked_15 : decode cL_asked 15 = .ok (.iload_n 3, 1) := by decide +kernel
theorem dL_asked_16 : decode cL_asked 16 = .ok (.ireturn, 1) := by decide +kernel
theorem dL_underWay_0 : decode cL_underWay 0 = .ok (.aload_n 0, 1) := by decide +kernel
theorem dL_underWay_1 : decode cL_underWay 1 = .ok (.iload_n 1, 1) := by decide +kernel
theorem dL_underWay_2 : decode cL_underWay 2 = .ok (.invokevirtual 52, 3) := by decide +kernel
theorem dL_underWay_5 : decode cL_underWay 5 = .ok (.istore_n 2, 1) := by decide +kernel
theorem dL_underWay_6 : decode cL_underWay 6 = .ok (.goto 7, 3) := by decide +kernel
theorem dL_underWay_9 : decode cL_underWay 9 = .ok (.astore_n 3, 1) := by decide +kernel
theorem dL_underWay_10 : decode cL_underWay 10 = .ok (.bipush (-71), 2) := by decide +kernel
theorem dL_underWay_12 : decode cL_underWay 12 = .ok (.ireturn, 1) := by decide +kernel
theorem dL_underWay_13 : decode cL_underWay 13 = .ok (.iload_n 2, 1) := by decide +kernel
theorem dL_underWay_14 : decode cL_underWay 14 = .ok (.ireturn, 1) := by decide +kernel
theorem dL_send_0 : decode cL_send 0 = .ok (.aload_n 0, 1) := by decide +kernel
theorem dL_send_1 : decode cL_send 1 = .ok (.iload_n 1, 1) := by decide +kernel
theorem dL_send_2 : decode cL_send 2 = .ok (.invokevirtual 55, 3) := by decide +kernel
theorem dL_send_5 : decode cL_send 5 = .ok (.istore_n 2, 1) := by decide +kernel
theorem dL_send_6 : decode cL_send 6 = .ok (.goto 11, 3) := by decide +kernel
theorem dL_send_9 : decode cL_send 9 = .ok (.astore_n 3, 1) := by decide +kernel
theorem dL_send_10 : decode cL_send 10 = .ok (.bipush (-72), 2) := by decide +kernel
theorem dL_send_12 : decode cL_send 12 = .ok (.ireturn, 1) := by decide +kernel
theorem dL_send_13 : decode cL_send 13 = .ok (.astore_n 3, 1) := by decide +kernel
theorem dL_send_14 : decode cL_send 14 = .ok (.bipush (-73), 2) := by decide +kernel
theorem dL_send_16 : decode cL_send 16 = .ok (.ireturn, 1) := by decide +kernel
theorem dL_send_17 : decode cL_send 17 = .ok (.iload_n 2, 1) := by decide +kernel
theorem dL_send_18 : decode cL_send 18 = .ok (.ireturn, 1) := by decide +kernel
theorem dL_come_0 : decode cL_come 0 = .ok (.aload_n 0, 1) := by decide +kernel
theorem dL_come_1 : decode cL_come 1 = .ok (.iload_n 1, 1) := by decide +kernel
theorem dL_come_2 : decode cL_come 2 = .ok (.invokevirtual 58, 3) := by decide +kernel
theorem dL_come_5 : decode cL_come 5 = .ok (.istore_n 2, 1) := by decide +kernel
theorem dL_come_6 : decode cL_come 6 = .ok (.goto 11, 3) := by decide +kernel
theorem dL_come_9 : decode cL_come 9 = .ok (.astore_n 3, 1) := by decide +kernel
theorem dL_come_10 : decode cL_come 10 = .ok (.bipush (-71), 2) := by decide +kernel
theorem dL_come_12 : decode cL_come 12 = .ok (.ireturn, 1) := by decide +kernel
theorem dL_come_13 : decode cL_come 13 = .ok (.astore_n 3, 1) := by decide +kernel
theorem dL_come_14 : decode cL_come 14 = .ok (.bipush (-73), 2) := by decide +kernel
theorem dL_come_16 : decode cL_come 16 = .ok (.ireturn, 1) := by decide +kernel
theorem dL_come_17 : decode cL_come 17 = .ok (.iload_n 2, 1) := by decide +kernel
theorem dL_come_18 : decode cL_come 18 = .ok (.ireturn, 1) := by decide +kernel
theorem dL_drop_0 : decode cL_drop 0 = .ok (.aload_n 0, 1) := by decide +kernel
theorem dL_drop_1 : decode cL_drop 1 = .ok (.iload_n 1, 1) := by decide +kernel
theorem dL_drop_2 : decode cL_drop 2 = .ok (.invokevirtual 61, 3) := by decide +kernel
theorem dL_drop_5 : decode cL_drop 5 = .ok (.istore_n 2, 1) := by decide +kernel
theorem dL_drop_6 : decode cL_drop 6 = .ok (.goto 11, 3) := by decide +kernel
theorem dL_drop_9 : decode cL_drop 9 = .ok (.astore_n 3, 1) := by decide +kernel
theorem dL_drop_10 : decode cL_drop 10 = .ok (.bipush (-71), 2) := by decide +kernel
theorem dL_drop_12 : decode cL_drop 12 = .ok (.ireturn, 1) := by decide +kernel
theorem dL_drop_13 : decode cL_drop 13 = .ok (.astore_n 3, 1) := by decide +kernel
theorem dL_drop_14 : decode cL_drop 14 = .ok (.bipush (-73), 2) := by decide +kernel
theorem dL_drop_16 : decode cL_drop 16 = .ok (.ireturn, 1) := by decide +kernel
theorem dL_drop_17 : decode cL_drop 17 = .ok (.iload_n 2, 1) := by decide +kernel
theorem dL_drop_18 : decode cL_drop 18 = .ok (.ireturn, 1) := by decide +kernel
theorem dL_givenAt_0 : decode cL_givenAt 0 = .ok (.aload_n 0, 1) := by decide +kernel
theorem dL_givenAt_1 : decode cL_givenAt 1 = .ok (.iload_n 1, 1) := by decide +kernel
theorem dL_givenAt_2 : decode cL_givenAt 2 = .ok (.invokevirtual 64, 3) := by decide +kernel
theorem dL_givenAt_5 : decode cL_givenAt 5 = .ok (.istore_n 2, 1) := by decide +kernel
theorem dL_givenAt_6 : decode cL_givenAt 6 = .ok (.goto 7, 3) := by decide +kernel
theorem dL_givenAt_9 : decode cL_givenAt 9 = .ok (.astore_n 3, 1) := by decide +kernel
theorem dL_givenAt_10 : decode cL_givenAt 10 = .ok (.bipush (-71), 2) := by decide +kernel
theorem dL_givenAt_12 : decode cL_givenAt 12 = .ok (.ireturn, 1) := by decide +kernel
theorem dL_givenAt_13 : decode cL_givenAt 13 = .ok (.iload_n 2, 1) := by decide +kernel
theorem dL_givenAt_14 : decode cL_givenAt 14 = .ok (.ireturn, 1) := by decide +kernel
theorem dL_number_0 : decode cL_number 0 = .ok (.iload_n 0, 1) := by decide +kernel
theorem dL_number_1 : decode cL_number 1 = .ok (.tableswitch 41 0 3 #[31, 33, 35, 38], 31) := by decide +kernel
theorem dL_number_32 : decode cL_number 32 = .ok (.iconst 1, 1) := by decide +kernel
theorem dL_number_33 : decode cL_number 33 = .ok (.ireturn, 1) := by decide +kernel
theorem dL_number_34 : decode cL_number 34 = .ok (.iconst 2, 1) := by decide +kernel
theorem dL_number_35 : decode cL_number 35 = .ok (.ireturn, 1) := by decide +kernel
theorem dL_number_36 : decode cL_number 36 = .ok (.ldc 67, 2) := by decide +kernel
theorem dL_number_38 : decode cL_number 38 = .ok (.ireturn, 1) := by decide +kernel
theorem dL_number_39 : decode cL_number 39 = .ok (.ldc 68, 2) := by decide +kernel
theorem dL_number_41 : decode cL_number 41 = .ok (.ireturn, 1) := by decide +kernel
theorem dL_number_42 : decode cL_number 42 = .ok (.iconst 0, 1) := by decide +kernel
theorem dL_number_43 : decode cL_number 43 = .ok (.ireturn, 1) := by decide +kernel
theorem dL_post_0 : decode cL_post 0 = .ok (.aload_n 0, 1) := by decide +kernel
theorem dL_post_1 : decode cL_post 1 = .ok (.aload_n 1, 1) := by decide +kernel
theorem dL_post_2 : decode cL_post 2 = .ok (.bipush 8, 2) := by decide +kernel
theorem dL_post_4 : decode cL_post 4 = .ok (.iload_n 2, 1) := by decide +kernel
theorem dL_post_5 : decode cL_post 5 = .ok (.imul, 1) := by decide +kernel
theorem dL_post_6 : decode cL_post 6 = .ok (.bipush 7, 2) := by decide +kernel
theorem dL_post_8 : decode cL_post 8 = .ok (.iadd, 1) := by decide +kernel
theorem dL_post_9 : decode cL_post 9 = .ok (.iaload, 1) := by decide +kernel
theorem dL_post_10 : decode cL_post 10 = .ok (.iload_n 3, 1) := by decide +kernel
theorem dL_post_11 : decode cL_post 11 = .ok (.i2l, 1) := by decide +kernel
theorem dL_post_12 : decode cL_post 12 = .ok (.ldc2_w 69, 3) := by decide +kernel
theorem dL_post_15 : decode cL_post 15 = .ok (.lload 5, 2) := by decide +kernel
theorem dL_post_17 : decode cL_post 17 = .ok (.lmul, 1) := by decide +kernel
theorem dL_post_18 : decode cL_post 18 = .ok (.ladd, 1) := by decide +kernel
theorem dL_post_19 : decode cL_post 19 = .ok (.aload_n 1, 1) := by decide +kernel
theorem dL_post_20 : decode cL_post 20 = .ok (.bipush 8, 2) := by decide +kernel
theorem dL_post_22 : decode cL_post 22 = .ok (.iload_n 2, 1) := by decide +kernel
theorem dL_post_23 : decode cL_post 23 = .ok (.imul, 1) := by decide +kernel
theorem dL_post_24 : decode cL_post 24 = .ok (.bipush 6, 2) := by decide +kernel
theorem dL_post_26 : decode cL_post 26 = .ok (.iadd, 1) := by decide +kernel
theorem dL_post_27 : decode cL_post 27 = .ok (.iaload, 1) := by decide +kernel
theorem dL_post_28 : decode cL_post 28 = .ok (.i2l, 1) := by decide +kernel
theorem dL_post_29 : decode cL_post 29 = .ok (.bipush 32, 2) := by decide +kernel
theorem dL_post_31 : decode cL_post 31 = .ok (.lshl, 1) := by decide +kernel
theorem dL_post_32 : decode cL_post 32 = .ok (.ladd, 1) := by decide +kernel
theorem dL_post_33 : decode cL_post 33 = .ok (.iload 4, 2) := by decide +kernel
theorem dL_post_35 : decode cL_post 35 = .ok (.i2l, 1) := by decide +kernel
theorem dL_post_36 : decode cL_post 36 = .ok (.bipush 36, 2) := by decide +kernel
theorem dL_post_38 : decode cL_post 38 = .ok (.lshl, 1) := by decide +kernel
theorem dL_post_39 : decode cL_post 39 = .ok (.ladd, 1) := by decide +kernel
theorem dL_post_40 : decode cL_post 40 = .ok (.lastore, 1) := by decide +kernel
theorem dL_post_41 : decode cL_post 41 = .ok (.aload_n 1, 1) := by decide +kernel
theorem dL_post_42 : decode cL_post 42 = .ok (.bipush 8, 2) := by decide +kernel
theorem dL_post_44 : decode cL_post 44 = .ok (.iload_n 2, 1) := by decide +kernel
theorem dL_post_45 : decode cL_post 45 = .ok (.imul, 1) := by decide +kernel
theorem dL_post_46 : decode cL_post 46 = .ok (.bipush 7, 2) := by decide +kernel
theorem dL_post_48 : decode cL_post 48 = .ok (.iadd, 1) := by decide +kernel
theorem dL_post_49 : decode cL_post 49 = .ok (.dup2, 1) := by decide +kernel
theorem dL_post_50 : decode cL_post 50 = .ok (.iaload, 1) := by decide +kernel
theorem dL_post_51 : decode cL_post 51 = .ok (.iconst 1, 1) := by decide +kernel
theorem dL_post_52 : decode cL_post 52 = .ok (.iadd, 1) := by decide +kernel
theorem dL_post_53 : decode cL_post 53 = .ok (.iastore, 1) := by decide +kernel
theorem dL_post_54 : decode cL_post 54 = .ok (.return_, 1) := by decide +kernel
theorem dL_pull_0 : decode cL_pull 0 = .ok (.aload_n 0, 1) := by decide +kernel
theorem dL_pull_1 : decode cL_pull 1 = .ok (.iconst 0, 1) := by decide +kernel
theorem dL_pull_2 : decode cL_pull 2 = .ok (.laload, 1) := by decide +kernel
theorem dL_pull_3 : decode cL_pull 3 = .ok (.lstore_n 3, 1) := by decide +kernel
theorem dL_pull_4 : decode cL_pull 4 = .ok (.aload_n 1, 1) := by decide +kernel
theorem dL_pull_5 : decode cL_pull 5 = .ok (.bipush 8, 2) := by decide +kernel
theorem dL_pull_7 : decode cL_pull 7 = .ok (.iload_n 2, 1) := by decide +kernel
theorem dL_pull_8 : decode cL_pull 8 = .ok (.imul, 1) := by decide +kernel
theorem dL_pull_9 : decode cL_pull 9 = .ok (.bipush 7, 2) := by decide +kernel
theorem dL_pull_11 : decode cL_pull 11 = .ok (.iadd, 1) := by decide +kernel
theorem dL_pull_12 : decode cL_pull 12 = .ok (.dup2, 1) := by decide +kernel
theorem dL_pull_13 : decode cL_pull 13 = .ok (.iaload, 1) := by decide +kernel
theorem dL_pull_14 : decode cL_pull 14 = .ok (.iconst 1, 1) := by decide +kernel
theorem dL_pull_15 : decode cL_pull 15 = .ok (.isub, 1) := by decide +kernel
theorem dL_pull_16 : decode cL_pull 16 = .ok (.iastore, 1) := by decide +kernel
theorem dL_pull_17 : decode cL_pull 17 = .ok (.iconst 0, 1) := by decide +kernel
theorem dL_pull_18 : decode cL_pull 18 = .ok (.istore 5, 2) := by decide +kernel
theorem dL_pull_20 : decode cL_pull 20 = .ok (.iload 5, 2) := by decide +kernel
theorem dL_pull_22 : decode cL_pull 22 = .ok (.aload_n 1, 1) := by decide +kernel
theorem dL_pull_23 : decode cL_pull 23 = .ok (.bipush 8, 2) := by decide +kernel
theorem dL_pull_25 : decode cL_pull 25 = .ok (.iload_n 2, 1) := by decide +kernel
theorem dL_pull_26 : decode cL_pull 26 = .ok (.imul, 1) := by decide +kernel
theorem dL_pull_27 : decode cL_pull 27 = .ok (.bipush 7, 2) := by decide +kernel
theorem dL_pull_29 : decode cL_pull 29 = .ok (.iadd, 1) := by decide +kernel
theorem dL_pull_30 : decode cL_pull 30 = .ok (.iaload, 1) := by decide +kernel
theorem dL_pull_31 : decode cL_pull 31 = .ok (.if_icmp .ge 19, 3) := by decide +kernel
theorem dL_pull_34 : decode cL_pull 34 = .ok (.aload_n 0, 1) := by decide +kernel
theorem dL_pull_35 : decode cL_pull 35 = .ok (.iload 5, 2) := by decide +kernel
theorem dL_pull_37 : decode cL_pull 37 = .ok (.aload_n 0, 1) := by decide +kernel
theorem dL_pull_38 : decode cL_pull 38 = .ok (.iload 5, 2) := by decide +kernel
theorem dL_pull_40 : decode cL_pull 40 = .ok (.iconst 1, 1) := by decide +kernel
theorem dL_pull_41 : decode cL_pull 41 = .ok (.iadd, 1) := by decide +kernel
theorem dL_pull_42 : decode cL_pull 42 = .ok (.laload, 1) := by decide +kernel
theorem dL_pull_43 : decode cL_pull 43 = .ok (.lastore, 1) := by decide +kernel
theorem dL_pull_44 : decode cL_pull 44 = .ok (.iinc 5 1, 3) := by decide +kernel
theorem dL_pull_47 : decode cL_pull 47 = .ok (.goto (-27), 3) := by decide +kernel
theorem dL_pull_50 : decode cL_pull 50 = .ok (.lload_n 3, 1) := by decide +kernel
theorem dL_pull_51 : decode cL_pull 51 = .ok (.lreturn, 1) := by decide +kernel
theorem dL_beg_0 : decode cL_beg 0 = .ok (.bipush 8, 2) := by decide +kernel
theorem dL_beg_2 : decode cL_beg 2 = .ok (.iload_n 3, 1) := by decide +kernel
theorem dL_beg_3 : decode cL_beg 3 = .ok (.imul, 1) := by decide +kernel
theorem dL_beg_4 : decode cL_beg 4 = .ok (.istore 4, 2) := by decide +kernel
theorem dL_beg_6 : decode cL_beg 6 = .ok (.aload_n 2, 1) := by decide +kernel
theorem dL_beg_7 : decode cL_beg 7 = .ok (.iload 4, 2) := by decide +kernel
theorem dL_beg_9 : decode cL_beg 9 = .ok (.iconst 2, 1) := by decide +kernel
theorem dL_beg_10 : decode cL_beg 10 = .ok (.iadd, 1) := by decide +kernel
theorem dL_beg_11 : decode cL_beg 11 = .ok (.iaload, 1) := by decide +kernel
theorem dL_beg_12 : decode cL_beg 12 = .ok (.bipush 10, 2) := by decide +kernel
theorem dL_beg_14 : decode cL_beg 14 = .ok (.if_icmp .ne 10, 3) := by decide +kernel
theorem dL_beg_17 : decode cL_beg 17 = .ok (.aload_n 2, 1) := by decide +kernel
theorem dL_beg_18 : decode cL_beg 18 = .ok (.iload 4, 2) := by decide +kernel
theorem dL_beg_20 : decode cL_beg 20 = .ok (.iconst 0, 1) := by decide +kernel
theorem dL_beg_21 : decode cL_beg 21 = .ok (.iastore, 1) := by decide +kernel
theorem dL_beg_22 : decode cL_beg 22 = .ok (.iconst 0, 1) := by decide +kernel
theorem dL_beg_23 : decode cL_beg 23 = .ok (.ireturn, 1) := by decide +kernel
theorem dL_beg_24 : decode cL_beg 24 = .ok (.aload_n 2, 1) := by decide +kernel
theorem dL_beg_25 : decode cL_beg 25 = .ok (.iload 4, 2) := by decide +kernel
theorem dL_beg_27 : decode cL_beg 27 = .ok (.iconst 1, 1) := by decide +kernel
theorem dL_beg_28 : decode cL_beg 28 = .ok (.iadd, 1) := by decide +kernel
theorem dL_beg_29 : decode cL_beg 29 = .ok (.dup2, 1) := by decide +kernel
theorem dL_beg_30 : decode cL_beg 30 = .ok (.iaload, 1) := by decide +kernel
theorem dL_beg_31 : decode cL_beg 31 = .ok (.iconst 1, 1) := by decide +kernel
theorem dL_beg_32 : decode cL_beg 32 = .ok (.iadd, 1) := by decide +kernel
theorem dL_beg_33 : decode cL_beg 33 = .ok (.iastore, 1) := by decide +kernel
theorem dL_beg_34 : decode cL_beg 34 = .ok (.aload_n 2, 1) := by decide +kernel
theorem dL_beg_35 : decode cL_beg 35 = .ok (.iload 4, 2) := by decide +kernel
theorem dL_beg_37 : decode cL_beg 37 = .ok (.iconst 2, 1) := by decide +kernel
theorem dL_beg_38 : decode cL_beg 38 = .ok (.iadd, 1) := by decide +kernel
theorem dL_beg_39 : decode cL_beg 39 = .ok (.dup2, 1) := by decide +kernel
theorem dL_beg_40 : decode cL_beg 40 = .ok (.iaload, 1) := by decide +kernel
theorem dL_beg_41 : decode cL_beg 41 = .ok (.iconst 1, 1) := by decide +kernel
theorem dL_beg_42 : decode cL_beg 42 = .ok (.iadd, 1) := by decide +kernel
theorem dL_beg_43 : decode cL_beg 43 = .ok (.iastore, 1) := by decide +kernel
theorem dL_beg_44 : decode cL_beg 44 = .ok (.aload_n 2, 1) := by decide +kernel
theorem dL_beg_45 : decode cL_beg 45 = .ok (.iload 4, 2) := by decide +kernel
theorem dL_beg_47 : decode cL_beg 47 = .ok (.iconst 3, 1) := by decide +kernel
theorem dL_beg_48 : decode cL_beg 48 = .ok (.iadd, 1) := by decide +kernel
theorem dL_beg_49 : decode cL_beg 49 = .ok (.iconst 3, 1) := by decide +kernel
theorem dL_beg_50 : decode cL_beg 50 = .ok (.iastore, 1) := by decide +kernel
theorem dL_beg_51 : decode cL_beg 51 = .ok (.lconst 0, 1) := by decide +kernel
theorem dL_beg_52 : decode cL_beg 52 = .ok (.lstore 5, 2) := by decide +kernel
theorem dL_beg_54 : decode cL_beg 54 = .ok (.iconst 5, 1) := by decide +kernel
theorem dL_beg_55 : decode cL_beg 55 = .ok (.istore 7, 2) := by decide +kernel
theorem dL_beg_57 : decode cL_beg 57 = .ok (.iload 7, 2) := by decide +kernel
theorem dL_beg_59 : decode cL_beg 59 = .ok (.ifCond .lt 30, 3) := by decide +kernel
theorem dL_beg_62 : decode cL_beg 62 = .ok (.ldc2_w 71, 3) := by decide +kernel
theorem dL_beg_65 : decode cL_beg 65 = .ok (.lload 5, 2) := by decide +kernel
theorem dL_beg_67 : decode cL_beg 67 = .ok (.lmul, 1) := by decide +kernel
theorem dL_beg_68 : decode cL_beg 68 = .ok (.aload_n 1, 1) := by decide +kernel
theorem dL_beg_69 : decode cL_beg 69 = .ok (.bipush 6, 2) := by decide +kernel
theorem dL_beg_71 : decode cL_beg 71 = .ok (.iload_n 3, 1) := by decide +kernel
theorem dL_beg_72 : decode cL_beg 72 = .ok (.imul, 1) := by decide +kernel
theorem dL_beg_73 : decode cL_beg 73 = .ok (.iload 7, 2) := by decide +kernel
theorem dL_beg_75 : decode cL_beg 75 = .ok (.iadd, 1) := by decide +kernel
theorem dL_beg_76 : decode cL_beg 76 = .ok (.iaload, 1) := by decide +kernel
theorem dL_beg_77 : decode cL_beg 77 = .ok (.i2l, 1) := by decide +kernel
theorem dL_beg_78 : decode cL_beg 78 = .ok (.ladd, 1) := by decide +kernel
theorem dL_beg_79 : decode cL_beg 79 = .ok (.lconst 1, 1) := by decide +kernel
theorem dL_beg_80 : decode cL_beg 80 = .ok (.ladd, 1) := by decide +kernel
theorem dL_beg_81 : decode cL_beg 81 = .ok (.lstore 5, 2) := by decide +kernel
theorem dL_beg_83 : decode cL_beg 83 = .ok (.iinc 7 (-1), 3) := by decide +kernel
theorem dL_beg_86 : decode cL_beg 86 = .ok (.goto (-29), 3) := by decide +kernel
theorem dL_beg_89 : decode cL_beg 89 = .ok (.aload_n 0, 1) := by decide +kernel
theorem dL_beg_90 : decode cL_beg 90 = .ok (.aload_n 2, 1) := by decide +kernel
theorem dL_beg_91 : decode cL_beg 91 = .ok (.iload_n 3, 1) := by decide +kernel
theorem dL_beg_92 : decode cL_beg 92 = .ok (.iconst 0, 1) := by decide +kernel
theorem dL_beg_93 : decode cL_beg 93 = .ok (.aload_n 2, 1) := by decide +kernel
theorem dL_beg_94 : decode cL_beg 94 = .ok (.iload 4, 2) := by decide +kernel
theorem dL_beg_96 : decode cL_beg 96 = .ok (.iconst 1, 1) := by decide +kernel
theorem dL_beg_97 : decode cL_beg 97 = .ok (.iadd, 1) := by decide +kernel
theorem dL_beg_98 : decode cL_beg 98 = .ok (.iaload, 1) := by decide +kernel
theorem dL_beg_99 : decode cL_beg 99 = .ok (.lload 5, 2) := by decide +kernel
theorem dL_beg_101 : decode cL_beg 101 = .ok (.invokestatic 73, 3) := by decide +kernel
theorem dL_beg_104 : decode cL_beg 104 = .ok (.iconst 1, 1) := by decide +kernel
theorem dL_beg_105 : decode cL_beg 105 = .ok (.ireturn, 1) := by decide +kernel
theorem dL_answer_0 : decode cL_answer 0 = .ok (.bipush 8, 2) := by decide +kernel
theorem dL_answer_2 : decode cL_answer 2 = .ok (.iload 5, 2) := by decide +kernel
theorem dL_answer_4 : decode cL_answer 4 = .ok (.imul, 1) := by decide +kernel
theorem dL_answer_5 : decode cL_answer 5 = .ok (.istore 6, 2) := by decide +kernel
theorem dL_answer_7 : decode cL_answer 7 = .ok (.lload_n 0, 1) := by decide +kernel
theorem dL_answer_8 : decode cL_answer 8 = .ok (.bipush 36, 2) := by decide +kernel
theorem dL_answer_10 : decode cL_answer 10 = .ok (.lshr, 1) := by decide +kernel
theorem dL_answer_11 : decode cL_answer 11 = .ok (.l2i, 1) := by decide +kernel
theorem dL_answer_12 : decode cL_answer 12 = .ok (.istore 7, 2) := by decide +kernel
theorem dL_answer_14 : decode cL_answer 14 = .ok (.lconst 0, 1) := by decide +kernel
theorem dL_answer_15 : decode cL_answer 15 = .ok (.lstore 8, 2) := by decide +kernel
theorem dL_answer_17 : decode cL_answer 17 = .ok (.lconst 0, 1) := by decide +kernel
theorem dL_answer_18 : decode cL_answer 18 = .ok (.lstore 10, 2) := by decide +kernel
theorem dL_answer_20 : decode cL_answer 20 = .ok (.iconst 0, 1) := by decide +kernel
theorem dL_answer_21 : decode cL_answer 21 = .ok (.istore 12, 2) := by decide +kernel
theorem dL_answer_23 : decode cL_answer 23 = .ok (.iload 12, 2) := by decide +kernel
theorem dL_answer_25 : decode cL_answer 25 = .ok (.bipush 6, 2) := by decide +kernel
theorem dL_answer_27 : decode cL_answer 27 = .ok (.if_icmp .ge 119, 3) := by decide +kernel
theorem dL_answer_30 : decode cL_answer 30 = .ok (.lload_n 0, 1) := by decide +kernel
theorem dL_answer_31 : decode cL_answer 31 = .ok (.iconst 3, 1) := by decide +kernel
theorem dL_answer_32 : decode cL_answer 32 = .ok (.iconst 4, 1) := by decide +kernel
theorem dL_answer_33 : decode cL_answer 33 = .ok (.iload 12, 2) := by decide +kernel
theorem dL_answer_35 : decode cL_answer 35 = .ok (.imul, 1) := by decide +kernel
theorem dL_answer_36 : decode cL_answer 36 = .ok (.iadd, 1) := by decide +kernel
theorem dL_answer_37 : decode cL_answer 37 = .ok (.lshr, 1) := by decide +kernel
theorem dL_answer_38 : decode cL_answer 38 = .ok (.ldc2_w 79, 3) := by decide +kernel
theorem dL_answer_41 : decode cL_answer 41 = .ok (.land, 1) := by decide +kernel
theorem dL_answer_42 : decode cL_answer 42 = .ok (.l2i, 1) := by decide +kernel
theorem dL_answer_43 : decode cL_answer 43 = .ok (.istore 13, 2) := by decide +kernel
theorem dL_answer_45 : decode cL_answer 45 = .ok (.aload_n 3, 1) := by decide +kernel
theorem dL_answer_46 : decode cL_answer 46 = .ok (.bipush 6, 2) := by decide +kernel
theorem dL_answer_48 : decode cL_answer 48 = .ok (.iload 5, 2) := by decide +kernel
theorem dL_answer_50 : decode cL_answer 50 = .ok (.imul, 1) := by decide +kernel
theorem dL_answer_51 : decode cL_answer 51 = .ok (.iload 12, 2) := by decide +kernel
theorem dL_answer_53 : decode cL_answer 53 = .ok (.iadd, 1) := by decide +kernel
theorem dL_answer_54 : decode cL_answer 54 = .ok (.iaload, 1) := by decide +kernel
theorem dL_answer_55 : decode cL_answer 55 = .ok (.istore 14, 2) := by decide +kernel
theorem dL_answer_57 : decode cL_answer 57 = .ok (.iload 13, 2) := by decide +kernel
theorem dL_answer_59 : decode cL_answer 59 = .ok (.ifCond .eq 81, 3) := by decide +kernel
theorem dL_answer_62 : decode cL_answer 62 = .ok (.iload 14, 2) := by decide +kernel
theorem dL_answer_64 : decode cL_answer 64 = .ok (.iload 13, 2) := by decide +kernel
theorem dL_answer_66 : decode cL_answer 66 = .ok (.iconst 1, 1) := by decide +kernel
theorem dL_answer_67 : decode cL_answer 67 = .ok (.isub, 1) := by decide +kernel
theorem dL_answer_68 : decode cL_answer 68 = .ok (.ishr, 1) := by decide +kernel
theorem dL_answer_69 : decode cL_answer 69 = .ok (.iconst 1, 1) := by decide +kernel
theorem dL_answer_70 : decode cL_answer 70 = .ok (.iand, 1) := by decide +kernel
theorem dL_answer_71 : decode cL_answer 71 = .ok (.iconst 1, 1) := by decide +kernel
theorem dL_answer_72 : decode cL_answer 72 = .ok (.if_icmp .ne 6, 3) := by decide +kernel
theorem dL_answer_75 : decode cL_answer 75 = .ok (.goto 65, 3) := by decide +kernel
theorem dL_answer_78 : decode cL_answer 78 = .ok (.iload 14, 2) := by decide +kernel
theorem dL_answer_80 : decode cL_answer 80 = .ok (.ifCond .ne 16, 3) := by decide +kernel
theorem dL_answer_83 : decode cL_answer 83 = .ok (.lload 8, 2) := by decide +kernel
theorem dL_answer_85 : decode cL_answer 85 = .ok (.iload 13, 2) := by decide +kernel
theorem dL_answer_87 : decode cL_answer 87 = .ok (.i2l, 1) := by decide +kernel
theorem dL_answer_88 : decode cL_answer 88 = .ok (.iconst 4, 1) := by decide +kernel
theorem dL_answer_89 : decode cL_answer 89 = .ok (.iload 12, 2) := by decide +kernel
theorem dL_answer_91 : decode cL_answer 91 = .ok (.imul, 1) := by decide +kernel
theorem dL_answer_92 : decode cL_answer 92 = .ok (.lshl, 1) := by decide +kernel
theorem dL_answer_93 : decode cL_answer 93 = .ok (.lor, 1) := by decide +kernel
theorem dL_answer_94 : decode cL_answer 94 = .ok (.lstore 8, 2) := by decide +kernel
theorem dL_answer_96 : decode cL_answer 96 = .ok (.iconst 0, 1) := by decide +kernel
theorem dL_answer_97 : decode cL_answer 97 = .ok (.istore 15, 2) := by decide +kernel
theorem dL_answer_99 : decode cL_answer 99 = .ok (.iload 14, 2) := by decide +kernel
theorem dL_answer_101 : decode cL_answer 101 = .ok (.ifCond .le 19, 3) := by decide +kernel
theorem dL_answer_104 : decode cL_answer 104 = .ok (.iload 14, 2) := by decide +kernel
theorem dL_answer_106 : decode cL_answer 106 = .ok (.iconst 1, 1) := by decide +kernel
theorem dL_answer_107 : decode cL_answer 107 = .ok (.iload 15, 2) := by decide +kernel
theorem dL_answer_109 : decode cL_answer 109 = .ok (.ishl, 1) := by decide +kernel
theorem dL_answer_110 : decode cL_answer 110 = .ok (.iand, 1) := by decide +kernel
theorem dL_answer_111 : decode cL_answer 111 = .ok (.ifCond .ne 9, 3) := by decide +kernel
theorem dL_answer_114 : decode cL_answer 114 = .ok (.iinc 15 1, 3) := by decide +kernel
theorem dL_answer_117 : decode cL_answer 117 = .ok (.goto (-18), 3) := by decide +kernel
theorem dL_answer_120 : decode cL_answer 120 = .ok (.iload 14, 2) := by decide +kernel
theorem dL_answer_122 : decode cL_answer 122 = .ok (.ifCond .le 18, 3) := by decide +kernel
theorem dL_answer_125 : decode cL_answer 125 = .ok (.lload 10, 2) := by decide +kernel
theorem dL_answer_127 : decode cL_answer 127 = .ok (.iload 15, 2) := by decide +kernel
theorem dL_answer_129 : decode cL_answer 129 = .ok (.i2l, 1) := by decide +kernel
theorem dL_answer_130 : decode cL_answer 130 = .ok (.lconst 1, 1) := by decide +kernel
theorem dL_answer_131 : decode cL_answer 131 = .ok (.ladd, 1) := by decide +kernel
theorem dL_answer_132 : decode cL_answer 132 = .ok (.iconst 4, 1) := by decide +kernel
theorem dL_answer_133 : decode cL_answer 133 = .ok (.iload 12, 2) := by decide +kernel
theorem dL_answer_135 : decode cL_answer 135 = .ok (.imul, 1) := by decide +kernel
theorem dL_answer_136 : decode cL_answer 136 = .ok (.lshl, 1) := by decide +kernel
theorem dL_answer_137 : decode cL_answer 137 = .ok (.lor, 1) := by decide +kernel
theorem dL_answer_138 : decode cL_answer 138 = .ok (.lstore 10, 2) := by decide +kernel
theorem dL_answer_140 : decode cL_answer 140 = .ok (.iinc 12 1, 3) := by decide +kernel
theorem dL_answer_143 : decode cL_answer 143 = .ok (.goto (-120), 3) := by decide +kernel
theorem dL_answer_146 : decode cL_answer 146 = .ok (.lload 8, 2) := by decide +kernel
theorem dL_answer_148 : decode cL_answer 148 = .ok (.lconst 0, 1) := by decide +kernel
theorem dL_answer_149 : decode cL_answer 149 = .ok (.lcmp, 1) := by decide +kernel
theorem dL_answer_150 : decode cL_answer 150 = .ok (.ifCond .gt 10, 3) := by decide +kernel
theorem dL_answer_153 : decode cL_answer 153 = .ok (.lload 10, 2) := by decide +kernel
theorem dL_answer_155 : decode cL_answer 155 = .ok (.lconst 0, 1) := by decide +kernel
theorem dL_answer_156 : decode cL_answer 156 = .ok (.lcmp, 1) := by decide +kernel
theorem dL_answer_157 : decode cL_answer 157 = .ok (.ifCond .le 55, 3) := by decide +kernel
theorem dL_answer_160 : decode cL_answer 160 = .ok (.aload_n 2, 1) := by decide +kernel
theorem dL_answer_161 : decode cL_answer 161 = .ok (.aload 4, 2) := by decide +kernel
theorem dL_answer_163 : decode cL_answer 163 = .ok (.iload 5, 2) := by decide +kernel
theorem dL_answer_165 : decode cL_answer 165 = .ok (.lload 8, 2) := by decide +kernel
theorem dL_answer_167 : decode cL_answer 167 = .ok (.lconst 0, 1) := by decide +kernel
theorem dL_answer_168 : decode cL_answer 168 = .ok (.lcmp, 1) := by decide +kernel
theorem dL_answer_169 : decode cL_answer 169 = .ok (.ifCond .le 7, 3) := by decide +kernel
theorem dL_answer_172 : decode cL_answer 172 = .ok (.iconst 3, 1) := by decide +kernel
theorem dL_answer_173 : decode cL_answer 173 = .ok (.goto 4, 3) := by decide +kernel
theorem dL_answer_176 : decode cL_answer 176 = .ok (.iconst 2, 1) := by decide +kernel
theorem dL_answer_177 : decode cL_answer 177 = .ok (.iload 7, 2) := by decide +kernel
theorem dL_answer_179 : decode cL_answer 179 = .ok (.lload 8, 2) := by decide +kernel
theorem dL_answer_181 : decode cL_answer 181 = .ok (.lconst 0, 1) := by decide +kernel
theorem dL_answer_182 : decode cL_answer 182 = .ok (.lcmp, 1) := by decide +kernel
theorem dL_answer_183 : decode cL_answer 183 = .ok (.ifCond .le 8, 3) := by decide +kernel
theorem dL_answer_186 : decode cL_answer 186 = .ok (.lload 8, 2) := by decide +kernel
theorem dL_answer_188 : decode cL_answer 188 = .ok (.goto 5, 3) := by decide +kernel
theorem dL_answer_191 : decode cL_answer 191 = .ok (.lload 10, 2) := by decide +kernel
theorem dL_answer_193 : decode cL_answer 193 = .ok (.invokestatic 73, 3) := by decide +kernel
theorem dL_answer_196 : decode cL_answer 196 = .ok (.aload 4, 2) := by decide +kernel
theorem dL_answer_198 : decode cL_answer 198 = .ok (.iload 6, 2) := by decide +kernel
theorem dL_answer_200 : decode cL_answer 200 = .ok (.iaload, 1) := by decide +kernel
theorem dL_answer_201 : decode cL_answer 201 = .ok (.iconst 3, 1) := by decide +kernel
theorem dL_answer_202 : decode cL_answer 202 = .ok (.if_icmp .ne 9, 3) := by decide +kernel
theorem dL_answer_205 : decode cL_answer 205 = .ok (.aload 4, 2) := by decide +kernel
theorem dL_answer_207 : decode cL_answer 207 = .ok (.iload 6, 2) := by decide +kernel
theorem dL_answer_209 : decode cL_answer 209 = .ok (.iconst 1, 1) := by decide +kernel
theorem dL_answer_210 : decode cL_answer 210 = .ok (.iastore, 1) := by decide +kernel
theorem dL_answer_211 : decode cL_answer 211 = .ok (.return_, 1) := by decide +kernel
theorem dL_answer_212 : decode cL_answer 212 = .ok (.aload_n 2, 1) := by decide +kernel
theorem dL_answer_213 : decode cL_answer 213 = .ok (.aload 4, 2) := by decide +kernel
theorem dL_answer_215 : decode cL_answer 215 = .ok (.iload 5, 2) := by decide +kernel
theorem dL_answer_217 : decode cL_answer 217 = .ok (.iconst 1, 1) := by decide +kernel
theorem dL_answer_218 : decode cL_answer 218 = .ok (.iload 7, 2) := by decide +kernel
theorem dL_answer_220 : decode cL_answer 220 = .ok (.lconst 0, 1) := by decide +kernel
theorem dL_answer_221 : decode cL_answer 221 = .ok (.invokestatic 73, 3) := by decide +kernel
theorem dL_answer_224 : decode cL_answer 224 = .ok (.aload 4, 2) := by decide +kernel
theorem dL_answer_226 : decode cL_answer 226 = .ok (.iload 6, 2) := by decide +kernel
theorem dL_answer_228 : decode cL_answer 228 = .ok (.iaload, 1) := by decide +kernel
theorem dL_answer_229 : decode cL_answer 229 = .ok (.iconst 3, 1) := by decide +kernel
theorem dL_answer_230 : decode cL_answer 230 = .ok (.if_icmp .ge 12, 3) := by decide +kernel
theorem dL_answer_233 : decode cL_answer 233 = .ok (.aload 4, 2) := by decide +kernel
theorem dL_answer_235 : decode cL_answer 235 = .ok (.iload 6, 2) := by decide +kernel
theorem dL_answer_237 : decode cL_answer 237 = .ok (.dup2, 1) := by decide +kernel
theorem dL_answer_238 : decode cL_answer 238 = .ok (.iaload, 1) := by decide +kernel
theorem dL_answer_239 : decode cL_answer 239 = .ok (.iconst 2, 1) := by decide +kernel
theorem dL_answer_240 : decode cL_answer 240 = .ok (.iadd, 1) := by decide +kernel
theorem dL_answer_241 : decode cL_answer 241 = .ok (.iastore, 1) := by decide +kernel
theorem dL_answer_242 : decode cL_answer 242 = .ok (.return_, 1) := by decide +kernel
theorem dL_take_0 : decode cL_take 0 = .ok (.bipush 8, 2) := by decide +kernel
theorem dL_take_2 : decode cL_take 2 = .ok (.iload 6, 2) := by decide +kernel
theorem dL_take_4 : decode cL_take 4 = .ok (.imul, 1) := by decide +kernel
theorem dL_take_5 : decode cL_take 5 = .ok (.istore 7, 2) := by decide +kernel
theorem dL_take_7 : decode cL_take 7 = .ok (.lload_n 0, 1) := by decide +kernel
theorem dL_take_8 : decode cL_take 8 = .ok (.ldc2_w 81, 3) := by decide +kernel
theorem dL_take_11 : decode cL_take 11 = .ok (.land, 1) := by decide +kernel
theorem dL_take_12 : decode cL_take 12 = .ok (.l2i, 1) := by decide +kernel
theorem dL_take_13 : decode cL_take 13 = .ok (.istore 8, 2) := by decide +kernel
theorem dL_take_15 : decode cL_take 15 = .ok (.iload 8, 2) := by decide +kernel
theorem dL_take_17 : decode cL_take 17 = .ok (.iconst 4, 1) := by decide +kernel
theorem dL_take_18 : decode cL_take 18 = .ok (.if_icmp .ne 12, 3) := by decide +kernel
theorem dL_take_21 : decode cL_take 21 = .ok (.aload 5, 2) := by decide +kernel
theorem dL_take_23 : decode cL_take 23 = .ok (.iload 7, 2) := by decide +kernel
theorem dL_take_25 : decode cL_take 25 = .ok (.iconst 0, 1) := by decide +kernel
theorem dL_take_26 : decode cL_take 26 = .ok (.iastore, 1) := by decide +kernel
theorem dL_take_27 : decode cL_take 27 = .ok (.goto 241, 3) := by decide +kernel
theorem dL_take_30 : decode cL_take 30 = .ok (.iload 8, 2) := by decide +kernel
theorem dL_take_32 : decode cL_take 32 = .ok (.ifCond .ne 115, 3) := by decide +kernel
theorem dL_take_35 : decode cL_take 35 = .ok (.aload 5, 2) := by decide +kernel
theorem dL_take_37 : decode cL_take 37 = .ok (.iload 7, 2) := by decide +kernel
theorem dL_take_39 : decode cL_take 39 = .ok (.iconst 4, 1) := by decide +kernel
theorem dL_take_40 : decode cL_take 40 = .ok (.iadd, 1) := by decide +kernel
theorem dL_take_41 : decode cL_take 41 = .ok (.lload_n 0, 1) := by decide +kernel
theorem dL_take_42 : decode cL_take 42 = .ok (.bipush 32, 2) := by decide +kernel
theorem dL_take_44 : decode cL_take 44 = .ok (.lshr, 1) := by decide +kernel
theorem dL_take_45 : decode cL_take 45 = .ok (.ldc2_w 79, 3) := by decide +kernel
theorem dL_take_48 : decode cL_take 48 = .ok (.land, 1) := by decide +kernel
theorem dL_take_49 : decode cL_take 49 = .ok (.l2i, 1) := by decide +kernel
theorem dL_take_50 : decode cL_take 50 = .ok (.invokestatic 83, 3) := by decide +kernel
theorem dL_take_53 : decode cL_take 53 = .ok (.aload 5, 2) := by decide +kernel
theorem dL_take_55 : decode cL_take 55 = .ok (.iload 7, 2) := by decide +kernel
theorem dL_take_57 : decode cL_take 57 = .ok (.bipush 6, 2) := by decide +kernel
theorem dL_take_59 : decode cL_take 59 = .ok (.iadd, 1) := by decide +kernel
theorem dL_take_60 : decode cL_take 60 = .ok (.iaload, 1) := by decide +kernel
theorem dL_take_61 : decode cL_take 61 = .ok (.invokestatic 83, 3) := by decide +kernel
theorem dL_take_64 : decode cL_take 64 = .ok (.if_icmp .ne 7, 3) := by decide +kernel
theorem dL_take_67 : decode cL_take 67 = .ok (.iconst 1, 1) := by decide +kernel
theorem dL_take_68 : decode cL_take 68 = .ok (.goto 4, 3) := by decide +kernel
theorem dL_take_71 : decode cL_take 71 = .ok (.iconst 0, 1) := by decide +kernel
theorem dL_take_72 : decode cL_take 72 = .ok (.iastore, 1) := by decide +kernel
theorem dL_take_73 : decode cL_take 73 = .ok (.aload 5, 2) := by decide +kernel
theorem dL_take_75 : decode cL_take 75 = .ok (.iload 7, 2) := by decide +kernel
theorem dL_take_77 : decode cL_take 77 = .ok (.iconst 4, 1) := by decide +kernel
theorem dL_take_78 : decode cL_take 78 = .ok (.iadd, 1) := by decide +kernel
theorem dL_take_79 : decode cL_take 79 = .ok (.iaload, 1) := by decide +kernel
theorem dL_take_80 : decode cL_take 80 = .ok (.iconst 1, 1) := by decide +kernel
theorem dL_take_81 : decode cL_take 81 = .ok (.if_icmp .ne 4, 3) := by decide +kernel
theorem dL_take_84 : decode cL_take 84 = .ok (.return_, 1) := by decide +kernel
theorem dL_take_85 : decode cL_take 85 = .ok (.aload 5, 2) := by decide +kernel
theorem dL_take_87 : decode cL_take 87 = .ok (.iload 7, 2) := by decide +kernel
theorem dL_take_89 : decode cL_take 89 = .ok (.iaload, 1) := by decide +kernel
theorem dL_take_90 : decode cL_take 90 = .ok (.ifCond .ne 15, 3) := by decide +kernel
theorem dL_take_93 : decode cL_take 93 = .ok (.aload_n 2, 1) := by decide +kernel
theorem dL_take_94 : decode cL_take 94 = .ok (.aload 5, 2) := by decide +kernel
theorem dL_take_96 : decode cL_take 96 = .ok (.iload 6, 2) := by decide +kernel
theorem dL_take_98 : decode cL_take 98 = .ok (.iconst 4, 1) := by decide +kernel
theorem dL_take_99 : decode cL_take 99 = .ok (.iconst 0, 1) := by decide +kernel
theorem dL_take_100 : decode cL_take 100 = .ok (.lconst 0, 1) := by decide +kernel
theorem dL_take_101 : decode cL_take 101 = .ok (.invokestatic 73, 3) := by decide +kernel
theorem dL_take_104 : decode cL_take 104 = .ok (.return_, 1) := by decide +kernel
theorem dL_take_105 : decode cL_take 105 = .ok (.aload 5, 2) := by decide +kernel
theorem dL_take_107 : decode cL_take 107 = .ok (.iload 7, 2) := by decide +kernel
theorem dL_take_109 : decode cL_take 109 = .ok (.iaload, 1) := by decide +kernel
theorem dL_take_110 : decode cL_take 110 = .ok (.iconst 4, 1) := by decide +kernel
theorem dL_take_111 : decode cL_take 111 = .ok (.if_icmp .ne 23, 3) := by decide +kernel
theorem dL_take_114 : decode cL_take 114 = .ok (.aload 5, 2) := by decide +kernel
theorem dL_take_116 : decode cL_take 116 = .ok (.iload 7, 2) := by decide +kernel
theorem dL_take_118 : decode cL_take 118 = .ok (.iconst 1, 1) := by decide +kernel
theorem dL_take_119 : decode cL_take 119 = .ok (.iastore, 1) := by decide +kernel
theorem dL_take_120 : decode cL_take 120 = .ok (.aload_n 2, 1) := by decide +kernel
theorem dL_take_121 : decode cL_take 121 = .ok (.aload 4, 2) := by decide +kernel
theorem dL_take_123 : decode cL_take 123 = .ok (.aload 5, 2) := by decide +kernel
theorem dL_take_125 : decode cL_take 125 = .ok (.iload 6, 2) := by decide +kernel
theorem dL_take_127 : decode cL_take 127 = .ok (.invokestatic 86, 3) := by decide +kernel
theorem dL_take_130 : decode cL_take 130 = .ok (.ifCond .ne 4, 3) := by decide +kernel
theorem dL_take_133 : decode cL_take 133 = .ok (.return_, 1) := by decide +kernel
theorem dL_take_134 : decode cL_take 134 = .ok (.lload_n 0, 1) := by decide +kernel
theorem dL_take_135 : decode cL_take 135 = .ok (.aload_n 2, 1) := by decide +kernel
theorem dL_take_136 : decode cL_take 136 = .ok (.aload_n 3, 1) := by decide +kernel
theorem dL_take_137 : decode cL_take 137 = .ok (.aload 5, 2) := by decide +kernel
theorem dL_take_139 : decode cL_take 139 = .ok (.iload 6, 2) := by decide +kernel
theorem dL_take_141 : decode cL_take 141 = .ok (.invokestatic 90, 3) := by decide +kernel
theorem dL_take_144 : decode cL_take 144 = .ok (.goto 124, 3) := by decide +kernel
theorem dL_take_147 : decode cL_take 147 = .ok (.aload 5, 2) := by decide +kernel
theorem dL_take_149 : decode cL_take 149 = .ok (.iload 7, 2) := by decide +kernel
theorem dL_take_151 : decode cL_take 151 = .ok (.iaload, 1) := by decide +kernel
theorem dL_take_152 : decode cL_take 152 = .ok (.iconst 1, 1) := by decide +kernel
theorem dL_take_153 : decode cL_take 153 = .ok (.if_icmp .eq 12, 3) := by decide +kernel
theorem dL_take_156 : decode cL_take 156 = .ok (.aload 5, 2) := by decide +kernel
theorem dL_take_158 : decode cL_take 158 = .ok (.iload 7, 2) := by decide +kernel
theorem dL_take_160 : decode cL_take 160 = .ok (.iaload, 1) := by decide +kernel
theorem dL_take_161 : decode cL_take 161 = .ok (.iconst 3, 1) := by decide +kernel
theorem dL_take_162 : decode cL_take 162 = .ok (.if_icmp .ne 106, 3) := by decide +kernel
theorem dL_take_165 : decode cL_take 165 = .ok (.lload_n 0, 1) := by decide +kernel
theorem dL_take_166 : decode cL_take 166 = .ok (.bipush 36, 2) := by decide +kernel
theorem dL_take_168 : decode cL_take 168 = .ok (.lshr, 1) := by decide +kernel
theorem dL_take_169 : decode cL_take 169 = .ok (.l2i, 1) := by decide +kernel
theorem dL_take_170 : decode cL_take 170 = .ok (.aload 5, 2) := by decide +kernel
theorem dL_take_172 : decode cL_take 172 = .ok (.iload 7, 2) := by decide +kernel
theorem dL_take_174 : decode cL_take 174 = .ok (.iconst 1, 1) := by decide +kernel
theorem dL_take_175 : decode cL_take 175 = .ok (.iadd, 1) := by decide +kernel
theorem dL_take_176 : decode cL_take 176 = .ok (.iaload, 1) := by decide +kernel
theorem dL_take_177 : decode cL_take 177 = .ok (.if_icmp .ne 91, 3) := by decide +kernel
theorem dL_take_180 : decode cL_take 180 = .ok (.iload 8, 2) := by decide +kernel
theorem dL_take_182 : decode cL_take 182 = .ok (.iconst 1, 1) := by decide +kernel
theorem dL_take_183 : decode cL_take 183 = .ok (.if_icmp .ne 13, 3) := by decide +kernel
theorem dL_take_186 : decode cL_take 186 = .ok (.aload 5, 2) := by decide +kernel
theorem dL_take_188 : decode cL_take 188 = .ok (.iload 7, 2) := by decide +kernel
theorem dL_take_190 : decode cL_take 190 = .ok (.dup2, 1) := by decide +kernel
theorem dL_take_191 : decode cL_take 191 = .ok (.iaload, 1) := by decide +kernel
theorem dL_take_192 : decode cL_take 192 = .ok (.iconst 1, 1) := by decide +kernel
theorem dL_take_193 : decode cL_take 193 = .ok (.iadd, 1) := by decide +kernel
theorem dL_take_194 : decode cL_take 194 = .ok (.iastore, 1) := by decide +kernel
theorem dL_take_195 : decode cL_take 195 = .ok (.return_, 1) := by decide +kernel
theorem dL_take_196 : decode cL_take 196 = .ok (.iconst 0, 1) := by decide +kernel
theorem dL_take_197 : decode cL_take 197 = .ok (.istore 9, 2) := by decide +kernel
theorem dL_take_199 : decode cL_take 199 = .ok (.iload 9, 2) := by decide +kernel
theorem dL_take_201 : decode cL_take 201 = .ok (.bipush 6, 2) := by decide +kernel
theorem dL_take_203 : decode cL_take 203 = .ok (.if_icmp .ge 54, 3) := by decide +kernel
theorem dL_take_206 : decode cL_take 206 = .ok (.lload_n 0, 1) := by decide +kernel
theorem dL_take_207 : decode cL_take 207 = .ok (.iconst 3, 1) := by decide +kernel
theorem dL_take_208 : decode cL_take 208 = .ok (.iconst 4, 1) := by decide +kernel
theorem dL_take_209 : decode cL_take 209 = .ok (.iload 9, 2) := by decide +kernel
theorem dL_take_211 : decode cL_take 211 = .ok (.imul, 1) := by decide +kernel
theorem dL_take_212 : decode cL_take 212 = .ok (.iadd, 1) := by decide +kernel
theorem dL_take_213 : decode cL_take 213 = .ok (.lshr, 1) := by decide +kernel
theorem dL_take_214 : decode cL_take 214 = .ok (.ldc2_w 79, 3) := by decide +kernel
theorem dL_take_217 : decode cL_take 217 = .ok (.land, 1) := by decide +kernel
theorem dL_take_218 : decode cL_take 218 = .ok (.l2i, 1) := by decide +kernel
theorem dL_take_219 : decode cL_take 219 = .ok (.istore 10, 2) := by decide +kernel
theorem dL_take_221 : decode cL_take 221 = .ok (.iload 10, 2) := by decide +kernel
theorem dL_take_223 : decode cL_take 223 = .ok (.ifCond .le 28, 3) := by decide +kernel
theorem dL_take_226 : decode cL_take 226 = .ok (.aload 4, 2) := by decide +kernel
theorem dL_take_228 : decode cL_take 228 = .ok (.bipush 6, 2) := by decide +kernel
theorem dL_take_230 : decode cL_take 230 = .ok (.iload 6, 2) := by decide +kernel
theorem dL_take_232 : decode cL_take 232 = .ok (.imul, 1) := by decide +kernel
theorem dL_take_233 : decode cL_take 233 = .ok (.iload 9, 2) := by decide +kernel
theorem dL_take_235 : decode cL_take 235 = .ok (.iadd, 1) := by decide +kernel
theorem dL_take_236 : decode cL_take 236 = .ok (.iload 8, 2) := by decide +kernel
theorem dL_take_238 : decode cL_take 238 = .ok (.iconst 2, 1) := by decide +kernel
theorem dL_take_239 : decode cL_take 239 = .ok (.if_icmp .ne 10, 3) := by decide +kernel
theorem dL_take_242 : decode cL_take 242 = .ok (.iload 10, 2) := by decide +kernel
theorem dL_take_244 : decode cL_take 244 = .ok (.iconst 1, 1) := by decide +kernel
theorem dL_take_245 : decode cL_take 245 = .ok (.isub, 1) := by decide +kernel
theorem dL_take_246 : decode cL_take 246 = .ok (.goto 4, 3) := by decide +kernel
theorem dL_take_249 : decode cL_take 249 = .ok (.iconst (-1), 1) := by decide +kernel
theorem dL_take_250 : decode cL_take 250 = .ok (.iastore, 1) := by decide +kernel
theorem dL_take_251 : decode cL_take 251 = .ok (.iinc 9 1, 3) := by decide +kernel
theorem dL_take_254 : decode cL_take 254 = .ok (.goto (-55), 3) := by decide +kernel
theorem dL_take_257 : decode cL_take 257 = .ok (.aload_n 2, 1) := by decide +kernel
theorem dL_take_258 : decode cL_take 258 = .ok (.aload 4, 2) := by decide +kernel
theorem dL_take_260 : decode cL_take 260 = .ok (.aload 5, 2) := by decide +kernel
theorem dL_take_262 : decode cL_take 262 = .ok (.iload 6, 2) := by decide +kernel
theorem dL_take_264 : decode cL_take 264 = .ok (.invokestatic 86, 3) := by decide +kernel
theorem dL_take_267 : decode cL_take 267 = .ok (.pop, 1) := by decide +kernel
theorem dL_take_268 : decode cL_take 268 = .ok (.return_, 1) := by decide +kernel
theorem dL_goBy_0 : decode cL_goBy 0 = .ok (.iconst 0, 1) := by decide +kernel
theorem dL_goBy_1 : decode cL_goBy 1 = .ok (.istore 5, 2) := by decide +kernel
theorem dL_goBy_3 : decode cL_goBy 3 = .ok (.iconst 0, 1) := by decide +kernel
theorem dL_goBy_4 : decode cL_goBy 4 = .ok (.istore 6, 2) := by decide +kernel
theorem dL_goBy_6 : decode cL_goBy 6 = .ok (.iload 6, 2) := by decide +kernel
theorem dL_goBy_8 : decode cL_goBy 8 = .ok (.iconst 2, 1) := by decide +kernel
theorem dL_goBy_9 : decode cL_goBy 9 = .ok (.iload_n 0, 1) := by decide +kernel
theorem dL_goBy_10 : decode cL_goBy 10 = .ok (.imul, 1) := by decide +kernel
theorem dL_goBy_11 : decode cL_goBy 11 = .ok (.if_icmp .ge 104, 3) := by decide +kernel
theorem dL_goBy_14 : decode cL_goBy 14 = .ok (.bipush 8, 2) := by decide +kernel
theorem dL_goBy_16 : decode cL_goBy 16 = .ok (.iload 6, 2) := by decide +kernel
theorem dL_goBy_18 : decode cL_goBy 18 = .ok (.iconst 2, 1) := by decide +kernel
theorem dL_goBy_19 : decode cL_goBy 19 = .ok (.irem, 1) := by decide +kernel
theorem dL_goBy_20 : decode cL_goBy 20 = .ok (.imul, 1) := by decide +kernel
theorem dL_goBy_21 : decode cL_goBy 21 = .ok (.istore 7, 2) := by decide +kernel
theorem dL_goBy_23 : decode cL_goBy 23 = .ok (.aload 4, 2) := by decide +kernel
theorem dL_goBy_25 : decode cL_goBy 25 = .ok (.iload 7, 2) := by decide +kernel
theorem dL_goBy_27 : decode cL_goBy 27 = .ok (.iaload, 1) := by decide +kernel
theorem dL_goBy_28 : decode cL_goBy 28 = .ok (.ifCond .eq 81, 3) := by decide +kernel
theorem dL_goBy_31 : decode cL_goBy 31 = .ok (.aload 4, 2) := by decide +kernel
theorem dL_goBy_33 : decode cL_goBy 33 = .ok (.iload 7, 2) := by decide +kernel
theorem dL_goBy_35 : decode cL_goBy 35 = .ok (.iaload, 1) := by decide +kernel
theorem dL_goBy_36 : decode cL_goBy 36 = .ok (.iconst 4, 1) := by decide +kernel
theorem dL_goBy_37 : decode cL_goBy 37 = .ok (.if_icmp .ne 6, 3) := by decide +kernel
theorem dL_goBy_40 : decode cL_goBy 40 = .ok (.goto 69, 3) := by decide +kernel
theorem dL_goBy_43 : decode cL_goBy 43 = .ok (.aload 4, 2) := by decide +kernel
theorem dL_goBy_45 : decode cL_goBy 45 = .ok (.iload 7, 2) := by decide +kernel
theorem dL_goBy_47 : decode cL_goBy 47 = .ok (.iconst 3, 1) := by decide +kernel
theorem dL_goBy_48 : decode cL_goBy 48 = .ok (.iadd, 1) := by decide +kernel
theorem dL_goBy_49 : decode cL_goBy 49 = .ok (.dup2, 1) := by decide +kernel
theorem dL_goBy_50 : decode cL_goBy 50 = .ok (.iaload, 1) := by decide +kernel
theorem dL_goBy_51 : decode cL_goBy 51 = .ok (.iconst 1, 1) := by decide +kernel
theorem dL_goBy_52 : decode cL_goBy 52 = .ok (.isub, 1) := by decide +kernel
theorem dL_goBy_53 : decode cL_goBy 53 = .ok (.iastore, 1) := by decide +kernel
theorem dL_goBy_54 : decode cL_goBy 54 = .ok (.aload 4, 2) := by decide +kernel
theorem dL_goBy_56 : decode cL_goBy 56 = .ok (.iload 7, 2) := by decide +kernel
theorem dL_goBy_58 : decode cL_goBy 58 = .ok (.iconst 3, 1) := by decide +kernel
theorem dL_goBy_59 : decode cL_goBy 59 = .ok (.iadd, 1) := by decide +kernel
theorem dL_goBy_60 : decode cL_goBy 60 = .ok (.iaload, 1) := by decide +kernel
theorem dL_goBy_61 : decode cL_goBy 61 = .ok (.ifCond .le 6, 3) := by decide +kernel
theorem dL_goBy_64 : decode cL_goBy 64 = .ok (.goto 45, 3) := by decide +kernel
theorem dL_goBy_67 : decode cL_goBy 67 = .ok (.aload 4, 2) := by decide +kernel
theorem dL_goBy_69 : decode cL_goBy 69 = .ok (.iload 7, 2) := by decide +kernel
theorem dL_goBy_71 : decode cL_goBy 71 = .ok (.iaload, 1) := by decide +kernel
theorem dL_goBy_72 : decode cL_goBy 72 = .ok (.iconst 2, 1) := by decide +kernel
theorem dL_goBy_73 : decode cL_goBy 73 = .ok (.if_icmp .ne 9, 3) := by decide +kernel
theorem dL_goBy_76 : decode cL_goBy 76 = .ok (.aload 4, 2) := by decide +kernel
theorem dL_goBy_78 : decode cL_goBy 78 = .ok (.iload 7, 2) := by decide +kernel
theorem dL_goBy_80 : decode cL_goBy 80 = .ok (.iconst 1, 1) := by decide +kernel
theorem dL_goBy_81 : decode cL_goBy 81 = .ok (.iastore, 1) := by decide +kernel
theorem dL_goBy_82 : decode cL_goBy 82 = .ok (.iload 5, 2) := by decide +kernel
theorem dL_goBy_84 : decode cL_goBy 84 = .ok (.iload 6, 2) := by decide +kernel
theorem dL_goBy_86 : decode cL_goBy 86 = .ok (.iconst 2, 1) := by decide +kernel
theorem dL_goBy_87 : decode cL_goBy 87 = .ok (.irem, 1) := by decide +kernel
theorem dL_goBy_88 : decode cL_goBy 88 = .ok (.ifCond .ne 7, 3) := by decide +kernel
theorem dL_goBy_91 : decode cL_goBy 91 = .ok (.aload_n 1, 1) := by decide +kernel
theorem dL_goBy_92 : decode cL_goBy 92 = .ok (.goto 4, 3) := by decide +kernel
theorem dL_goBy_95 : decode cL_goBy 95 = .ok (.aload_n 2, 1) := by decide +kernel
theorem dL_goBy_96 : decode cL_goBy 96 = .ok (.aload_n 3, 1) := by decide +kernel
theorem dL_goBy_97 : decode cL_goBy 97 = .ok (.aload 4, 2) := by decide +kernel
theorem dL_goBy_99 : decode cL_goBy 99 = .ok (.iload 6, 2) := by decide +kernel
theorem dL_goBy_101 : decode cL_goBy 101 = .ok (.iconst 2, 1) := by decide +kernel
theorem dL_goBy_102 : decode cL_goBy 102 = .ok (.irem, 1) := by decide +kernel
theorem dL_goBy_103 : decode cL_goBy 103 = .ok (.invokestatic 86, 3) := by decide +kernel
theorem dL_goBy_106 : decode cL_goBy 106 = .ok (.iadd, 1) := by decide +kernel
theorem dL_goBy_107 : decode cL_goBy 107 = .ok (.istore 5, 2) := by decide +kernel
theorem dL_goBy_109 : decode cL_goBy 109 = .ok (.iinc 6 1, 3) := by decide +kernel
theorem dL_goBy_112 : decode cL_goBy 112 = .ok (.goto (-106), 3) := by decide +kernel
theorem dL_goBy_115 : decode cL_goBy 115 = .ok (.iload 5, 2) := by decide +kernel
theorem dL_goBy_117 : decode cL_goBy 117 = .ok (.ireturn, 1) := by decide +kernel
theorem dL_links_0 : decode cL_links 0 = .ok (.iload_n 2, 1) := by decide +kernel
theorem dL_links_1 : decode cL_links 1 = .ok (.iconst 1, 1) := by decide +kernel
theorem dL_links_2 : decode cL_links 2 = .ok (.iand, 1) := by decide +kernel
theorem dL_links_3 : decode cL_links 3 = .ok (.istore 10, 2) := by decide +kernel
theorem dL_links_5 : decode cL_links 5 = .ok (.bipush 8, 2) := by decide +kernel
theorem dL_links_7 : decode cL_links 7 = .ok (.iload 10, 2) := by decide +kernel
theorem dL_links_9 : decode cL_links 9 = .ok (.imul, 1) := by decide +kernel
theorem dL_links_10 : decode cL_links 10 = .ok (.istore 11, 2) := by decide +kernel
theorem dL_links_12 : decode cL_links 12 = .ok (.iload 10, 2) := by decide +kernel
theorem dL_links_14 : decode cL_links 14 = .ok (.ifCond .ne 8, 3) := by decide +kernel
theorem dL_links_17 : decode cL_links 17 = .ok (.aload 4, 2) := by decide +kernel
theorem dL_links_19 : decode cL_links 19 = .ok (.goto 5, 3) := by decide +kernel
theorem dL_links_22 : decode cL_links 22 = .ok (.aload 5, 2) := by decide +kernel
theorem dL_links_24 : decode cL_links 24 = .ok (.astore 12, 2) := by decide +kernel
theorem dL_links_26 : decode cL_links 26 = .ok (.iload_n 3, 1) := by decide +kernel
theorem dL_links_27 : decode cL_links 27 = .ok (.bipush 6, 2) := by decide +kernel
theorem dL_links_29 : decode cL_links 29 = .ok (.invokestatic 94, 3) := by decide +kernel
theorem dL_links_32 : decode cL_links 32 = .ok (.istore 13, 2) := by decide +kernel
theorem dL_links_34 : decode cL_links 34 = .ok (.iload_n 1, 1) := by decide +kernel
theorem dL_links_35 : decode cL_links 35 = .ok (.iconst 3, 1) := by decide +kernel
theorem dL_links_36 : decode cL_links 36 = .ok (.if_icmp .ge 121, 3) := by decide +kernel
theorem dL_links_39 : decode cL_links 39 = .ok (.iload_n 3, 1) := by decide +kernel
theorem dL_links_40 : decode cL_links 40 = .ok (.iconst 3, 1) := by decide +kernel
theorem dL_links_41 : decode cL_links 41 = .ok (.ishr, 1) := by decide +kernel
theorem dL_links_42 : decode cL_links 42 = .ok (.bipush 11, 2) := by decide +kernel
theorem dL_links_44 : decode cL_links 44 = .ok (.invokestatic 94, 3) := by decide +kernel
theorem dL_links_47 : decode cL_links 47 = .ok (.iconst 1, 1) := by decide +kernel
theorem dL_links_48 : decode cL_links 48 = .ok (.isub, 1) := by decide +kernel
theorem dL_links_49 : decode cL_links 49 = .ok (.istore 14, 2) := by decide +kernel
theorem dL_links_51 : decode cL_links 51 = .ok (.aload 6, 2) := by decide +kernel
theorem dL_links_53 : decode cL_links 53 = .ok (.bipush 6, 2) := by decide +kernel
theorem dL_links_55 : decode cL_links 55 = .ok (.iload 10, 2) := by decide +kernel
theorem dL_links_57 : decode cL_links 57 = .ok (.imul, 1) := by decide +kernel
theorem dL_links_58 : decode cL_links 58 = .ok (.iload 13, 2) := by decide +kernel
theorem dL_links_60 : decode cL_links 60 = .ok (.iadd, 1) := by decide +kernel
theorem dL_links_61 : decode cL_links 61 = .ok (.iaload, 1) := by decide +kernel
theorem dL_links_62 : decode cL_links 62 = .ok (.istore 15, 2) := by decide +kernel
theorem dL_links_64 : decode cL_links 64 = .ok (.aload 6, 2) := by decide +kernel
theorem dL_links_66 : decode cL_links 66 = .ok (.bipush 6, 2) := by decide +kernel
theorem dL_links_68 : decode cL_links 68 = .ok (.iload 10, 2) := by decide +kernel
theorem dL_links_70 : decode cL_links 70 = .ok (.imul, 1) := by decide +kernel
theorem dL_links_71 : decode cL_links 71 = .ok (.iload 13, 2) := by decide +kernel
theorem dL_links_73 : decode cL_links 73 = .ok (.iadd, 1) := by decide +kernel
theorem dL_links_74 : decode cL_links 74 = .ok (.iload 14, 2) := by decide +kernel
theorem dL_links_76 : decode cL_links 76 = .ok (.iastore, 1) := by decide +kernel
theorem dL_links_77 : decode cL_links 77 = .ok (.aload_n 0, 1) := by decide +kernel
theorem dL_links_78 : decode cL_links 78 = .ok (.iconst 2, 1) := by decide +kernel
theorem dL_links_79 : decode cL_links 79 = .ok (.iload 13, 2) := by decide +kernel
theorem dL_links_81 : decode cL_links 81 = .ok (.bipush 10, 2) := by decide +kernel
theorem dL_links_83 : decode cL_links 83 = .ok (.invokestatic 97, 3) := by decide +kernel
theorem dL_links_86 : decode cL_links 86 = .ok (.bipush (-71), 2) := by decide +kernel
theorem dL_links_88 : decode cL_links 88 = .ok (.if_icmp .ne 67, 3) := by decide +kernel
theorem dL_links_91 : decode cL_links 91 = .ok (.aload_n 0, 1) := by decide +kernel
theorem dL_links_92 : decode cL_links 92 = .ok (.iload 10, 2) := by decide +kernel
theorem dL_links_94 : decode cL_links 94 = .ok (.bipush 6, 2) := by decide +kernel
theorem dL_links_96 : decode cL_links 96 = .ok (.iload 14, 2) := by decide +kernel
theorem dL_links_98 : decode cL_links 98 = .ok (.invokestatic 97, 3) := by decide +kernel
theorem dL_links_101 : decode cL_links 101 = .ok (.bipush (-71), 2) := by decide +kernel
theorem dL_links_103 : decode cL_links 103 = .ok (.if_icmp .ne 52, 3) := by decide +kernel
theorem dL_links_106 : decode cL_links 106 = .ok (.aload_n 0, 1) := by decide +kernel
theorem dL_links_107 : decode cL_links 107 = .ok (.iload 10, 2) := by decide +kernel
theorem dL_links_109 : decode cL_links 109 = .ok (.iload 13, 2) := by decide +kernel
theorem dL_links_111 : decode cL_links 111 = .ok (.bipush 10, 2) := by decide +kernel
theorem dL_links_113 : decode cL_links 113 = .ok (.invokestatic 97, 3) := by decide +kernel
theorem dL_links_116 : decode cL_links 116 = .ok (.bipush (-72), 2) := by decide +kernel
theorem dL_links_118 : decode cL_links 118 = .ok (.if_icmp .ne 37, 3) := by decide +kernel
theorem dL_links_121 : decode cL_links 121 = .ok (.aload_n 0, 1) := by decide +kernel
theorem dL_links_122 : decode cL_links 122 = .ok (.iload 10, 2) := by decide +kernel
theorem dL_links_124 : decode cL_links 124 = .ok (.iload 13, 2) := by decide +kernel
theorem dL_links_126 : decode cL_links 126 = .ok (.bipush (-2), 2) := by decide +kernel
theorem dL_links_128 : decode cL_links 128 = .ok (.invokestatic 97, 3) := by decide +kernel
theorem dL_links_131 : decode cL_links 131 = .ok (.bipush (-72), 2) := by decide +kernel
theorem dL_links_133 : decode cL_links 133 = .ok (.if_icmp .ne 22, 3) := by decide +kernel
theorem dL_links_136 : decode cL_links 136 = .ok (.aload_n 0, 1) := by decide +kernel
theorem dL_links_137 : decode cL_links 137 = .ok (.iload 10, 2) := by decide +kernel
theorem dL_links_139 : decode cL_links 139 = .ok (.iload 13, 2) := by decide +kernel
theorem dL_links_141 : decode cL_links 141 = .ok (.iload 14, 2) := by decide +kernel
theorem dL_links_143 : decode cL_links 143 = .ok (.invokestatic 97, 3) := by decide +kernel
theorem dL_links_146 : decode cL_links 146 = .ok (.iload 15, 2) := by decide +kernel
theorem dL_links_148 : decode cL_links 148 = .ok (.if_icmp .ne 7, 3) := by decide +kernel
theorem dL_links_151 : decode cL_links 151 = .ok (.iconst 1, 1) := by decide +kernel
theorem dL_links_152 : decode cL_links 152 = .ok (.goto 4, 3) := by decide +kernel
theorem dL_links_155 : decode cL_links 155 = .ok (.iconst 0, 1) := by decide +kernel
theorem dL_links_156 : decode cL_links 156 = .ok (.ireturn, 1) := by decide +kernel
theorem dL_links_157 : decode cL_links 157 = .ok (.iload_n 1, 1) := by decide +kernel
theorem dL_links_158 : decode cL_links 158 = .ok (.bipush 6, 2) := by decide +kernel
theorem dL_links_160 : decode cL_links 160 = .ok (.if_icmp .ge 144, 3) := by decide +kernel
theorem dL_links_163 : decode cL_links 163 = .ok (.iload_n 3, 1) := by decide +kernel
theorem dL_links_164 : decode cL_links 164 = .ok (.bipush 96, 2) := by decide +kernel
theorem dL_links_166 : decode cL_links 166 = .ok (.iand, 1) := by decide +kernel
theorem dL_links_167 : decode cL_links 167 = .ok (.ifCond .ne 7, 3) := by decide +kernel
theorem dL_links_170 : decode cL_links 170 = .ok (.iconst 0, 1) := by decide +kernel
theorem dL_links_171 : decode cL_links 171 = .ok (.goto 28, 3) := by decide +kernel
theorem dL_links_174 : decode cL_links 174 = .ok (.iload_n 3, 1) := by decide +kernel
theorem dL_links_175 : decode cL_links 175 = .ok (.bipush 96, 2) := by decide +kernel
theorem dL_links_177 : decode cL_links 177 = .ok (.iand, 1) := by decide +kernel
theorem dL_links_178 : decode cL_links 178 = .ok (.bipush 32, 2) := by decide +kernel
theorem dL_links_180 : decode cL_links 180 = .ok (.if_icmp .ne 9, 3) := by decide +kernel
theorem dL_links_183 : decode cL_links 183 = .ok (.sipush 1023, 3) := by decide +kernel
theorem dL_links_186 : decode cL_links 186 = .ok (.goto 13, 3) := by decide +kernel
theorem dL_links_189 : decode cL_links 189 = .ok (.iload_n 3, 1) := by decide +kernel
theorem dL_links_190 : decode cL_links 190 = .ok (.bipush 7, 2) := by decide +kernel
theorem dL_links_192 : decode cL_links 192 = .ok (.ishr, 1) := by decide +kernel
theorem dL_links_193 : decode cL_links 193 = .ok (.sipush 1024, 3) := by decide +kernel
theorem dL_links_196 : decode cL_links 196 = .ok (.invokestatic 94, 3) := by decide +kernel
theorem dL_links_199 : decode cL_links 199 = .ok (.istore 14, 2) := by decide +kernel
theorem dL_links_201 : decode cL_links 201 = .ok (.aload 7, 2) := by decide +kernel
theorem dL_links_203 : decode cL_links 203 = .ok (.bipush 6, 2) := by decide +kernel
theorem dL_links_205 : decode cL_links 205 = .ok (.iload 10, 2) := by decide +kernel
theorem dL_links_207 : decode cL_links 207 = .ok (.imul, 1) := by decide +kernel
theorem dL_links_208 : decode cL_links 208 = .ok (.iload 13, 2) := by decide +kernel
theorem dL_links_210 : decode cL_links 210 = .ok (.iadd, 1) := by decide +kernel
theorem dL_links_211 : decode cL_links 211 = .ok (.iaload, 1) := by decide +kernel
theorem dL_links_212 : decode cL_links 212 = .ok (.istore 15, 2) := by decide +kernel
theorem dL_links_214 : decode cL_links 214 = .ok (.aload 7, 2) := by decide +kernel
theorem dL_links_216 : decode cL_links 216 = .ok (.bipush 6, 2) := by decide +kernel
theorem dL_links_218 : decode cL_links 218 = .ok (.iload 10, 2) := by decide +kernel
theorem dL_links_220 : decode cL_links 220 = .ok (.imul, 1) := by decide +kernel
theorem dL_links_221 : decode cL_links 221 = .ok (.iload 13, 2) := by decide +kernel
theorem dL_links_223 : decode cL_links 223 = .ok (.iadd, 1) := by decide +kernel
theorem dL_links_224 : decode cL_links 224 = .ok (.iload 14, 2) := by decide +kernel
theorem dL_links_226 : decode cL_links 226 = .ok (.iastore, 1) := by decide +kernel
theorem dL_links_227 : decode cL_links 227 = .ok (.aload_n 0, 1) := by decide +kernel
theorem dL_links_228 : decode cL_links 228 = .ok (.iconst (-1), 1) := by decide +kernel
theorem dL_links_229 : decode cL_links 229 = .ok (.iload 13, 2) := by decide +kernel
theorem dL_links_231 : decode cL_links 231 = .ok (.iconst 0, 1) := by decide +kernel
theorem dL_links_232 : decode cL_links 232 = .ok (.invokestatic 100, 3) := by decide +kernel
theorem dL_links_235 : decode cL_links 235 = .ok (.bipush (-71), 2) := by decide +kernel
theorem dL_links_237 : decode cL_links 237 = .ok (.if_icmp .ne 65, 3) := by decide +kernel
theorem dL_links_240 : decode cL_links 240 = .ok (.aload_n 0, 1) := by decide +kernel
theorem dL_links_241 : decode cL_links 241 = .ok (.iload 10, 2) := by decide +kernel
theorem dL_links_243 : decode cL_links 243 = .ok (.iconst (-1), 1) := by decide +kernel
theorem dL_links_244 : decode cL_links 244 = .ok (.iconst 0, 1) := by decide +kernel
theorem dL_links_245 : decode cL_links 245 = .ok (.invokestatic 100, 3) := by decide +kernel
theorem dL_links_248 : decode cL_links 248 = .ok (.bipush (-71), 2) := by decide +kernel
theorem dL_links_250 : decode cL_links 250 = .ok (.if_icmp .ne 52, 3) := by decide +kernel
theorem dL_links_253 : decode cL_links 253 = .ok (.aload_n 0, 1) := by decide +kernel
theorem dL_links_254 : decode cL_links 254 = .ok (.iload 10, 2) := by decide +kernel
theorem dL_links_256 : decode cL_links 256 = .ok (.iload 13, 2) := by decide +kernel
theorem dL_links_258 : decode cL_links 258 = .ok (.sipush 1024, 3) := by decide +kernel
theorem dL_links_261 : decode cL_links 261 = .ok (.invokestatic 100, 3) := by decide +kernel
theorem dL_links_264 : decode cL_links 264 = .ok (.bipush (-72), 2) := by decide +kernel
theorem dL_links_266 : decode cL_links 266 = .ok (.if_icmp .ne 36, 3) := by decide +kernel
theorem dL_links_269 : decode cL_links 269 = .ok (.aload_n 0, 1) := by decide +kernel
theorem dL_links_270 : decode cL_links 270 = .ok (.iload 10, 2) := by decide +kernel
theorem dL_links_272 : decode cL_links 272 = .ok (.iload 13, 2) := by decide +kernel
theorem dL_links_274 : decode cL_links 274 = .ok (.iconst (-1), 1) := by decide +kernel
theorem dL_links_275 : decode cL_links 275 = .ok (.invokestatic 100, 3) := by decide +kernel
theorem dL_links_278 : decode cL_links 278 = .ok (.bipush (-72), 2) := by decide +kernel
theorem dL_links_280 : decode cL_links 280 = .ok (.if_icmp .ne 22, 3) := by decide +kernel
theorem dL_links_283 : decode cL_links 283 = .ok (.aload_n 0, 1) := by decide +kernel
theorem dL_links_284 : decode cL_links 284 = .ok (.iload 10, 2) := by decide +kernel
theorem dL_links_286 : decode cL_links 286 = .ok (.iload 13, 2) := by decide +kernel
theorem dL_links_288 : decode cL_links 288 = .ok (.iload 14, 2) := by decide +kernel
theorem dL_links_290 : decode cL_links 290 = .ok (.invokestatic 100, 3) := by decide +kernel
theorem dL_links_293 : decode cL_links 293 = .ok (.iload 15, 2) := by decide +kernel
theorem dL_links_295 : decode cL_links 295 = .ok (.if_icmp .ne 7, 3) := by decide +kernel
theorem dL_links_298 : decode cL_links 298 = .ok (.iconst 1, 1) := by decide +kernel
theorem dL_links_299 : decode cL_links 299 = .ok (.goto 4, 3) := by decide +kernel
theorem dL_links_302 : decode cL_links 302 = .ok (.iconst 0, 1) := by decide +kernel
theorem dL_links_303 : decode cL_links 303 = .ok (.ireturn, 1) := by decide +kernel
theorem dL_links_304 : decode cL_links 304 = .ok (.iload_n 1, 1) := by decide +kernel
theorem dL_links_305 : decode cL_links 305 = .ok (.bipush 6, 2) := by decide +kernel
theorem dL_links_307 : decode cL_links 307 = .ok (.if_icmp .ne 77, 3) := by decide +kernel
theorem dL_links_310 : decode cL_links 310 = .ok (.iload_n 2, 1) := by decide +kernel
theorem dL_links_311 : decode cL_links 311 = .ok (.bipush 48, 2) := by decide +kernel
theorem dL_links_313 : decode cL_links 313 = .ok (.iand, 1) := by decide +kernel
theorem dL_links_314 : decode cL_links 314 = .ok (.ifCond .ne 11, 3) := by decide +kernel
theorem dL_links_317 : decode cL_links 317 = .ok (.iload_n 3, 1) := by decide +kernel
theorem dL_links_318 : decode cL_links 318 = .ok (.iconst 5, 1) := by decide +kernel
theorem dL_links_319 : decode cL_links 319 = .ok (.invokestatic 94, 3) := by decide +kernel
theorem dL_links_322 : decode cL_links 322 = .ok (.goto 5, 3) := by decide +kernel
theorem dL_links_325 : decode cL_links 325 = .ok (.iload 10, 2) := by decide +kernel
theorem dL_links_327 : decode cL_links 327 = .ok (.istore 14, 2) := by decide +kernel
theorem dL_links_329 : decode cL_links 329 = .ok (.aload 9, 2) := by decide +kernel
theorem dL_links_331 : decode cL_links 331 = .ok (.iload 11, 2) := by decide +kernel
theorem dL_links_333 : decode cL_links 333 = .ok (.bipush 6, 2) := by decide +kernel
theorem dL_links_335 : decode cL_links 335 = .ok (.iadd, 1) := by decide +kernel
theorem dL_links_336 : decode cL_links 336 = .ok (.iaload, 1) := by decide +kernel
theorem dL_links_337 : decode cL_links 337 = .ok (.invokestatic 83, 3) := by decide +kernel
theorem dL_links_340 : decode cL_links 340 = .ok (.istore 15, 2) := by decide +kernel
theorem dL_links_342 : decode cL_links 342 = .ok (.aload 9, 2) := by decide +kernel
theorem dL_links_344 : decode cL_links 344 = .ok (.iload 11, 2) := by decide +kernel
theorem dL_links_346 : decode cL_links 346 = .ok (.bipush 6, 2) := by decide +kernel
theorem dL_links_348 : decode cL_links 348 = .ok (.iadd, 1) := by decide +kernel
theorem dL_links_349 : decode cL_links 349 = .ok (.iload 14, 2) := by decide +kernel
theorem dL_links_351 : decode cL_links 351 = .ok (.iastore, 1) := by decide +kernel
theorem dL_links_352 : decode cL_links 352 = .ok (.aload_n 0, 1) := by decide +kernel
theorem dL_links_353 : decode cL_links 353 = .ok (.iconst 2, 1) := by decide +kernel
theorem dL_links_354 : decode cL_links 354 = .ok (.iconst 5, 1) := by decide +kernel
theorem dL_links_355 : decode cL_links 355 = .ok (.iconst 5, 1) := by decide +kernel
theorem dL_links_356 : decode cL_links 356 = .ok (.invokestatic 102, 3) := by decide +kernel
theorem dL_links_359 : decode cL_links 359 = .ok (.ifCond .ne 23, 3) := by decide +kernel
theorem dL_links_362 : decode cL_links 362 = .ok (.aload_n 0, 1) := by decide +kernel
theorem dL_links_363 : decode cL_links 363 = .ok (.iload 10, 2) := by decide +kernel
theorem dL_links_365 : decode cL_links 365 = .ok (.iload 14, 2) := by decide +kernel
theorem dL_links_367 : decode cL_links 367 = .ok (.invokestatic 83, 3) := by decide +kernel
theorem dL_links_370 : decode cL_links 370 = .ok (.iload 15, 2) := by decide +kernel
theorem dL_links_372 : decode cL_links 372 = .ok (.invokestatic 102, 3) := by decide +kernel
theorem dL_links_375 : decode cL_links 375 = .ok (.ifCond .eq 7, 3) := by decide +kernel
theorem dL_links_378 : decode cL_links 378 = .ok (.iconst 1, 1) := by decide +kernel
theorem dL_links_379 : decode cL_links 379 = .ok (.goto 4, 3) := by decide +kernel
theorem dL_links_382 : decode cL_links 382 = .ok (.iconst 0, 1) := by decide +kernel
theorem dL_links_383 : decode cL_links 383 = .ok (.ireturn, 1) := by decide +kernel
theorem dL_links_384 : decode cL_links 384 = .ok (.iload_n 1, 1) := by decide +kernel
theorem dL_links_385 : decode cL_links 385 = .ok (.bipush 10, 2) := by decide +kernel
theorem dL_links_387 : decode cL_links 387 = .ok (.if_icmp .ge 132, 3) := by decide +kernel
theorem dL_links_390 : decode cL_links 390 = .ok (.aload 9, 2) := by decide +kernel
theorem dL_links_392 : decode cL_links 392 = .ok (.iload 11, 2) := by decide +kernel
theorem dL_links_394 : decode cL_links 394 = .ok (.iaload, 1) := by decide +kernel
theorem dL_links_395 : decode cL_links 395 = .ok (.ifCond .le 30, 3) := by decide +kernel
theorem dL_links_398 : decode cL_links 398 = .ok (.aload_n 0, 1) := by decide +kernel
theorem dL_links_399 : decode cL_links 399 = .ok (.iload 10, 2) := by decide +kernel
theorem dL_links_401 : decode cL_links 401 = .ok (.invokestatic 106, 3) := by decide +kernel
theorem dL_links_404 : decode cL_links 404 = .ok (.bipush (-73), 2) := by decide +kernel
theorem dL_links_406 : decode cL_links 406 = .ok (.if_icmp .ne 17, 3) := by decide +kernel
theorem dL_links_409 : decode cL_links 409 = .ok (.aload_n 0, 1) := by decide +kernel
theorem dL_links_410 : decode cL_links 410 = .ok (.iconst 2, 1) := by decide +kernel
theorem dL_links_411 : decode cL_links 411 = .ok (.invokestatic 106, 3) := by decide +kernel
theorem dL_links_414 : decode cL_links 414 = .ok (.bipush (-71), 2) := by decide +kernel
theorem dL_links_416 : decode cL_links 416 = .ok (.if_icmp .ne 7, 3) := by decide +kernel
theorem dL_links_419 : decode cL_links 419 = .ok (.iconst 1, 1) := by decide +kernel
theorem dL_links_420 : decode cL_links 420 = .ok (.goto 4, 3) := by decide +kernel
theorem dL_links_423 : decode cL_links 423 = .ok (.iconst 0, 1) := by decide +kernel
theorem dL_links_424 : decode cL_links 424 = .ok (.ireturn, 1) := by decide +kernel
theorem dL_links_425 : decode cL_links 425 = .ok (.bipush 6, 2) := by decide +kernel
theorem dL_links_427 : decode cL_links 427 = .ok (.iload 10, 2) := by decide +kernel
theorem dL_links_429 : decode cL_links 429 = .ok (.imul, 1) := by decide +kernel
theorem dL_links_430 : decode cL_links 430 = .ok (.istore 14, 2) := by decide +kernel
theorem dL_links_432 : decode cL_links 432 = .ok (.iload 14, 2) := by decide +kernel
theorem dL_links_434 : decode cL_links 434 = .ok (.bipush 6, 2) := by decide +kernel
theorem dL_links_436 : decode cL_links 436 = .ok (.iload 10, 2) := by decide +kernel
theorem dL_links_438 : decode cL_links 438 = .ok (.imul, 1) := by decide +kernel
theorem dL_links_439 : decode cL_links 439 = .ok (.bipush 6, 2) := by decide +kernel
theorem dL_links_441 : decode cL_links 441 = .ok (.iadd, 1) := by decide +kernel
theorem dL_links_442 : decode cL_links 442 = .ok (.if_icmp .ge 19, 3) := by decide +kernel
theorem dL_links_445 : decode cL_links 445 = .ok (.aload 8, 2) := by decide +kernel
theorem dL_links_447 : decode cL_links 447 = .ok (.iload 14, 2) := by decide +kernel
theorem dL_links_449 : decode cL_links 449 = .ok (.aload 6, 2) := by decide +kernel
theorem dL_links_451 : decode cL_links 451 = .ok (.iload 14, 2) := by decide +kernel
theorem dL_links_453 : decode cL_links 453 = .ok (.iaload, 1) := by decide +kernel
theorem dL_links_454 : decode cL_links 454 = .ok (.iastore, 1) := by decide +kernel
theorem dL_links_455 : decode cL_links 455 = .ok (.iinc 14 1, 3) := by decide +kernel
theorem dL_links_458 : decode cL_links 458 = .ok (.goto (-26), 3) := by decide +kernel
theorem dL_links_461 : decode cL_links 461 = .ok (.aload 9, 2) := by decide +kernel
theorem dL_links_463 : decode cL_links 463 = .ok (.iload 11, 2) := by decide +kernel
theorem dL_links_465 : decode cL_links 465 = .ok (.iconst 1, 1) := by decide +kernel
theorem dL_links_466 : decode cL_links 466 = .ok (.iastore, 1) := by decide +kernel
theorem dL_links_467 : decode cL_links 467 = .ok (.aload 9, 2) := by decide +kernel
theorem dL_links_469 : decode cL_links 469 = .ok (.iload 11, 2) := by decide +kernel
theorem dL_links_471 : decode cL_links 471 = .ok (.iconst 2, 1) := by decide +kernel
theorem dL_links_472 : decode cL_links 472 = .ok (.iadd, 1) := by decide +kernel
theorem dL_links_473 : decode cL_links 473 = .ok (.iconst 0, 1) := by decide +kernel
theorem dL_links_474 : decode cL_links 474 = .ok (.iastore, 1) := by decide +kernel
theorem dL_links_475 : decode cL_links 475 = .ok (.aload 12, 2) := by decide +kernel
theorem dL_links_477 : decode cL_links 477 = .ok (.aload 8, 2) := by decide +kernel
theorem dL_links_479 : decode cL_links 479 = .ok (.aload 9, 2) := by decide +kernel
theorem dL_links_481 : decode cL_links 481 = .ok (.iload 10, 2) := by decide +kernel
theorem dL_links_483 : decode cL_links 483 = .ok (.invokestatic 86, 3) := by decide +kernel
theorem dL_links_486 : decode cL_links 486 = .ok (.pop, 1) := by decide +kernel
theorem dL_links_487 : decode cL_links 487 = .ok (.aload_n 0, 1) := by decide +kernel
theorem dL_links_488 : decode cL_links 488 = .ok (.iconst (-1), 1) := by decide +kernel
theorem dL_links_489 : decode cL_links 489 = .ok (.invokestatic 106, 3) := by decide +kernel
theorem dL_links_492 : decode cL_links 492 = .ok (.bipush (-71), 2) := by decide +kernel
theorem dL_links_494 : decode cL_links 494 = .ok (.if_icmp .ne 23, 3) := by decide +kernel
theorem dL_links_497 : decode cL_links 497 = .ok (.aload_n 0, 1) := by decide +kernel
theorem dL_links_498 : decode cL_links 498 = .ok (.iload 10, 2) := by decide +kernel
theorem dL_links_500 : decode cL_links 500 = .ok (.invokestatic 106, 3) := by decide +kernel
theorem dL_links_503 : decode cL_links 503 = .ok (.aload 9, 2) := by decide +kernel
theorem dL_links_505 : decode cL_links 505 = .ok (.iload 11, 2) := by decide +kernel
theorem dL_links_507 : decode cL_links 507 = .ok (.iconst 1, 1) := by decide +kernel
theorem dL_links_508 : decode cL_links 508 = .ok (.iadd, 1) := by decide +kernel
theorem dL_links_509 : decode cL_links 509 = .ok (.iaload, 1) := by decide +kernel
theorem dL_links_510 : decode cL_links 510 = .ok (.if_icmp .ne 7, 3) := by decide +kernel
theorem dL_links_513 : decode cL_links 513 = .ok (.iconst 1, 1) := by decide +kernel
theorem dL_links_514 : decode cL_links 514 = .ok (.goto 4, 3) := by decide +kernel
theorem dL_links_517 : decode cL_links 517 = .ok (.iconst 0, 1) := by decide +kernel
theorem dL_links_518 : decode cL_links 518 = .ok (.ireturn, 1) := by decide +kernel
theorem dL_links_519 : decode cL_links 519 = .ok (.iload_n 1, 1) := by decide +kernel
theorem dL_links_520 : decode cL_links 520 = .ok (.bipush 10, 2) := by decide +kernel
theorem dL_links_522 : decode cL_links 522 = .ok (.if_icmp .ne 93, 3) := by decide +kernel
theorem dL_links_525 : decode cL_links 525 = .ok (.iload_n 3, 1) := by decide +kernel
theorem dL_links_526 : decode cL_links 526 = .ok (.bipush 6, 2) := by decide +kernel
theorem dL_links_528 : decode cL_links 528 = .ok (.iand, 1) := by decide +kernel
theorem dL_links_529 : decode cL_links 529 = .ok (.ifCond .le 19, 3) := by decide +kernel
theorem dL_links_532 : decode cL_links 532 = .ok (.aload_n 0, 1) := by decide +kernel
theorem dL_links_533 : decode cL_links 533 = .ok (.iconst 2, 1) := by decide +kernel
theorem dL_links_534 : decode cL_links 534 = .ok (.invokestatic 109, 3) := by decide +kernel
theorem dL_links_537 : decode cL_links 537 = .ok (.bipush (-71), 2) := by decide +kernel
theorem dL_links_539 : decode cL_links 539 = .ok (.if_icmp .ne 7, 3) := by decide +kernel
theorem dL_links_542 : decode cL_links 542 = .ok (.iconst 1, 1) := by decide +kernel
theorem dL_links_543 : decode cL_links 543 = .ok (.goto 4, 3) := by decide +kernel
theorem dL_links_546 : decode cL_links 546 = .ok (.iconst 0, 1) := by decide +kernel
theorem dL_links_547 : decode cL_links 547 = .ok (.ireturn, 1) := by decide +kernel
theorem dL_links_548 : decode cL_links 548 = .ok (.aload 9, 2) := by decide +kernel
theorem dL_links_550 : decode cL_links 550 = .ok (.iload 11, 2) := by decide +kernel
theorem dL_links_552 : decode cL_links 552 = .ok (.iaload, 1) := by decide +kernel
theorem dL_links_553 : decode cL_links 553 = .ok (.ifCond .ne 20, 3) := by decide +kernel
theorem dL_links_556 : decode cL_links 556 = .ok (.aload_n 0, 1) := by decide +kernel
theorem dL_links_557 : decode cL_links 557 = .ok (.iload 10, 2) := by decide +kernel
theorem dL_links_559 : decode cL_links 559 = .ok (.invokestatic 109, 3) := by decide +kernel
theorem dL_links_562 : decode cL_links 562 = .ok (.bipush (-73), 2) := by decide +kernel
theorem dL_links_564 : decode cL_links 564 = .ok (.if_icmp .ne 7, 3) := by decide +kernel
theorem dL_links_567 : decode cL_links 567 = .ok (.iconst 1, 1) := by decide +kernel
theorem dL_links_568 : decode cL_links 568 = .ok (.goto 4, 3) := by decide +kernel
theorem dL_links_571 : decode cL_links 571 = .ok (.iconst 0, 1) := by decide +kernel
theorem dL_links_572 : decode cL_links 572 = .ok (.ireturn, 1) := by decide +kernel
theorem dL_links_573 : decode cL_links 573 = .ok (.aload 9, 2) := by decide +kernel
theorem dL_links_575 : decode cL_links 575 = .ok (.iload 11, 2) := by decide +kernel
theorem dL_links_577 : decode cL_links 577 = .ok (.iaload, 1) := by decide +kernel
theorem dL_links_578 : decode cL_links 578 = .ok (.istore 14, 2) := by decide +kernel
theorem dL_links_580 : decode cL_links 580 = .ok (.aload 12, 2) := by decide +kernel
theorem dL_links_582 : decode cL_links 582 = .ok (.aload 9, 2) := by decide +kernel
theorem dL_links_584 : decode cL_links 584 = .ok (.iload 10, 2) := by decide +kernel
theorem dL_links_586 : decode cL_links 586 = .ok (.iconst 4, 1) := by decide +kernel
theorem dL_links_587 : decode cL_links 587 = .ok (.iconst 0, 1) := by decide +kernel
theorem dL_links_588 : decode cL_links 588 = .ok (.lconst 0, 1) := by decide +kernel
theorem dL_links_589 : decode cL_links 589 = .ok (.invokestatic 73, 3) := by decide +kernel
theorem dL_links_592 : decode cL_links 592 = .ok (.aload 9, 2) := by decide +kernel
theorem dL_links_594 : decode cL_links 594 = .ok (.iload 11, 2) := by decide +kernel
theorem dL_links_596 : decode cL_links 596 = .ok (.iconst 0, 1) := by decide +kernel
theorem dL_links_597 : decode cL_links 597 = .ok (.iastore, 1) := by decide +kernel
theorem dL_links_598 : decode cL_links 598 = .ok (.aload_n 0, 1) := by decide +kernel
theorem dL_links_599 : decode cL_links 599 = .ok (.iload 10, 2) := by decide +kernel
theorem dL_links_601 : decode cL_links 601 = .ok (.invokestatic 109, 3) := by decide +kernel
theorem dL_links_604 : decode cL_links 604 = .ok (.iload 14, 2) := by decide +kernel
theorem dL_links_606 : decode cL_links 606 = .ok (.if_icmp .ne 7, 3) := by decide +kernel
theorem dL_links_609 : decode cL_links 609 = .ok (.iconst 1, 1) := by decide +kernel
theorem dL_links_610 : decode cL_links 610 = .ok (.goto 4, 3) := by decide +kernel
theorem dL_links_613 : decode cL_links 613 = .ok (.iconst 0, 1) := by decide +kernel
theorem dL_links_614 : decode cL_links 614 = .ok (.ireturn, 1) := by decide +kernel
theorem dL_links_615 : decode cL_links 615 = .ok (.iload_n 1, 1) := by decide +kernel
theorem dL_links_616 : decode cL_links 616 = .ok (.bipush 14, 2) := by decide +kernel
theorem dL_links_618 : decode cL_links 618 = .ok (.if_icmp .ge 88, 3) := by decide +kernel
theorem dL_links_621 : decode cL_links 621 = .ok (.iconst 1, 1) := by decide +kernel
theorem dL_links_622 : decode cL_links 622 = .ok (.iload_n 3, 1) := by decide +kernel
theorem dL_links_623 : decode cL_links 623 = .ok (.iload_n 2, 1) := by decide +kernel
theorem dL_links_624 : decode cL_links 624 = .ok (.bipush 48, 2) := by decide +kernel
theorem dL_links_626 : decode cL_links 626 = .ok (.iand, 1) := by decide +kernel
theorem dL_links_627 : decode cL_links 627 = .ok (.ifCond .ne 8, 3) := by decide +kernel
theorem dL_links_630 : decode cL_links 630 = .ok (.bipush 50, 2) := by decide +kernel
theorem dL_links_632 : decode cL_links 632 = .ok (.goto 4, 3) := by decide +kernel
theorem dL_links_635 : decode cL_links 635 = .ok (.iconst 5, 1) := by decide +kernel
theorem dL_links_636 : decode cL_links 636 = .ok (.invokestatic 94, 3) := by decide +kernel
theorem dL_links_639 : decode cL_links 639 = .ok (.iadd, 1) := by decide +kernel
theorem dL_links_640 : decode cL_links 640 = .ok (.istore 14, 2) := by decide +kernel
theorem dL_links_642 : decode cL_links 642 = .ok (.iload 14, 2) := by decide +kernel
theorem dL_links_644 : decode cL_links 644 = .ok (.aload 4, 2) := by decide +kernel
theorem dL_links_646 : decode cL_links 646 = .ok (.aload 5, 2) := by decide +kernel
theorem dL_links_648 : decode cL_links 648 = .ok (.aload 8, 2) := by decide +kernel
theorem dL_links_650 : decode cL_links 650 = .ok (.aload 9, 2) := by decide +kernel
theorem dL_links_652 : decode cL_links 652 = .ok (.invokestatic 111, 3) := by decide +kernel
theorem dL_links_655 : decode cL_links 655 = .ok (.istore 15, 2) := by decide +kernel
theorem dL_links_657 : decode cL_links 657 = .ok (.aload_n 0, 1) := by decide +kernel
theorem dL_links_658 : decode cL_links 658 = .ok (.iconst 0, 1) := by decide +kernel
theorem dL_links_659 : decode cL_links 659 = .ok (.invokestatic 115, 3) := by decide +kernel
theorem dL_links_662 : decode cL_links 662 = .ok (.bipush (-72), 2) := by decide +kernel
theorem dL_links_664 : decode cL_links 664 = .ok (.if_icmp .ne 40, 3) := by decide +kernel
theorem dL_links_667 : decode cL_links 667 = .ok (.aload_n 0, 1) := by decide +kernel
theorem dL_links_668 : decode cL_links 668 = .ok (.bipush 51, 2) := by decide +kernel
theorem dL_links_670 : decode cL_links 670 = .ok (.invokestatic 115, 3) := by decide +kernel
theorem dL_links_673 : decode cL_links 673 = .ok (.bipush (-72), 2) := by decide +kernel
theorem dL_links_675 : decode cL_links 675 = .ok (.if_icmp .ne 29, 3) := by decide +kernel
theorem dL_links_678 : decode cL_links 678 = .ok (.aload_n 0, 1) := by decide +kernel
theorem dL_links_679 : decode cL_links 679 = .ok (.ldc 67, 2) := by decide +kernel
theorem dL_links_681 : decode cL_links 681 = .ok (.invokestatic 115, 3) := by decide +kernel
theorem dL_links_684 : decode cL_links 684 = .ok (.bipush (-72), 2) := by decide +kernel
theorem dL_links_686 : decode cL_links 686 = .ok (.if_icmp .ne 18, 3) := by decide +kernel
theorem dL_links_689 : decode cL_links 689 = .ok (.aload_n 0, 1) := by decide +kernel
theorem dL_links_690 : decode cL_links 690 = .ok (.iload 14, 2) := by decide +kernel
theorem dL_links_692 : decode cL_links 692 = .ok (.invokestatic 115, 3) := by decide +kernel
theorem dL_links_695 : decode cL_links 695 = .ok (.iload 15, 2) := by decide +kernel
theorem dL_links_697 : decode cL_links 697 = .ok (.if_icmp .ne 7, 3) := by decide +kernel
theorem dL_links_700 : decode cL_links 700 = .ok (.iconst 1, 1) := by decide +kernel
theorem dL_links_701 : decode cL_links 701 = .ok (.goto 4, 3) := by decide +kernel
theorem dL_links_704 : decode cL_links 704 = .ok (.iconst 0, 1) := by decide +kernel
theorem dL_links_705 : decode cL_links 705 = .ok (.ireturn, 1) := by decide +kernel
theorem dL_links_706 : decode cL_links 706 = .ok (.aload_n 0, 1) := by decide +kernel
theorem dL_links_707 : decode cL_links 707 = .ok (.iconst 2, 1) := by decide +kernel
theorem dL_links_708 : decode cL_links 708 = .ok (.invokestatic 117, 3) := by decide +kernel
theorem dL_links_711 : decode cL_links 711 = .ok (.bipush (-71), 2) := by decide +kernel
theorem dL_links_713 : decode cL_links 713 = .ok (.if_icmp .ne 23, 3) := by decide +kernel
theorem dL_links_716 : decode cL_links 716 = .ok (.aload_n 0, 1) := by decide +kernel
theorem dL_links_717 : decode cL_links 717 = .ok (.iconst (-1), 1) := by decide +kernel
theorem dL_links_718 : decode cL_links 718 = .ok (.invokestatic 119, 3) := by decide +kernel
theorem dL_links_721 : decode cL_links 721 = .ok (.bipush (-71), 2) := by decide +kernel
theorem dL_links_723 : decode cL_links 723 = .ok (.if_icmp .ne 13, 3) := by decide +kernel
theorem dL_links_726 : decode cL_links 726 = .ok (.aload_n 0, 1) := by decide +kernel
theorem dL_links_727 : decode cL_links 727 = .ok (.iconst 2, 1) := by decide +kernel
theorem dL_links_728 : decode cL_links 728 = .ok (.invokestatic 121, 3) := by decide +kernel
theorem dL_links_731 : decode cL_links 731 = .ok (.bipush (-71), 2) := by decide +kernel
theorem dL_links_733 : decode cL_links 733 = .ok (.if_icmp .eq 5, 3) := by decide +kernel
theorem dL_links_736 : decode cL_links 736 = .ok (.iconst 0, 1) := by decide +kernel
theorem dL_links_737 : decode cL_links 737 = .ok (.ireturn, 1) := by decide +kernel
theorem dL_links_738 : decode cL_links 738 = .ok (.aload 9, 2) := by decide +kernel
theorem dL_links_740 : decode cL_links 740 = .ok (.iload 11, 2) := by decide +kernel
theorem dL_links_742 : decode cL_links 742 = .ok (.bipush 7, 2) := by decide +kernel
theorem dL_links_744 : decode cL_links 744 = .ok (.iadd, 1) := by decide +kernel
theorem dL_links_745 : decode cL_links 745 = .ok (.iaload, 1) := by decide +kernel
theorem dL_links_746 : decode cL_links 746 = .ok (.ifCond .ne 42, 3) := by decide +kernel
theorem dL_links_749 : decode cL_links 749 = .ok (.aload_n 0, 1) := by decide +kernel
theorem dL_links_750 : decode cL_links 750 = .ok (.iload 10, 2) := by decide +kernel
theorem dL_links_752 : decode cL_links 752 = .ok (.invokestatic 117, 3) := by decide +kernel
theorem dL_links_755 : decode cL_links 755 = .ok (.bipush (-73), 2) := by decide +kernel
theorem dL_links_757 : decode cL_links 757 = .ok (.if_icmp .ne 29, 3) := by decide +kernel
theorem dL_links_760 : decode cL_links 760 = .ok (.aload_n 0, 1) := by decide +kernel
theorem dL_links_761 : decode cL_links 761 = .ok (.iload 10, 2) := by decide +kernel
theorem dL_links_763 : decode cL_links 763 = .ok (.invokestatic 119, 3) := by decide +kernel
theorem dL_links_766 : decode cL_links 766 = .ok (.bipush (-73), 2) := by decide +kernel
theorem dL_links_768 : decode cL_links 768 = .ok (.if_icmp .ne 18, 3) := by decide +kernel
theorem dL_links_771 : decode cL_links 771 = .ok (.aload_n 0, 1) := by decide +kernel
theorem dL_links_772 : decode cL_links 772 = .ok (.iload 10, 2) := by decide +kernel
theorem dL_links_774 : decode cL_links 774 = .ok (.invokestatic 121, 3) := by decide +kernel
theorem dL_links_777 : decode cL_links 777 = .ok (.bipush (-73), 2) := by decide +kernel
theorem dL_links_779 : decode cL_links 779 = .ok (.if_icmp .ne 7, 3) := by decide +kernel
theorem dL_links_782 : decode cL_links 782 = .ok (.iconst 1, 1) := by decide +kernel
theorem dL_links_783 : decode cL_links 783 = .ok (.goto 4, 3) := by decide +kernel
theorem dL_links_786 : decode cL_links 786 = .ok (.iconst 0, 1) := by decide +kernel
theorem dL_links_787 : decode cL_links 787 = .ok (.ireturn, 1) := by decide +kernel
theorem dL_links_788 : decode cL_links 788 = .ok (.aload 12, 2) := by decide +kernel
theorem dL_links_790 : decode cL_links 790 = .ok (.aload 9, 2) := by decide +kernel
theorem dL_links_792 : decode cL_links 792 = .ok (.iload 10, 2) := by decide +kernel
theorem dL_links_794 : decode cL_links 794 = .ok (.invokestatic 123, 3) := by decide +kernel
theorem dL_links_797 : decode cL_links 797 = .ok (.lstore 14, 2) := by decide +kernel
theorem dL_links_799 : decode cL_links 799 = .ok (.lload 14, 2) := by decide +kernel
theorem dL_links_801 : decode cL_links 801 = .ok (.ldc2_w 81, 3) := by decide +kernel
theorem dL_links_804 : decode cL_links 804 = .ok (.land, 1) := by decide +kernel
theorem dL_links_805 : decode cL_links 805 = .ok (.l2i, 1) := by decide +kernel
theorem dL_links_806 : decode cL_links 806 = .ok (.istore 16, 2) := by decide +kernel
theorem dL_links_808 : decode cL_links 808 = .ok (.iload_n 1, 1) := by decide +kernel
theorem dL_links_809 : decode cL_links 809 = .ok (.bipush 22, 2) := by decide +kernel
theorem dL_links_811 : decode cL_links 811 = .ok (.if_icmp .ge 47, 3) := by decide +kernel
theorem dL_links_814 : decode cL_links 814 = .ok (.lload 14, 2) := by decide +kernel
theorem dL_links_816 : decode cL_links 816 = .ok (.iload 10, 2) := by decide +kernel
theorem dL_links_818 : decode cL_links 818 = .ok (.ifCond .ne 8, 3) := by decide +kernel
theorem dL_links_821 : decode cL_links 821 = .ok (.aload 5, 2) := by decide +kernel
theorem dL_links_823 : decode cL_links 823 = .ok (.goto 5, 3) := by decide +kernel
theorem dL_links_826 : decode cL_links 826 = .ok (.aload 4, 2) := by decide +kernel
theorem dL_links_828 : decode cL_links 828 = .ok (.aload 7, 2) := by decide +kernel
theorem dL_links_830 : decode cL_links 830 = .ok (.aload 8, 2) := by decide +kernel
theorem dL_links_832 : decode cL_links 832 = .ok (.aload 9, 2) := by decide +kernel
theorem dL_links_834 : decode cL_links 834 = .ok (.iconst 1, 1) := by decide +kernel
theorem dL_links_835 : decode cL_links 835 = .ok (.iload 10, 2) := by decide +kernel
theorem dL_links_837 : decode cL_links 837 = .ok (.isub, 1) := by decide +kernel
theorem dL_links_838 : decode cL_links 838 = .ok (.invokestatic 127, 3) := by decide +kernel
theorem dL_links_841 : decode cL_links 841 = .ok (.aload_n 0, 1) := by decide +kernel
theorem dL_links_842 : decode cL_links 842 = .ok (.iload 10, 2) := by decide +kernel
theorem dL_links_844 : decode cL_links 844 = .ok (.invokestatic 117, 3) := by decide +kernel
theorem dL_links_847 : decode cL_links 847 = .ok (.iload 16, 2) := by decide +kernel
theorem dL_links_849 : decode cL_links 849 = .ok (.if_icmp .ne 7, 3) := by decide +kernel
theorem dL_links_852 : decode cL_links 852 = .ok (.iconst 1, 1) := by decide +kernel
theorem dL_links_853 : decode cL_links 853 = .ok (.goto 4, 3) := by decide +kernel
theorem dL_links_856 : decode cL_links 856 = .ok (.iconst 0, 1) := by decide +kernel
theorem dL_links_857 : decode cL_links 857 = .ok (.ireturn, 1) := by decide +kernel
theorem dL_links_858 : decode cL_links 858 = .ok (.aload 9, 2) := by decide +kernel
theorem dL_links_860 : decode cL_links 860 = .ok (.iload 11, 2) := by decide +kernel
theorem dL_links_862 : decode cL_links 862 = .ok (.iconst 5, 1) := by decide +kernel
theorem dL_links_863 : decode cL_links 863 = .ok (.iadd, 1) := by decide +kernel
theorem dL_links_864 : decode cL_links 864 = .ok (.dup2, 1) := by decide +kernel
theorem dL_links_865 : decode cL_links 865 = .ok (.iaload, 1) := by decide +kernel
theorem dL_links_866 : decode cL_links 866 = .ok (.iconst 1, 1) := by decide +kernel
theorem dL_links_867 : decode cL_links 867 = .ok (.iadd, 1) := by decide +kernel
theorem dL_links_868 : decode cL_links 868 = .ok (.iastore, 1) := by decide +kernel
theorem dL_links_869 : decode cL_links 869 = .ok (.iload_n 1, 1) := by decide +kernel
theorem dL_links_870 : decode cL_links 870 = .ok (.bipush 22, 2) := by decide +kernel
theorem dL_links_872 : decode cL_links 872 = .ok (.if_icmp .ne 20, 3) := by decide +kernel
theorem dL_links_875 : decode cL_links 875 = .ok (.aload_n 0, 1) := by decide +kernel
theorem dL_links_876 : decode cL_links 876 = .ok (.iload 10, 2) := by decide +kernel
theorem dL_links_878 : decode cL_links 878 = .ok (.invokestatic 119, 3) := by decide +kernel
theorem dL_links_881 : decode cL_links 881 = .ok (.iload 16, 2) := by decide +kernel
theorem dL_links_883 : decode cL_links 883 = .ok (.if_icmp .ne 7, 3) := by decide +kernel
theorem dL_links_886 : decode cL_links 886 = .ok (.iconst 1, 1) := by decide +kernel
theorem dL_links_887 : decode cL_links 887 = .ok (.goto 4, 3) := by decide +kernel
theorem dL_links_890 : decode cL_links 890 = .ok (.iconst 0, 1) := by decide +kernel
theorem dL_links_891 : decode cL_links 891 = .ok (.ireturn, 1) := by decide +kernel
theorem dL_links_892 : decode cL_links 892 = .ok (.lload 14, 2) := by decide +kernel
theorem dL_links_894 : decode cL_links 894 = .ok (.aload 12, 2) := by decide +kernel
theorem dL_links_896 : decode cL_links 896 = .ok (.aload 7, 2) := by decide +kernel
theorem dL_links_898 : decode cL_links 898 = .ok (.aload 8, 2) := by decide +kernel
theorem dL_links_900 : decode cL_links 900 = .ok (.aload 9, 2) := by decide +kernel
theorem dL_links_902 : decode cL_links 902 = .ok (.iload 10, 2) := by decide +kernel
theorem dL_links_904 : decode cL_links 904 = .ok (.invokestatic 127, 3) := by decide +kernel
theorem dL_links_907 : decode cL_links 907 = .ok (.aload_n 0, 1) := by decide +kernel
theorem dL_links_908 : decode cL_links 908 = .ok (.iload 10, 2) := by decide +kernel
theorem dL_links_910 : decode cL_links 910 = .ok (.invokestatic 121, 3) := by decide +kernel
theorem dL_links_913 : decode cL_links 913 = .ok (.iload 16, 2) := by decide +kernel
theorem dL_links_915 : decode cL_links 915 = .ok (.if_icmp .ne 7, 3) := by decide +kernel
theorem dL_links_918 : decode cL_links 918 = .ok (.iconst 1, 1) := by decide +kernel
theorem dL_links_919 : decode cL_links 919 = .ok (.goto 4, 3) := by decide +kernel
theorem dL_links_922 : decode cL_links 922 = .ok (.iconst 0, 1) := by decide +kernel
theorem dL_links_923 : decode cL_links 923 = .ok (.ireturn, 1) := by decide +kernel
theorem dL_follow_0 : decode cL_follow 0 = .ok (.aload_n 3, 1) := by decide +kernel
theorem dL_follow_1 : decode cL_follow 1 = .ok (.iconst 3, 1) := by decide +kernel
theorem dL_follow_2 : decode cL_follow 2 = .ok (.iaload, 1) := by decide +kernel
theorem dL_follow_3 : decode cL_follow 3 = .ok (.aload_n 3, 1) := by decide +kernel
theorem dL_follow_4 : decode cL_follow 4 = .ok (.iconst 4, 1) := by decide +kernel
theorem dL_follow_5 : decode cL_follow 5 = .ok (.iaload, 1) := by decide +kernel
theorem dL_follow_6 : decode cL_follow 6 = .ok (.if_icmp .ge 9, 3) := by decide +kernel
theorem dL_follow_9 : decode cL_follow 9 = .ok (.aload_n 3, 1) := by decide +kernel
theorem dL_follow_10 : decode cL_follow 10 = .ok (.iconst 3, 1) := by decide +kernel
theorem dL_follow_11 : decode cL_follow 11 = .ok (.iaload, 1) := by decide +kernel
theorem dL_follow_12 : decode cL_follow 12 = .ok (.goto 6, 3) := by decide +kernel
theorem dL_follow_15 : decode cL_follow 15 = .ok (.aload_n 3, 1) := by decide +kernel
theorem dL_follow_16 : decode cL_follow 16 = .ok (.iconst 4, 1) := by decide +kernel
theorem dL_follow_17 : decode cL_follow 17 = .ok (.iaload, 1) := by decide +kernel
theorem dL_follow_18 : decode cL_follow 18 = .ok (.istore 4, 2) := by decide +kernel
theorem dL_follow_20 : decode cL_follow 20 = .ok (.aload_n 3, 1) := by decide +kernel
theorem dL_follow_21 : decode cL_follow 21 = .ok (.iconst 5, 1) := by decide +kernel
theorem dL_follow_22 : decode cL_follow 22 = .ok (.iaload, 1) := by decide +kernel
theorem dL_follow_23 : decode cL_follow 23 = .ok (.iload 4, 2) := by decide +kernel
theorem dL_follow_25 : decode cL_follow 25 = .ok (.if_icmp .ge 9, 3) := by decide +kernel
theorem dL_follow_28 : decode cL_follow 28 = .ok (.aload_n 3, 1) := by decide +kernel
theorem dL_follow_29 : decode cL_follow 29 = .ok (.iconst 5, 1) := by decide +kernel
theorem dL_follow_30 : decode cL_follow 30 = .ok (.iaload, 1) := by decide +kernel
theorem dL_follow_31 : decode cL_follow 31 = .ok (.goto 5, 3) := by decide +kernel
theorem dL_follow_34 : decode cL_follow 34 = .ok (.iload 4, 2) := by decide +kernel
theorem dL_follow_36 : decode cL_follow 36 = .ok (.istore 4, 2) := by decide +kernel
theorem dL_follow_38 : decode cL_follow 38 = .ok (.iconst 0, 1) := by decide +kernel
theorem dL_follow_39 : decode cL_follow 39 = .ok (.istore 5, 2) := by decide +kernel
theorem dL_follow_41 : decode cL_follow 41 = .ok (.aload_n 3, 1) := by decide +kernel
theorem dL_follow_42 : decode cL_follow 42 = .ok (.bipush 8, 2) := by decide +kernel
theorem dL_follow_44 : decode cL_follow 44 = .ok (.iaload, 1) := by decide +kernel
theorem dL_follow_45 : decode cL_follow 45 = .ok (.aload_n 3, 1) := by decide +kernel
theorem dL_follow_46 : decode cL_follow 46 = .ok (.bipush 6, 2) := by decide +kernel
theorem dL_follow_48 : decode cL_follow 48 = .ok (.iaload, 1) := by decide +kernel
theorem dL_follow_49 : decode cL_follow 49 = .ok (.if_icmp .ge 180, 3) := by decide +kernel
theorem dL_follow_52 : decode cL_follow 52 = .ok (.aload_n 0, 1) := by decide +kernel
theorem dL_follow_53 : decode cL_follow 53 = .ok (.iload 5, 2) := by decide +kernel
theorem dL_follow_55 : decode cL_follow 55 = .ok (.iconst 1, 1) := by decide +kernel
theorem dL_follow_56 : decode cL_follow 56 = .ok (.iadd, 1) := by decide +kernel
theorem dL_follow_57 : decode cL_follow 57 = .ok (.iaload, 1) := by decide +kernel
theorem dL_follow_58 : decode cL_follow 58 = .ok (.aload_n 3, 1) := by decide +kernel
theorem dL_follow_59 : decode cL_follow 59 = .ok (.bipush 8, 2) := by decide +kernel
theorem dL_follow_61 : decode cL_follow 61 = .ok (.iaload, 1) := by decide +kernel
theorem dL_follow_62 : decode cL_follow 62 = .ok (.if_icmp .gt 9, 3) := by decide +kernel
theorem dL_follow_65 : decode cL_follow 65 = .ok (.iinc 5 1, 3) := by decide +kernel
theorem dL_follow_68 : decode cL_follow 68 = .ok (.goto (-16), 3) := by decide +kernel
theorem dL_follow_71 : decode cL_follow 71 = .ok (.aload_n 1, 1) := by decide +kernel
theorem dL_follow_72 : decode cL_follow 72 = .ok (.iconst 0, 1) := by decide +kernel
theorem dL_follow_73 : decode cL_follow 73 = .ok (.laload, 1) := by decide +kernel
theorem dL_follow_74 : decode cL_follow 74 = .ok (.aload_n 3, 1) := by decide +kernel
theorem dL_follow_75 : decode cL_follow 75 = .ok (.bipush 8, 2) := by decide +kernel
theorem dL_follow_77 : decode cL_follow 77 = .ok (.iaload, 1) := by decide +kernel
theorem dL_follow_78 : decode cL_follow 78 = .ok (.lshr, 1) := by decide +kernel
theorem dL_follow_79 : decode cL_follow 79 = .ok (.lconst 1, 1) := by decide +kernel
theorem dL_follow_80 : decode cL_follow 80 = .ok (.land, 1) := by decide +kernel
theorem dL_follow_81 : decode cL_follow 81 = .ok (.lconst 1, 1) := by decide +kernel
theorem dL_follow_82 : decode cL_follow 82 = .ok (.lcmp, 1) := by decide +kernel
theorem dL_follow_83 : decode cL_follow 83 = .ok (.ifCond .ne 7, 3) := by decide +kernel
theorem dL_follow_86 : decode cL_follow 86 = .ok (.iconst 1, 1) := by decide +kernel
theorem dL_follow_87 : decode cL_follow 87 = .ok (.goto 4, 3) := by decide +kernel
theorem dL_follow_90 : decode cL_follow 90 = .ok (.iconst 0, 1) := by decide +kernel
theorem dL_follow_91 : decode cL_follow 91 = .ok (.istore 6, 2) := by decide +kernel
theorem dL_follow_93 : decode cL_follow 93 = .ok (.iload 6, 2) := by decide +kernel
theorem dL_follow_95 : decode cL_follow 95 = .ok (.ifCond .ne 13, 3) := by decide +kernel
theorem dL_follow_98 : decode cL_follow 98 = .ok (.aload_n 3, 1) := by decide +kernel
theorem dL_follow_99 : decode cL_follow 99 = .ok (.bipush 8, 2) := by decide +kernel
theorem dL_follow_101 : decode cL_follow 101 = .ok (.iaload, 1) := by decide +kernel
theorem dL_follow_102 : decode cL_follow 102 = .ok (.iload 4, 2) := by decide +kernel
theorem dL_follow_104 : decode cL_follow 104 = .ok (.if_icmp .lt 4, 3) := by decide +kernel
theorem dL_follow_107 : decode cL_follow 107 = .ok (.return_, 1) := by decide +kernel
theorem dL_follow_108 : decode cL_follow 108 = .ok (.iload 6, 2) := by decide +kernel
theorem dL_follow_110 : decode cL_follow 110 = .ok (.ifCond .eq 14, 3) := by decide +kernel
theorem dL_follow_113 : decode cL_follow 113 = .ok (.aload_n 3, 1) := by decide +kernel
theorem dL_follow_114 : decode cL_follow 114 = .ok (.bipush 8, 2) := by decide +kernel
theorem dL_follow_116 : decode cL_follow 116 = .ok (.iaload, 1) := by decide +kernel
theorem dL_follow_117 : decode cL_follow 117 = .ok (.aload_n 0, 1) := by decide +kernel
theorem dL_follow_118 : decode cL_follow 118 = .ok (.iload 5, 2) := by decide +kernel
theorem dL_follow_120 : decode cL_follow 120 = .ok (.iaload, 1) := by decide +kernel
theorem dL_follow_121 : decode cL_follow 121 = .ok (.if_icmp .le 14, 3) := by decide +kernel
theorem dL_follow_124 : decode cL_follow 124 = .ok (.aload_n 3, 1) := by decide +kernel
theorem dL_follow_125 : decode cL_follow 125 = .ok (.bipush 8, 2) := by decide +kernel
theorem dL_follow_127 : decode cL_follow 127 = .ok (.dup2, 1) := by decide +kernel
theorem dL_follow_128 : decode cL_follow 128 = .ok (.iaload, 1) := by decide +kernel
theorem dL_follow_129 : decode cL_follow 129 = .ok (.iconst 1, 1) := by decide +kernel
theorem dL_follow_130 : decode cL_follow 130 = .ok (.iadd, 1) := by decide +kernel
theorem dL_follow_131 : decode cL_follow 131 = .ok (.iastore, 1) := by decide +kernel
theorem dL_follow_132 : decode cL_follow 132 = .ok (.goto (-91), 3) := by decide +kernel
theorem dL_follow_135 : decode cL_follow 135 = .ok (.aload_n 3, 1) := by decide +kernel
theorem dL_follow_136 : decode cL_follow 136 = .ok (.bipush 8, 2) := by decide +kernel
theorem dL_follow_138 : decode cL_follow 138 = .ok (.iaload, 1) := by decide +kernel
theorem dL_follow_139 : decode cL_follow 139 = .ok (.istore 7, 2) := by decide +kernel
theorem dL_follow_141 : decode cL_follow 141 = .ok (.iload 7, 2) := by decide +kernel
theorem dL_follow_143 : decode cL_follow 143 = .ok (.aload_n 0, 1) := by decide +kernel
theorem dL_follow_144 : decode cL_follow 144 = .ok (.iload 5, 2) := by decide +kernel
theorem dL_follow_146 : decode cL_follow 146 = .ok (.iconst 1, 1) := by decide +kernel
theorem dL_follow_147 : decode cL_follow 147 = .ok (.iadd, 1) := by decide +kernel
theorem dL_follow_148 : decode cL_follow 148 = .ok (.iaload, 1) := by decide +kernel
theorem dL_follow_149 : decode cL_follow 149 = .ok (.if_icmp .ge 22, 3) := by decide +kernel
theorem dL_follow_152 : decode cL_follow 152 = .ok (.aload_n 1, 1) := by decide +kernel
theorem dL_follow_153 : decode cL_follow 153 = .ok (.iconst 0, 1) := by decide +kernel
theorem dL_follow_154 : decode cL_follow 154 = .ok (.laload, 1) := by decide +kernel
theorem dL_follow_155 : decode cL_follow 155 = .ok (.iload 7, 2) := by decide +kernel
theorem dL_follow_157 : decode cL_follow 157 = .ok (.lshr, 1) := by decide +kernel
theorem dL_follow_158 : decode cL_follow 158 = .ok (.lconst 1, 1) := by decide +kernel
theorem dL_follow_159 : decode cL_follow 159 = .ok (.land, 1) := by decide +kernel
theorem dL_follow_160 : decode cL_follow 160 = .ok (.lconst 1, 1) := by decide +kernel
theorem dL_follow_161 : decode cL_follow 161 = .ok (.lcmp, 1) := by decide +kernel
theorem dL_follow_162 : decode cL_follow 162 = .ok (.ifCond .ne 9, 3) := by decide +kernel
theorem dL_follow_165 : decode cL_follow 165 = .ok (.iinc 7 1, 3) := by decide +kernel
theorem dL_follow_168 : decode cL_follow 168 = .ok (.goto (-27), 3) := by decide +kernel
theorem dL_follow_171 : decode cL_follow 171 = .ok (.iload 7, 2) := by decide +kernel
theorem dL_follow_173 : decode cL_follow 173 = .ok (.aload_n 0, 1) := by decide +kernel
theorem dL_follow_174 : decode cL_follow 174 = .ok (.iload 5, 2) := by decide +kernel
theorem dL_follow_176 : decode cL_follow 176 = .ok (.iconst 1, 1) := by decide +kernel
theorem dL_follow_177 : decode cL_follow 177 = .ok (.iadd, 1) := by decide +kernel
theorem dL_follow_178 : decode cL_follow 178 = .ok (.iaload, 1) := by decide +kernel
theorem dL_follow_179 : decode cL_follow 179 = .ok (.if_icmp .ne 28, 3) := by decide +kernel
theorem dL_follow_182 : decode cL_follow 182 = .ok (.aload_n 2, 1) := by decide +kernel
theorem dL_follow_183 : decode cL_follow 183 = .ok (.aload_n 3, 1) := by decide +kernel
theorem dL_follow_184 : decode cL_follow 184 = .ok (.bipush 9, 2) := by decide +kernel
theorem dL_follow_186 : decode cL_follow 186 = .ok (.iaload, 1) := by decide +kernel
theorem dL_follow_187 : decode cL_follow 187 = .ok (.iload 5, 2) := by decide +kernel
theorem dL_follow_189 : decode cL_follow 189 = .ok (.iastore, 1) := by decide +kernel
theorem dL_follow_190 : decode cL_follow 190 = .ok (.aload_n 3, 1) := by decide +kernel
theorem dL_follow_191 : decode cL_follow 191 = .ok (.bipush 9, 2) := by decide +kernel
theorem dL_follow_193 : decode cL_follow 193 = .ok (.dup2, 1) := by decide +kernel
theorem dL_follow_194 : decode cL_follow 194 = .ok (.iaload, 1) := by decide +kernel
theorem dL_follow_195 : decode cL_follow 195 = .ok (.iconst 1, 1) := by decide +kernel
theorem dL_follow_196 : decode cL_follow 196 = .ok (.iadd, 1) := by decide +kernel
theorem dL_follow_197 : decode cL_follow 197 = .ok (.iastore, 1) := by decide +kernel
theorem dL_follow_198 : decode cL_follow 198 = .ok (.aload_n 3, 1) := by decide +kernel
theorem dL_follow_199 : decode cL_follow 199 = .ok (.bipush 8, 2) := by decide +kernel
theorem dL_follow_201 : decode cL_follow 201 = .ok (.iload 7, 2) := by decide +kernel
theorem dL_follow_203 : decode cL_follow 203 = .ok (.iastore, 1) := by decide +kernel
theorem dL_follow_204 : decode cL_follow 204 = .ok (.goto 22, 3) := by decide +kernel
theorem dL_follow_207 : decode cL_follow 207 = .ok (.iload 7, 2) := by decide +kernel
theorem dL_follow_209 : decode cL_follow 209 = .ok (.iload 4, 2) := by decide +kernel
theorem dL_follow_211 : decode cL_follow 211 = .ok (.if_icmp .ge 14, 3) := by decide +kernel
theorem dL_follow_214 : decode cL_follow 214 = .ok (.aload_n 3, 1) := by decide +kernel
theorem dL_follow_215 : decode cL_follow 215 = .ok (.bipush 8, 2) := by decide +kernel
theorem dL_follow_217 : decode cL_follow 217 = .ok (.iload 7, 2) := by decide +kernel
theorem dL_follow_219 : decode cL_follow 219 = .ok (.iconst 1, 1) := by decide +kernel
theorem dL_follow_220 : decode cL_follow 220 = .ok (.iadd, 1) := by decide +kernel
theorem dL_follow_221 : decode cL_follow 221 = .ok (.iastore, 1) := by decide +kernel
theorem dL_follow_222 : decode cL_follow 222 = .ok (.goto 4, 3) := by decide +kernel
theorem dL_follow_225 : decode cL_follow 225 = .ok (.return_, 1) := by decide +kernel
theorem dL_follow_226 : decode cL_follow 226 = .ok (.goto (-185), 3) := by decide +kernel
theorem dL_follow_229 : decode cL_follow 229 = .ok (.return_, 1) := by decide +kernel
theorem dL_bundles_0 : decode cL_bundles 0 = .ok (.iload_n 1, 1) := by decide +kernel
theorem dL_bundles_1 : decode cL_bundles 1 = .ok (.iconst 2, 1) := by decide +kernel
theorem dL_bundles_2 : decode cL_bundles 2 = .ok (.if_icmp .ge 141, 3) := by decide +kernel
theorem dL_bundles_5 : decode cL_bundles 5 = .ok (.iconst 1, 1) := by decide +kernel
theorem dL_bundles_6 : decode cL_bundles 6 = .ok (.iload_n 2, 1) := by decide +kernel
theorem dL_bundles_7 : decode cL_bundles 7 = .ok (.iconst 4, 1) := by decide +kernel
theorem dL_bundles_8 : decode cL_bundles 8 = .ok (.invokestatic 94, 3) := by decide +kernel
theorem dL_bundles_11 : decode cL_bundles 11 = .ok (.iadd, 1) := by decide +kernel
theorem dL_bundles_12 : decode cL_bundles 12 = .ok (.istore 8, 2) := by decide +kernel
theorem dL_bundles_14 : decode cL_bundles 14 = .ok (.aload_n 0, 1) := by decide +kernel
theorem dL_bundles_15 : decode cL_bundles 15 = .ok (.iconst 0, 1) := by decide +kernel
theorem dL_bundles_16 : decode cL_bundles 16 = .ok (.invokestatic 131, 3) := by decide +kernel
theorem dL_bundles_19 : decode cL_bundles 19 = .ok (.bipush (-72), 2) := by decide +kernel
theorem dL_bundles_21 : decode cL_bundles 21 = .ok (.if_icmp .ne 24, 3) := by decide +kernel
theorem dL_bundles_24 : decode cL_bundles 24 = .ok (.aload_n 0, 1) := by decide +kernel
theorem dL_bundles_25 : decode cL_bundles 25 = .ok (.iconst 5, 1) := by decide +kernel
theorem dL_bundles_26 : decode cL_bundles 26 = .ok (.invokestatic 131, 3) := by decide +kernel
theorem dL_bundles_29 : decode cL_bundles 29 = .ok (.bipush (-72), 2) := by decide +kernel
theorem dL_bundles_31 : decode cL_bundles 31 = .ok (.if_icmp .ne 14, 3) := by decide +kernel
theorem dL_bundles_34 : decode cL_bundles 34 = .ok (.aload_n 0, 1) := by decide +kernel
theorem dL_bundles_35 : decode cL_bundles 35 = .ok (.ldc 68, 2) := by decide +kernel
theorem dL_bundles_37 : decode cL_bundles 37 = .ok (.invokestatic 131, 3) := by decide +kernel
theorem dL_bundles_40 : decode cL_bundles 40 = .ok (.bipush (-72), 2) := by decide +kernel
theorem dL_bundles_42 : decode cL_bundles 42 = .ok (.if_icmp .eq 5, 3) := by decide +kernel
theorem dL_bundles_45 : decode cL_bundles 45 = .ok (.iconst 0, 1) := by decide +kernel
theorem dL_bundles_46 : decode cL_bundles 46 = .ok (.ireturn, 1) := by decide +kernel
theorem dL_bundles_47 : decode cL_bundles 47 = .ok (.aload 7, 2) := by decide +kernel
theorem dL_bundles_49 : decode cL_bundles 49 = .ok (.bipush 6, 2) := by decide +kernel
theorem dL_bundles_51 : decode cL_bundles 51 = .ok (.iaload, 1) := by decide +kernel
theorem dL_bundles_52 : decode cL_bundles 52 = .ok (.bipush 56, 2) := by decide +kernel
theorem dL_bundles_54 : decode cL_bundles 54 = .ok (.if_icmp .le 19, 3) := by decide +kernel
theorem dL_bundles_57 : decode cL_bundles 57 = .ok (.aload_n 0, 1) := by decide +kernel
theorem dL_bundles_58 : decode cL_bundles 58 = .ok (.iconst (-1), 1) := by decide +kernel
theorem dL_bundles_59 : decode cL_bundles 59 = .ok (.invokestatic 131, 3) := by decide +kernel
theorem dL_bundles_62 : decode cL_bundles 62 = .ok (.bipush (-72), 2) := by decide +kernel
theorem dL_bundles_64 : decode cL_bundles 64 = .ok (.if_icmp .ne 7, 3) := by decide +kernel
theorem dL_bundles_67 : decode cL_bundles 67 = .ok (.iconst 1, 1) := by decide +kernel
theorem dL_bundles_68 : decode cL_bundles 68 = .ok (.goto 4, 3) := by decide +kernel
theorem dL_bundles_71 : decode cL_bundles 71 = .ok (.iconst 0, 1) := by decide +kernel
theorem dL_bundles_72 : decode cL_bundles 72 = .ok (.ireturn, 1) := by decide +kernel
theorem dL_bundles_73 : decode cL_bundles 73 = .ok (.aload 4, 2) := by decide +kernel
theorem dL_bundles_75 : decode cL_bundles 75 = .ok (.aload 7, 2) := by decide +kernel
theorem dL_bundles_77 : decode cL_bundles 77 = .ok (.bipush 7, 2) := by decide +kernel
theorem dL_bundles_79 : decode cL_bundles 79 = .ok (.iaload, 1) := by decide +kernel
theorem dL_bundles_80 : decode cL_bundles 80 = .ok (.aload 7, 2) := by decide +kernel
theorem dL_bundles_82 : decode cL_bundles 82 = .ok (.bipush 6, 2) := by decide +kernel
theorem dL_bundles_84 : decode cL_bundles 84 = .ok (.iaload, 1) := by decide +kernel
theorem dL_bundles_85 : decode cL_bundles 85 = .ok (.iastore, 1) := by decide +kernel
theorem dL_bundles_86 : decode cL_bundles 86 = .ok (.aload 7, 2) := by decide +kernel
theorem dL_bundles_88 : decode cL_bundles 88 = .ok (.bipush 7, 2) := by decide +kernel
theorem dL_bundles_90 : decode cL_bundles 90 = .ok (.dup2, 1) := by decide +kernel
theorem dL_bundles_91 : decode cL_bundles 91 = .ok (.iaload, 1) := by decide +kernel
theorem dL_bundles_92 : decode cL_bundles 92 = .ok (.iconst 1, 1) := by decide +kernel
theorem dL_bundles_93 : decode cL_bundles 93 = .ok (.iadd, 1) := by decide +kernel
theorem dL_bundles_94 : decode cL_bundles 94 = .ok (.iastore, 1) := by decide +kernel
theorem dL_bundles_95 : decode cL_bundles 95 = .ok (.aload 7, 2) := by decide +kernel
theorem dL_bundles_97 : decode cL_bundles 97 = .ok (.bipush 6, 2) := by decide +kernel
theorem dL_bundles_99 : decode cL_bundles 99 = .ok (.dup2, 1) := by decide +kernel
theorem dL_bundles_100 : decode cL_bundles 100 = .ok (.iaload, 1) := by decide +kernel
theorem dL_bundles_101 : decode cL_bundles 101 = .ok (.iload 8, 2) := by decide +kernel
theorem dL_bundles_103 : decode cL_bundles 103 = .ok (.iadd, 1) := by decide +kernel
theorem dL_bundles_104 : decode cL_bundles 104 = .ok (.iastore, 1) := by decide +kernel
theorem dL_bundles_105 : decode cL_bundles 105 = .ok (.aload 4, 2) := by decide +kernel
theorem dL_bundles_107 : decode cL_bundles 107 = .ok (.aload 7, 2) := by decide +kernel
theorem dL_bundles_109 : decode cL_bundles 109 = .ok (.bipush 7, 2) := by decide +kernel
theorem dL_bundles_111 : decode cL_bundles 111 = .ok (.iaload, 1) := by decide +kernel
theorem dL_bundles_112 : decode cL_bundles 112 = .ok (.aload 7, 2) := by decide +kernel
theorem dL_bundles_114 : decode cL_bundles 114 = .ok (.bipush 6, 2) := by decide +kernel
theorem dL_bundles_116 : decode cL_bundles 116 = .ok (.iaload, 1) := by decide +kernel
theorem dL_bundles_117 : decode cL_bundles 117 = .ok (.iastore, 1) := by decide +kernel
theorem dL_bundles_118 : decode cL_bundles 118 = .ok (.aload_n 0, 1) := by decide +kernel
theorem dL_bundles_119 : decode cL_bundles 119 = .ok (.iload 8, 2) := by decide +kernel
theorem dL_bundles_121 : decode cL_bundles 121 = .ok (.invokestatic 131, 3) := by decide +kernel
theorem dL_bundles_124 : decode cL_bundles 124 = .ok (.aload 4, 2) := by decide +kernel
theorem dL_bundles_126 : decode cL_bundles 126 = .ok (.aload 7, 2) := by decide +kernel
theorem dL_bundles_128 : decode cL_bundles 128 = .ok (.bipush 7, 2) := by decide +kernel
theorem dL_bundles_130 : decode cL_bundles 130 = .ok (.iaload, 1) := by decide +kernel
theorem dL_bundles_131 : decode cL_bundles 131 = .ok (.iconst 1, 1) := by decide +kernel
theorem dL_bundles_132 : decode cL_bundles 132 = .ok (.isub, 1) := by decide +kernel
theorem dL_bundles_133 : decode cL_bundles 133 = .ok (.iaload, 1) := by decide +kernel
theorem dL_bundles_134 : decode cL_bundles 134 = .ok (.if_icmp .ne 7, 3) := by decide +kernel
theorem dL_bundles_137 : decode cL_bundles 137 = .ok (.iconst 1, 1) := by decide +kernel
theorem dL_bundles_138 : decode cL_bundles 138 = .ok (.goto 4, 3) := by decide +kernel
theorem dL_bundles_141 : decode cL_bundles 141 = .ok (.iconst 0, 1) := by decide +kernel
theorem dL_bundles_142 : decode cL_bundles 142 = .ok (.ireturn, 1) := by decide +kernel
theorem dL_bundles_143 : decode cL_bundles 143 = .ok (.iload_n 2, 1) := by decide +kernel
theorem dL_bundles_144 : decode cL_bundles 144 = .ok (.iconst 3, 1) := by decide +kernel
theorem dL_bundles_145 : decode cL_bundles 145 = .ok (.invokestatic 94, 3) := by decide +kernel
theorem dL_bundles_148 : decode cL_bundles 148 = .ok (.istore 8, 2) := by decide +kernel
theorem dL_bundles_150 : decode cL_bundles 150 = .ok (.iload 8, 2) := by decide +kernel
theorem dL_bundles_152 : decode cL_bundles 152 = .ok (.iconst 3, 1) := by decide +kernel
theorem dL_bundles_153 : decode cL_bundles 153 = .ok (.aload 7, 2) := by decide +kernel
theorem dL_bundles_155 : decode cL_bundles 155 = .ok (.iload 8, 2) := by decide +kernel
theorem dL_bundles_157 : decode cL_bundles 157 = .ok (.iaload, 1) := by decide +kernel
theorem dL_bundles_158 : decode cL_bundles 158 = .ok (.imul, 1) := by decide +kernel
theorem dL_bundles_159 : decode cL_bundles 159 = .ok (.iadd, 1) := by decide +kernel
theorem dL_bundles_160 : decode cL_bundles 160 = .ok (.istore 9, 2) := by decide +kernel
theorem dL_bundles_162 : decode cL_bundles 162 = .ok (.aload_n 0, 1) := by decide +kernel
theorem dL_bundles_163 : decode cL_bundles 163 = .ok (.iconst 3, 1) := by decide +kernel
theorem dL_bundles_164 : decode cL_bundles 164 = .ok (.invokestatic 133, 3) := by decide +kernel
theorem dL_bundles_167 : decode cL_bundles 167 = .ok (.bipush (-71), 2) := by decide +kernel
theorem dL_bundles_169 : decode cL_bundles 169 = .ok (.if_icmp .ne 13, 3) := by decide +kernel
theorem dL_bundles_172 : decode cL_bundles 172 = .ok (.aload_n 0, 1) := by decide +kernel
theorem dL_bundles_173 : decode cL_bundles 173 = .ok (.iconst (-1), 1) := by decide +kernel
theorem dL_bundles_174 : decode cL_bundles 174 = .ok (.invokestatic 135, 3) := by decide +kernel
theorem dL_bundles_177 : decode cL_bundles 177 = .ok (.bipush (-71), 2) := by decide +kernel
theorem dL_bundles_179 : decode cL_bundles 179 = .ok (.if_icmp .eq 5, 3) := by decide +kernel
theorem dL_bundles_182 : decode cL_bundles 182 = .ok (.iconst 0, 1) := by decide +kernel
theorem dL_bundles_183 : decode cL_bundles 183 = .ok (.ireturn, 1) := by decide +kernel
theorem dL_bundles_184 : decode cL_bundles 184 = .ok (.iload 9, 2) := by decide +kernel
theorem dL_bundles_186 : decode cL_bundles 186 = .ok (.aload 7, 2) := by decide +kernel
theorem dL_bundles_188 : decode cL_bundles 188 = .ok (.bipush 6, 2) := by decide +kernel
theorem dL_bundles_190 : decode cL_bundles 190 = .ok (.iaload, 1) := by decide +kernel
theorem dL_bundles_191 : decode cL_bundles 191 = .ok (.if_icmp .lt 31, 3) := by decide +kernel
theorem dL_bundles_194 : decode cL_bundles 194 = .ok (.aload_n 0, 1) := by decide +kernel
theorem dL_bundles_195 : decode cL_bundles 195 = .ok (.iload 8, 2) := by decide +kernel
theorem dL_bundles_197 : decode cL_bundles 197 = .ok (.invokestatic 133, 3) := by decide +kernel
theorem dL_bundles_200 : decode cL_bundles 200 = .ok (.bipush (-73), 2) := by decide +kernel
theorem dL_bundles_202 : decode cL_bundles 202 = .ok (.if_icmp .ne 18, 3) := by decide +kernel
theorem dL_bundles_205 : decode cL_bundles 205 = .ok (.aload_n 0, 1) := by decide +kernel
theorem dL_bundles_206 : decode cL_bundles 206 = .ok (.iload 8, 2) := by decide +kernel
theorem dL_bundles_208 : decode cL_bundles 208 = .ok (.invokestatic 135, 3) := by decide +kernel
theorem dL_bundles_211 : decode cL_bundles 211 = .ok (.bipush (-73), 2) := by decide +kernel
theorem dL_bundles_213 : decode cL_bundles 213 = .ok (.if_icmp .ne 7, 3) := by decide +kernel
theorem dL_bundles_216 : decode cL_bundles 216 = .ok (.iconst 1, 1) := by decide +kernel
theorem dL_bundles_217 : decode cL_bundles 217 = .ok (.goto 4, 3) := by decide +kernel
theorem dL_bundles_220 : decode cL_bundles 220 = .ok (.iconst 0, 1) := by decide +kernel
theorem dL_bundles_221 : decode cL_bundles 221 = .ok (.ireturn, 1) := by decide +kernel
theorem dL_bundles_222 : decode cL_bundles 222 = .ok (.aload 7, 2) := by decide +kernel
theorem dL_bundles_224 : decode cL_bundles 224 = .ok (.iload 8, 2) := by decide +kernel
theorem dL_bundles_226 : decode cL_bundles 226 = .ok (.dup2, 1) := by decide +kernel
theorem dL_bundles_227 : decode cL_bundles 227 = .ok (.iaload, 1) := by decide +kernel
theorem dL_bundles_228 : decode cL_bundles 228 = .ok (.iconst 1, 1) := by decide +kernel
theorem dL_bundles_229 : decode cL_bundles 229 = .ok (.iadd, 1) := by decide +kernel
theorem dL_bundles_230 : decode cL_bundles 230 = .ok (.iastore, 1) := by decide +kernel
theorem dL_bundles_231 : decode cL_bundles 231 = .ok (.iload_n 1, 1) := by decide +kernel
theorem dL_bundles_232 : decode cL_bundles 232 = .ok (.iconst 2, 1) := by decide +kernel
theorem dL_bundles_233 : decode cL_bundles 233 = .ok (.if_icmp .ne 20, 3) := by decide +kernel
theorem dL_bundles_236 : decode cL_bundles 236 = .ok (.aload_n 0, 1) := by decide +kernel
theorem dL_bundles_237 : decode cL_bundles 237 = .ok (.iload 8, 2) := by decide +kernel
theorem dL_bundles_239 : decode cL_bundles 239 = .ok (.invokestatic 135, 3) := by decide +kernel
theorem dL_bundles_242 : decode cL_bundles 242 = .ok (.iload 9, 2) := by decide +kernel
theorem dL_bundles_244 : decode cL_bundles 244 = .ok (.if_icmp .ne 7, 3) := by decide +kernel
theorem dL_bundles_247 : decode cL_bundles 247 = .ok (.iconst 1, 1) := by decide +kernel
theorem dL_bundles_248 : decode cL_bundles 248 = .ok (.goto 4, 3) := by decide +kernel
theorem dL_bundles_251 : decode cL_bundles 251 = .ok (.iconst 0, 1) := by decide +kernel
theorem dL_bundles_252 : decode cL_bundles 252 = .ok (.ireturn, 1) := by decide +kernel
theorem dL_bundles_253 : decode cL_bundles 253 = .ok (.aload 7, 2) := by decide +kernel
theorem dL_bundles_255 : decode cL_bundles 255 = .ok (.bipush 9, 2) := by decide +kernel
theorem dL_bundles_257 : decode cL_bundles 257 = .ok (.iaload, 1) := by decide +kernel
theorem dL_bundles_258 : decode cL_bundles 258 = .ok (.istore 10, 2) := by decide +kernel
theorem dL_bundles_260 : decode cL_bundles 260 = .ok (.aload 7, 2) := by decide +kernel
theorem dL_bundles_262 : decode cL_bundles 262 = .ok (.iconst 3, 1) := by decide +kernel
theorem dL_bundles_263 : decode cL_bundles 263 = .ok (.iload 8, 2) := by decide +kernel
theorem dL_bundles_265 : decode cL_bundles 265 = .ok (.iadd, 1) := by decide +kernel
theorem dL_bundles_266 : decode cL_bundles 266 = .ok (.iload 9, 2) := by decide +kernel
theorem dL_bundles_268 : decode cL_bundles 268 = .ok (.iastore, 1) := by decide +kernel
theorem dL_bundles_269 : decode cL_bundles 269 = .ok (.aload 5, 2) := by decide +kernel
theorem dL_bundles_271 : decode cL_bundles 271 = .ok (.iconst 0, 1) := by decide +kernel
theorem dL_bundles_272 : decode cL_bundles 272 = .ok (.dup2, 1) := by decide +kernel
theorem dL_bundles_273 : decode cL_bundles 273 = .ok (.laload, 1) := by decide +kernel
theorem dL_bundles_274 : decode cL_bundles 274 = .ok (.lconst 1, 1) := by decide +kernel
theorem dL_bundles_275 : decode cL_bundles 275 = .ok (.iload 9, 2) := by decide +kernel
theorem dL_bundles_277 : decode cL_bundles 277 = .ok (.lshl, 1) := by decide +kernel
theorem dL_bundles_278 : decode cL_bundles 278 = .ok (.lor, 1) := by decide +kernel
theorem dL_bundles_279 : decode cL_bundles 279 = .ok (.lastore, 1) := by decide +kernel
theorem dL_bundles_280 : decode cL_bundles 280 = .ok (.aload 4, 2) := by decide +kernel
theorem dL_bundles_282 : decode cL_bundles 282 = .ok (.aload 5, 2) := by decide +kernel
theorem dL_bundles_284 : decode cL_bundles 284 = .ok (.aload 6, 2) := by decide +kernel
theorem dL_bundles_286 : decode cL_bundles 286 = .ok (.aload 7, 2) := by decide +kernel
theorem dL_bundles_288 : decode cL_bundles 288 = .ok (.invokestatic 137, 3) := by decide +kernel
theorem dL_bundles_291 : decode cL_bundles 291 = .ok (.aload_n 0, 1) := by decide +kernel
theorem dL_bundles_292 : decode cL_bundles 292 = .ok (.iload 8, 2) := by decide +kernel
theorem dL_bundles_294 : decode cL_bundles 294 = .ok (.invokestatic 133, 3) := by decide +kernel
theorem dL_bundles_297 : decode cL_bundles 297 = .ok (.aload 7, 2) := by decide +kernel
theorem dL_bundles_299 : decode cL_bundles 299 = .ok (.bipush 9, 2) := by decide +kernel
theorem dL_bundles_301 : decode cL_bundles 301 = .ok (.iaload, 1) := by decide +kernel
theorem dL_bundles_302 : decode cL_bundles 302 = .ok (.iload 10, 2) := by decide +kernel
theorem dL_bundles_304 : decode cL_bundles 304 = .ok (.isub, 1) := by decide +kernel
theorem dL_bundles_305 : decode cL_bundles 305 = .ok (.if_icmp .ne 7, 3) := by decide +kernel
theorem dL_bundles_308 : decode cL_bundles 308 = .ok (.iconst 1, 1) := by decide +kernel
theorem dL_bundles_309 : decode cL_bundles 309 = .ok (.goto 4, 3) := by decide +kernel
theorem dL_bundles_312 : decode cL_bundles 312 = .ok (.iconst 0, 1) := by decide +kernel
theorem dL_bundles_313 : decode cL_bundles 313 = .ok (.ireturn, 1) := by decide +kernel
theorem dL_isTold_0 : decode cL_isTold 0 = .ok (.iconst 0, 1) := by decide +kernel
theorem dL_isTold_1 : decode cL_isTold 1 = .ok (.istore 5, 2) := by decide +kernel
theorem dL_isTold_3 : decode cL_isTold 3 = .ok (.iload 5, 2) := by decide +kernel
theorem dL_isTold_5 : decode cL_isTold 5 = .ok (.iconst 2, 1) := by decide +kernel
theorem dL_isTold_6 : decode cL_isTold 6 = .ok (.if_icmp .ge 140, 3) := by decide +kernel
theorem dL_isTold_9 : decode cL_isTold 9 = .ok (.bipush 8, 2) := by decide +kernel
theorem dL_isTold_11 : decode cL_isTold 11 = .ok (.iload 5, 2) := by decide +kernel
theorem dL_isTold_13 : decode cL_isTold 13 = .ok (.imul, 1) := by decide +kernel
theorem dL_isTold_14 : decode cL_isTold 14 = .ok (.istore 6, 2) := by decide +kernel
theorem dL_isTold_16 : decode cL_isTold 16 = .ok (.aload_n 0, 1) := by decide +kernel
theorem dL_isTold_17 : decode cL_isTold 17 = .ok (.iload 5, 2) := by decide +kernel
theorem dL_isTold_19 : decode cL_isTold 19 = .ok (.invokestatic 141, 3) := by decide +kernel
theorem dL_isTold_22 : decode cL_isTold 22 = .ok (.aload_n 2, 1) := by decide +kernel
theorem dL_isTold_23 : decode cL_isTold 23 = .ok (.iload 6, 2) := by decide +kernel
theorem dL_isTold_25 : decode cL_isTold 25 = .ok (.iaload, 1) := by decide +kernel
theorem dL_isTold_26 : decode cL_isTold 26 = .ok (.if_icmp .ne 73, 3) := by decide +kernel
theorem dL_isTold_29 : decode cL_isTold 29 = .ok (.aload_n 0, 1) := by decide +kernel
theorem dL_isTold_30 : decode cL_isTold 30 = .ok (.iload 5, 2) := by decide +kernel
theorem dL_isTold_32 : decode cL_isTold 32 = .ok (.invokevirtual 143, 3) := by decide +kernel
theorem dL_isTold_35 : decode cL_isTold 35 = .ok (.aload_n 2, 1) := by decide +kernel
theorem dL_isTold_36 : decode cL_isTold 36 = .ok (.iload 6, 2) := by decide +kernel
theorem dL_isTold_38 : decode cL_isTold 38 = .ok (.iconst 2, 1) := by decide +kernel
theorem dL_isTold_39 : decode cL_isTold 39 = .ok (.iadd, 1) := by decide +kernel
theorem dL_isTold_40 : decode cL_isTold 40 = .ok (.iaload, 1) := by decide +kernel
theorem dL_isTold_41 : decode cL_isTold 41 = .ok (.if_icmp .ne 58, 3) := by decide +kernel
theorem dL_isTold_44 : decode cL_isTold 44 = .ok (.aload_n 0, 1) := by decide +kernel
theorem dL_isTold_45 : decode cL_isTold 45 = .ok (.iload 5, 2) := by decide +kernel
theorem dL_isTold_47 : decode cL_isTold 47 = .ok (.invokevirtual 146, 3) := by decide +kernel
theorem dL_isTold_50 : decode cL_isTold 50 = .ok (.aload_n 2, 1) := by decide +kernel
theorem dL_isTold_51 : decode cL_isTold 51 = .ok (.iload 6, 2) := by decide +kernel
theorem dL_isTold_53 : decode cL_isTold 53 = .ok (.iconst 4, 1) := by decide +kernel
theorem dL_isTold_54 : decode cL_isTold 54 = .ok (.iadd, 1) := by decide +kernel
theorem dL_isTold_55 : decode cL_isTold 55 = .ok (.iaload, 1) := by decide +kernel
theorem dL_isTold_56 : decode cL_isTold 56 = .ok (.iconst 1, 1) := by decide +kernel
theorem dL_isTold_57 : decode cL_isTold 57 = .ok (.if_icmp .ne 7, 3) := by decide +kernel
theorem dL_isTold_60 : decode cL_isTold 60 = .ok (.iconst 1, 1) := by decide +kernel
theorem dL_isTold_61 : decode cL_isTold 61 = .ok (.goto 4, 3) := by decide +kernel
theorem dL_isTold_64 : decode cL_isTold 64 = .ok (.iconst 0, 1) := by decide +kernel
theorem dL_isTold_65 : decode cL_isTold 65 = .ok (.if_icmp .ne 34, 3) := by decide +kernel
theorem dL_isTold_68 : decode cL_isTold 68 = .ok (.aload_n 0, 1) := by decide +kernel
theorem dL_isTold_69 : decode cL_isTold 69 = .ok (.iload 5, 2) := by decide +kernel
theorem dL_isTold_71 : decode cL_isTold 71 = .ok (.invokestatic 150, 3) := by decide +kernel
theorem dL_isTold_74 : decode cL_isTold 74 = .ok (.aload_n 2, 1) := by decide +kernel
theorem dL_isTold_75 : decode cL_isTold 75 = .ok (.iload 6, 2) := by decide +kernel
theorem dL_isTold_77 : decode cL_isTold 77 = .ok (.bipush 7, 2) := by decide +kernel
theorem dL_isTold_79 : decode cL_isTold 79 = .ok (.iadd, 1) := by decide +kernel
theorem dL_isTold_80 : decode cL_isTold 80 = .ok (.iaload, 1) := by decide +kernel
theorem dL_isTold_81 : decode cL_isTold 81 = .ok (.if_icmp .ne 18, 3) := by decide +kernel
theorem dL_isTold_84 : decode cL_isTold 84 = .ok (.aload_n 0, 1) := by decide +kernel
theorem dL_isTold_85 : decode cL_isTold 85 = .ok (.iload 5, 2) := by decide +kernel
theorem dL_isTold_87 : decode cL_isTold 87 = .ok (.invokevirtual 152, 3) := by decide +kernel
theorem dL_isTold_90 : decode cL_isTold 90 = .ok (.aload_n 2, 1) := by decide +kernel
theorem dL_isTold_91 : decode cL_isTold 91 = .ok (.iload 6, 2) := by decide +kernel
theorem dL_isTold_93 : decode cL_isTold 93 = .ok (.iconst 5, 1) := by decide +kernel
theorem dL_isTold_94 : decode cL_isTold 94 = .ok (.iadd, 1) := by decide +kernel
theorem dL_isTold_95 : decode cL_isTold 95 = .ok (.iaload, 1) := by decide +kernel
theorem dL_isTold_96 : decode cL_isTold 96 = .ok (.if_icmp .eq 5, 3) := by decide +kernel
theorem dL_isTold_99 : decode cL_isTold 99 = .ok (.iconst 0, 1) := by decide +kernel
theorem dL_isTold_100 : decode cL_isTold 100 = .ok (.ireturn, 1) := by decide +kernel
theorem dL_isTold_101 : decode cL_isTold 101 = .ok (.iconst 0, 1) := by decide +kernel
theorem dL_isTold_102 : decode cL_isTold 102 = .ok (.istore 7, 2) := by decide +kernel
theorem dL_isTold_104 : decode cL_isTold 104 = .ok (.iload 7, 2) := by decide +kernel
theorem dL_isTold_106 : decode cL_isTold 106 = .ok (.bipush 6, 2) := by decide +kernel
theorem dL_isTold_108 : decode cL_isTold 108 = .ok (.if_icmp .ge 32, 3) := by decide +kernel
theorem dL_isTold_111 : decode cL_isTold 111 = .ok (.aload_n 0, 1) := by decide +kernel
theorem dL_isTold_112 : decode cL_isTold 112 = .ok (.iload 5, 2) := by decide +kernel
theorem dL_isTold_114 : decode cL_isTold 114 = .ok (.iload 7, 2) := by decide +kernel
theorem dL_isTold_116 : decode cL_isTold 116 = .ok (.invokestatic 155, 3) := by decide +kernel
theorem dL_isTold_119 : decode cL_isTold 119 = .ok (.aload_n 1, 1) := by decide +kernel
theorem dL_isTold_120 : decode cL_isTold 120 = .ok (.bipush 6, 2) := by decide +kernel
theorem dL_isTold_122 : decode cL_isTold 122 = .ok (.iload 5, 2) := by decide +kernel
theorem dL_isTold_124 : decode cL_isTold 124 = .ok (.imul, 1) := by decide +kernel
theorem dL_isTold_125 : decode cL_isTold 125 = .ok (.iload 7, 2) := by decide +kernel
theorem dL_isTold_127 : decode cL_isTold 127 = .ok (.iadd, 1) := by decide +kernel
theorem dL_isTold_128 : decode cL_isTold 128 = .ok (.iaload, 1) := by decide +kernel
theorem dL_isTold_129 : decode cL_isTold 129 = .ok (.if_icmp .eq 5, 3) := by decide +kernel
theorem dL_isTold_132 : decode cL_isTold 132 = .ok (.iconst 0, 1) := by decide +kernel
theorem dL_isTold_133 : decode cL_isTold 133 = .ok (.ireturn, 1) := by decide +kernel
theorem dL_isTold_134 : decode cL_isTold 134 = .ok (.iinc 7 1, 3) := by decide +kernel
theorem dL_isTold_137 : decode cL_isTold 137 = .ok (.goto (-33), 3) := by decide +kernel
theorem dL_isTold_140 : decode cL_isTold 140 = .ok (.iinc 5 1, 3) := by decide +kernel
theorem dL_isTold_143 : decode cL_isTold 143 = .ok (.goto (-140), 3) := by decide +kernel
theorem dL_isTold_146 : decode cL_isTold 146 = .ok (.iconst 0, 1) := by decide +kernel
theorem dL_isTold_147 : decode cL_isTold 147 = .ok (.istore 5, 2) := by decide +kernel
theorem dL_isTold_149 : decode cL_isTold 149 = .ok (.iload 5, 2) := by decide +kernel
theorem dL_isTold_151 : decode cL_isTold 151 = .ok (.aload 4, 2) := by decide +kernel
theorem dL_isTold_153 : decode cL_isTold 153 = .ok (.bipush 9, 2) := by decide +kernel
theorem dL_isTold_155 : decode cL_isTold 155 = .ok (.iaload, 1) := by decide +kernel
theorem dL_isTold_156 : decode cL_isTold 156 = .ok (.if_icmp .ge 24, 3) := by decide +kernel
theorem dL_isTold_159 : decode cL_isTold 159 = .ok (.aload_n 0, 1) := by decide +kernel
theorem dL_isTold_160 : decode cL_isTold 160 = .ok (.iload 5, 2) := by decide +kernel
theorem dL_isTold_162 : decode cL_isTold 162 = .ok (.invokestatic 158, 3) := by decide +kernel
theorem dL_isTold_165 : decode cL_isTold 165 = .ok (.aload_n 3, 1) := by decide +kernel
theorem dL_isTold_166 : decode cL_isTold 166 = .ok (.iload 5, 2) := by decide +kernel
theorem dL_isTold_168 : decode cL_isTold 168 = .ok (.iaload, 1) := by decide +kernel
theorem dL_isTold_169 : decode cL_isTold 169 = .ok (.if_icmp .eq 5, 3) := by decide +kernel
theorem dL_isTold_172 : decode cL_isTold 172 = .ok (.iconst 0, 1) := by decide +kernel
theorem dL_isTold_173 : decode cL_isTold 173 = .ok (.ireturn, 1) := by decide +kernel
theorem dL_isTold_174 : decode cL_isTold 174 = .ok (.iinc 5 1, 3) := by decide +kernel
theorem dL_isTold_177 : decode cL_isTold 177 = .ok (.goto (-28), 3) := by decide +kernel
theorem dL_isTold_180 : decode cL_isTold 180 = .ok (.aload_n 0, 1) := by decide +kernel
theorem dL_isTold_181 : decode cL_isTold 181 = .ok (.invokevirtual 160, 3) := by decide +kernel
theorem dL_isTold_184 : decode cL_isTold 184 = .ok (.aload 4, 2) := by decide +kernel
theorem dL_isTold_186 : decode cL_isTold 186 = .ok (.bipush 9, 2) := by decide +kernel
theorem dL_isTold_188 : decode cL_isTold 188 = .ok (.iaload, 1) := by decide +kernel
theorem dL_isTold_189 : decode cL_isTold 189 = .ok (.if_icmp .ne 119, 3) := by decide +kernel
theorem dL_isTold_192 : decode cL_isTold 192 = .ok (.aload_n 0, 1) := by decide +kernel
theorem dL_isTold_193 : decode cL_isTold 193 = .ok (.invokevirtual 164, 3) := by decide +kernel
theorem dL_isTold_196 : decode cL_isTold 196 = .ok (.aload 4, 2) := by decide +kernel
theorem dL_isTold_198 : decode cL_isTold 198 = .ok (.bipush 8, 2) := by decide +kernel
theorem dL_isTold_200 : decode cL_isTold 200 = .ok (.iaload, 1) := by decide +kernel
theorem dL_isTold_201 : decode cL_isTold 201 = .ok (.if_icmp .ne 107, 3) := by decide +kernel
theorem dL_isTold_204 : decode cL_isTold 204 = .ok (.aload_n 0, 1) := by decide +kernel
theorem dL_isTold_205 : decode cL_isTold 205 = .ok (.aload 4, 2) := by decide +kernel
theorem dL_isTold_207 : decode cL_isTold 207 = .ok (.bipush 9, 2) := by decide +kernel
theorem dL_isTold_209 : decode cL_isTold 209 = .ok (.iaload, 1) := by decide +kernel
theorem dL_isTold_210 : decode cL_isTold 210 = .ok (.invokestatic 158, 3) := by decide +kernel
theorem dL_isTold_213 : decode cL_isTold 213 = .ok (.bipush (-71), 2) := by decide +kernel
theorem dL_isTold_215 : decode cL_isTold 215 = .ok (.if_icmp .ne 93, 3) := by decide +kernel
theorem dL_isTold_218 : decode cL_isTold 218 = .ok (.aload_n 0, 1) := by decide +kernel
theorem dL_isTold_219 : decode cL_isTold 219 = .ok (.iconst (-1), 1) := by decide +kernel
theorem dL_isTold_220 : decode cL_isTold 220 = .ok (.invokestatic 158, 3) := by decide +kernel
theorem dL_isTold_223 : decode cL_isTold 223 = .ok (.bipush (-71), 2) := by decide +kernel
theorem dL_isTold_225 : decode cL_isTold 225 = .ok (.if_icmp .ne 83, 3) := by decide +kernel
theorem dL_isTold_228 : decode cL_isTold 228 = .ok (.aload_n 0, 1) := by decide +kernel
theorem dL_isTold_229 : decode cL_isTold 229 = .ok (.ldc 68, 2) := by decide +kernel
theorem dL_isTold_231 : decode cL_isTold 231 = .ok (.invokestatic 158, 3) := by decide +kernel
theorem dL_isTold_234 : decode cL_isTold 234 = .ok (.bipush (-71), 2) := by decide +kernel
theorem dL_isTold_236 : decode cL_isTold 236 = .ok (.if_icmp .ne 72, 3) := by decide +kernel
theorem dL_isTold_239 : decode cL_isTold 239 = .ok (.aload_n 0, 1) := by decide +kernel
theorem dL_isTold_240 : decode cL_isTold 240 = .ok (.iconst 2, 1) := by decide +kernel
theorem dL_isTold_241 : decode cL_isTold 241 = .ok (.invokestatic 141, 3) := by decide +kernel
theorem dL_isTold_244 : decode cL_isTold 244 = .ok (.bipush (-71), 2) := by decide +kernel
theorem dL_isTold_246 : decode cL_isTold 246 = .ok (.if_icmp .ne 62, 3) := by decide +kernel
theorem dL_isTold_249 : decode cL_isTold 249 = .ok (.aload_n 0, 1) := by decide +kernel
theorem dL_isTold_250 : decode cL_isTold 250 = .ok (.ldc 67, 2) := by decide +kernel
theorem dL_isTold_252 : decode cL_isTold 252 = .ok (.invokestatic 141, 3) := by decide +kernel
theorem dL_isTold_255 : decode cL_isTold 255 = .ok (.bipush (-71), 2) := by decide +kernel
theorem dL_isTold_257 : decode cL_isTold 257 = .ok (.if_icmp .ne 51, 3) := by decide +kernel
theorem dL_isTold_260 : decode cL_isTold 260 = .ok (.aload_n 0, 1) := by decide +kernel
theorem dL_isTold_261 : decode cL_isTold 261 = .ok (.iconst 0, 1) := by decide +kernel
theorem dL_isTold_262 : decode cL_isTold 262 = .ok (.bipush 6, 2) := by decide +kernel
theorem dL_isTold_264 : decode cL_isTold 264 = .ok (.invokestatic 155, 3) := by decide +kernel
theorem dL_isTold_267 : decode cL_isTold 267 = .ok (.bipush (-71), 2) := by decide +kernel
theorem dL_isTold_269 : decode cL_isTold 269 = .ok (.if_icmp .ne 39, 3) := by decide +kernel
theorem dL_isTold_272 : decode cL_isTold 272 = .ok (.aload_n 0, 1) := by decide +kernel
theorem dL_isTold_273 : decode cL_isTold 273 = .ok (.iconst 2, 1) := by decide +kernel
theorem dL_isTold_274 : decode cL_isTold 274 = .ok (.iconst 0, 1) := by decide +kernel
theorem dL_isTold_275 : decode cL_isTold 275 = .ok (.invokestatic 155, 3) := by decide +kernel
theorem dL_isTold_278 : decode cL_isTold 278 = .ok (.bipush (-71), 2) := by decide +kernel
theorem dL_isTold_280 : decode cL_isTold 280 = .ok (.if_icmp .ne 28, 3) := by decide +kernel
theorem dL_isTold_283 : decode cL_isTold 283 = .ok (.aload_n 0, 1) := by decide +kernel
theorem dL_isTold_284 : decode cL_isTold 284 = .ok (.iconst 0, 1) := by decide +kernel
theorem dL_isTold_285 : decode cL_isTold 285 = .ok (.iconst (-1), 1) := by decide +kernel
theorem dL_isTold_286 : decode cL_isTold 286 = .ok (.invokestatic 155, 3) := by decide +kernel
theorem dL_isTold_289 : decode cL_isTold 289 = .ok (.bipush (-71), 2) := by decide +kernel
theorem dL_isTold_291 : decode cL_isTold 291 = .ok (.if_icmp .ne 17, 3) := by decide +kernel
theorem dL_isTold_294 : decode cL_isTold 294 = .ok (.aload_n 0, 1) := by decide +kernel
theorem dL_isTold_295 : decode cL_isTold 295 = .ok (.iconst (-1), 1) := by decide +kernel
theorem dL_isTold_296 : decode cL_isTold 296 = .ok (.invokestatic 150, 3) := by decide +kernel
theorem dL_isTold_299 : decode cL_isTold 299 = .ok (.bipush (-71), 2) := by decide +kernel
theorem dL_isTold_301 : decode cL_isTold 301 = .ok (.if_icmp .ne 7, 3) := by decide +kernel
theorem dL_isTold_304 : decode cL_isTold 304 = .ok (.iconst 1, 1) := by decide +kernel
theorem dL_isTold_305 : decode cL_isTold 305 = .ok (.goto 4, 3) := by decide +kernel
theorem dL_isTold_308 : decode cL_isTold 308 = .ok (.iconst 0, 1) := by decide +kernel
theorem dL_isTold_309 : decode cL_isTold 309 = .ok (.ireturn, 1) := by decide +kernel
theorem dL_law_0 : decode cL_law 0 = .ok (.new 9, 3) := by decide +kernel
theorem dL_law_3 : decode cL_law 3 = .ok (.dup, 1) := by decide +kernel
theorem dL_law_4 : decode cL_law 4 = .ok (.invokespecial 167, 3) := by decide +kernel
theorem dL_law_7 : decode cL_law 7 = .ok (.astore_n 1, 1) := by decide +kernel
theorem dL_law_8 : decode cL_law 8 = .ok (.bipush 64, 2) := by decide +kernel
theorem dL_law_10 : decode cL_law 10 = .ok (.newarray .long, 2) := by decide +kernel
theorem dL_law_12 : decode cL_law 12 = .ok (.astore_n 2, 1) := by decide +kernel
theorem dL_law_13 : decode cL_law 13 = .ok (.bipush 64, 2) := by decide +kernel
theorem dL_law_15 : decode cL_law 15 = .ok (.newarray .long, 2) := by decide +kernel
theorem dL_law_17 : decode cL_law 17 = .ok (.astore_n 3, 1) := by decide +kernel
theorem dL_law_18 : decode cL_law 18 = .ok (.bipush 12, 2) := by decide +kernel
theorem dL_law_20 : decode cL_law 20 = .ok (.newarray .int, 2) := by decide +kernel
theorem dL_law_22 : decode cL_law 22 = .ok (.astore 4, 2) := by decide +kernel
theorem dL_law_24 : decode cL_law 24 = .ok (.bipush 12, 2) := by decide +kernel
theorem dL_law_26 : decode cL_law 26 = .ok (.newarray .int, 2) := by decide +kernel
theorem dL_law_28 : decode cL_law 28 = .ok (.astore 5, 2) := by decide +kernel
theorem dL_law_30 : decode cL_law 30 = .ok (.bipush 12, 2) := by decide +kernel
theorem dL_law_32 : decode cL_law 32 = .ok (.newarray .int, 2) := by decide +kernel
theorem dL_law_34 : decode cL_law 34 = .ok (.astore 6, 2) := by decide +kernel
theorem dL_law_36 : decode cL_law 36 = .ok (.bipush 16, 2) := by decide +kernel
theorem dL_law_38 : decode cL_law 38 = .ok (.newarray .int, 2) := by decide +kernel
theorem dL_law_40 : decode cL_law 40 = .ok (.astore 7, 2) := by decide +kernel
theorem dL_law_42 : decode cL_law 42 = .ok (.bipush 64, 2) := by decide +kernel
theorem dL_law_44 : decode cL_law 44 = .ok (.newarray .int, 2) := by decide +kernel
theorem dL_law_46 : decode cL_law 46 = .ok (.astore 8, 2) := by decide +kernel
theorem dL_law_48 : decode cL_law 48 = .ok (.iconst 1, 1) := by decide +kernel
theorem dL_law_49 : decode cL_law 49 = .ok (.newarray .long, 2) := by decide +kernel
theorem dL_law_51 : decode cL_law 51 = .ok (.astore 9, 2) := by decide +kernel
theorem dL_law_53 : decode cL_law 53 = .ok (.bipush 60, 2) := by decide +kernel
theorem dL_law_55 : decode cL_law 55 = .ok (.newarray .int, 2) := by decide +kernel
theorem dL_law_57 : decode cL_law 57 = .ok (.astore 10, 2) := by decide +kernel
theorem dL_law_59 : decode cL_law 59 = .ok (.bipush 10, 2) := by decide +kernel
theorem dL_law_61 : decode cL_law 61 = .ok (.newarray .int, 2) := by decide +kernel
theorem dL_law_63 : decode cL_law 63 = .ok (.astore 11, 2) := by decide +kernel
theorem dL_law_65 : decode cL_law 65 = .ok (.iconst 0, 1) := by decide +kernel
theorem dL_law_66 : decode cL_law 66 = .ok (.istore 12, 2) := by decide +kernel
theorem dL_law_68 : decode cL_law 68 = .ok (.iload 12, 2) := by decide +kernel
theorem dL_law_70 : decode cL_law 70 = .ok (.bipush 12, 2) := by decide +kernel
theorem dL_law_72 : decode cL_law 72 = .ok (.if_icmp .ge 21, 3) := by decide +kernel
theorem dL_law_75 : decode cL_law 75 = .ok (.aload 4, 2) := by decide +kernel
theorem dL_law_77 : decode cL_law 77 = .ok (.iload 12, 2) := by decide +kernel
theorem dL_law_79 : decode cL_law 79 = .ok (.iconst (-1), 1) := by decide +kernel
theorem dL_law_80 : decode cL_law 80 = .ok (.iastore, 1) := by decide +kernel
theorem dL_law_81 : decode cL_law 81 = .ok (.aload 6, 2) := by decide +kernel
theorem dL_law_83 : decode cL_law 83 = .ok (.iload 12, 2) := by decide +kernel
theorem dL_law_85 : decode cL_law 85 = .ok (.iconst (-1), 1) := by decide +kernel
theorem dL_law_86 : decode cL_law 86 = .ok (.iastore, 1) := by decide +kernel
theorem dL_law_87 : decode cL_law 87 = .ok (.iinc 12 1, 3) := by decide +kernel
theorem dL_law_90 : decode cL_law 90 = .ok (.goto (-22), 3) := by decide +kernel
theorem dL_law_93 : decode cL_law 93 = .ok (.aload 7, 2) := by decide +kernel
theorem dL_law_95 : decode cL_law 95 = .ok (.iconst 1, 1) := by decide +kernel
theorem dL_law_96 : decode cL_law 96 = .ok (.iconst (-1), 1) := by decide +kernel
theorem dL_law_97 : decode cL_law 97 = .ok (.iastore, 1) := by decide +kernel
theorem dL_law_98 : decode cL_law 98 = .ok (.aload 7, 2) := by decide +kernel
theorem dL_law_100 : decode cL_law 100 = .ok (.bipush 9, 2) := by decide +kernel
theorem dL_law_102 : decode cL_law 102 = .ok (.iconst (-1), 1) := by decide +kernel
theorem dL_law_103 : decode cL_law 103 = .ok (.iastore, 1) := by decide +kernel
theorem dL_law_104 : decode cL_law 104 = .ok (.aload 7, 2) := by decide +kernel
theorem dL_law_106 : decode cL_law 106 = .ok (.bipush 14, 2) := by decide +kernel
theorem dL_law_108 : decode cL_law 108 = .ok (.iconst 1, 1) := by decide +kernel
theorem dL_law_109 : decode cL_law 109 = .ok (.iastore, 1) := by decide +kernel
theorem dL_law_110 : decode cL_law 110 = .ok (.iconst 3, 1) := by decide +kernel
theorem dL_law_111 : decode cL_law 111 = .ok (.istore 12, 2) := by decide +kernel
theorem dL_law_113 : decode cL_law 113 = .ok (.iload 12, 2) := by decide +kernel
theorem dL_law_115 : decode cL_law 115 = .ok (.bipush 6, 2) := by decide +kernel
theorem dL_law_117 : decode cL_law 117 = .ok (.if_icmp .ge 15, 3) := by decide +kernel
theorem dL_law_120 : decode cL_law 120 = .ok (.aload 11, 2) := by decide +kernel
theorem dL_law_122 : decode cL_law 122 = .ok (.iload 12, 2) := by decide +kernel
theorem dL_law_124 : decode cL_law 124 = .ok (.iconst (-1), 1) := by decide +kernel
theorem dL_law_125 : decode cL_law 125 = .ok (.iastore, 1) := by decide +kernel
theorem dL_law_126 : decode cL_law 126 = .ok (.iinc 12 1, 3) := by decide +kernel
theorem dL_law_129 : decode cL_law 129 = .ok (.goto (-16), 3) := by decide +kernel
theorem dL_law_132 : decode cL_law 132 = .ok (.aload_n 1, 1) := by decide +kernel
theorem dL_law_133 : decode cL_law 133 = .ok (.aload 6, 2) := by decide +kernel
theorem dL_law_135 : decode cL_law 135 = .ok (.aload 7, 2) := by decide +kernel
theorem dL_law_137 : decode cL_law 137 = .ok (.aload 10, 2) := by decide +kernel
theorem dL_law_139 : decode cL_law 139 = .ok (.aload 11, 2) := by decide +kernel
theorem dL_law_141 : decode cL_law 141 = .ok (.invokestatic 168, 3) := by decide +kernel
theorem dL_law_144 : decode cL_law 144 = .ok (.ifCond .ne 5, 3) := by decide +kernel
theorem dL_law_147 : decode cL_law 147 = .ok (.iconst 0, 1) := by decide +kernel
theorem dL_law_148 : decode cL_law 148 = .ok (.ireturn, 1) := by decide +kernel
theorem dL_law_149 : decode cL_law 149 = .ok (.iconst 0, 1) := by decide +kernel
theorem dL_law_150 : decode cL_law 150 = .ok (.istore 12, 2) := by decide +kernel
theorem dL_law_152 : decode cL_law 152 = .ok (.iload 12, 2) := by decide +kernel
theorem dL_law_154 : decode cL_law 154 = .ok (.sipush 150, 3) := by decide +kernel
theorem dL_law_157 : decode cL_law 157 = .ok (.if_icmp .ge 201, 3) := by decide +kernel
theorem dL_law_160 : decode cL_law 160 = .ok (.aload_n 0, 1) := by decide +kernel
theorem dL_law_161 : decode cL_law 161 = .ok (.iconst 3, 1) := by decide +kernel
theorem dL_law_162 : decode cL_law 162 = .ok (.iload 12, 2) := by decide +kernel
theorem dL_law_164 : decode cL_law 164 = .ok (.imul, 1) := by decide +kernel
theorem dL_law_165 : decode cL_law 165 = .ok (.invokestatic 172, 3) := by decide +kernel
theorem dL_law_168 : decode cL_law 168 = .ok (.istore 13, 2) := by decide +kernel
theorem dL_law_170 : decode cL_law 170 = .ok (.aload_n 0, 1) := by decide +kernel
theorem dL_law_171 : decode cL_law 171 = .ok (.iconst 3, 1) := by decide +kernel
theorem dL_law_172 : decode cL_law 172 = .ok (.iload 12, 2) := by decide +kernel
theorem dL_law_174 : decode cL_law 174 = .ok (.imul, 1) := by decide +kernel
theorem dL_law_175 : decode cL_law 175 = .ok (.iconst 1, 1) := by decide +kernel
theorem dL_law_176 : decode cL_law 176 = .ok (.iadd, 1) := by decide +kernel
theorem dL_law_177 : decode cL_law 177 = .ok (.invokestatic 172, 3) := by decide +kernel
theorem dL_law_180 : decode cL_law 180 = .ok (.istore 14, 2) := by decide +kernel
theorem dL_law_182 : decode cL_law 182 = .ok (.aload_n 0, 1) := by decide +kernel
theorem dL_law_183 : decode cL_law 183 = .ok (.iconst 3, 1) := by decide +kernel
theorem dL_law_184 : decode cL_law 184 = .ok (.iload 12, 2) := by decide +kernel
theorem dL_law_186 : decode cL_law 186 = .ok (.imul, 1) := by decide +kernel
theorem dL_law_187 : decode cL_law 187 = .ok (.iconst 2, 1) := by decide +kernel
theorem dL_law_188 : decode cL_law 188 = .ok (.iadd, 1) := by decide +kernel
theorem dL_law_189 : decode cL_law 189 = .ok (.invokestatic 172, 3) := by decide +kernel
theorem dL_law_192 : decode cL_law 192 = .ok (.istore 15, 2) := by decide +kernel
theorem dL_law_194 : decode cL_law 194 = .ok (.iload 12, 2) := by decide +kernel
theorem dL_law_196 : decode cL_law 196 = .ok (.bipush 8, 2) := by decide +kernel
theorem dL_law_198 : decode cL_law 198 = .ok (.if_icmp .ge 12, 3) := by decide +kernel
theorem dL_law_201 : decode cL_law 201 = .ok (.iload 12, 2) := by decide +kernel
theorem dL_law_203 : decode cL_law 203 = .ok (.iconst 2, 1) := by decide +kernel
theorem dL_law_204 : decode cL_law 204 = .ok (.irem, 1) := by decide +kernel
theorem dL_law_205 : decode cL_law 205 = .ok (.iconst 4, 1) := by decide +kernel
theorem dL_law_206 : decode cL_law 206 = .ok (.imul, 1) := by decide +kernel
theorem dL_law_207 : decode cL_law 207 = .ok (.goto 10, 3) := by decide +kernel
theorem dL_law_210 : decode cL_law 210 = .ok (.iload 13, 2) := by decide +kernel
theorem dL_law_212 : decode cL_law 212 = .ok (.bipush 32, 2) := by decide +kernel
theorem dL_law_214 : decode cL_law 214 = .ok (.invokestatic 94, 3) := by decide +kernel
theorem dL_law_217 : decode cL_law 217 = .ok (.istore 16, 2) := by decide +kernel
theorem dL_law_219 : decode cL_law 219 = .ok (.aload 7, 2) := by decide +kernel
theorem dL_law_221 : decode cL_law 221 = .ok (.bipush 7, 2) := by decide +kernel
theorem dL_law_223 : decode cL_law 223 = .ok (.iaload, 1) := by decide +kernel
theorem dL_law_224 : decode cL_law 224 = .ok (.bipush 40, 2) := by decide +kernel
theorem dL_law_226 : decode cL_law 226 = .ok (.if_icmp .gt 13, 3) := by decide +kernel
theorem dL_law_229 : decode cL_law 229 = .ok (.aload 7, 2) := by decide +kernel
theorem dL_law_231 : decode cL_law 231 = .ok (.bipush 15, 2) := by decide +kernel
theorem dL_law_233 : decode cL_law 233 = .ok (.iaload, 1) := by decide +kernel
theorem dL_law_234 : decode cL_law 234 = .ok (.bipush 40, 2) := by decide +kernel
theorem dL_law_236 : decode cL_law 236 = .ok (.if_icmp .le 24, 3) := by decide +kernel
theorem dL_law_239 : decode cL_law 239 = .ok (.bipush 22, 2) := by decide +kernel
theorem dL_law_241 : decode cL_law 241 = .ok (.istore 16, 2) := by decide +kernel
theorem dL_law_243 : decode cL_law 243 = .ok (.aload 7, 2) := by decide +kernel
theorem dL_law_245 : decode cL_law 245 = .ok (.bipush 7, 2) := by decide +kernel
theorem dL_law_247 : decode cL_law 247 = .ok (.iaload, 1) := by decide +kernel
theorem dL_law_248 : decode cL_law 248 = .ok (.bipush 40, 2) := by decide +kernel
theorem dL_law_250 : decode cL_law 250 = .ok (.if_icmp .le 7, 3) := by decide +kernel
theorem dL_law_253 : decode cL_law 253 = .ok (.iconst 0, 1) := by decide +kernel
theorem dL_law_254 : decode cL_law 254 = .ok (.goto 4, 3) := by decide +kernel
theorem dL_law_257 : decode cL_law 257 = .ok (.iconst 1, 1) := by decide +kernel
theorem dL_law_258 : decode cL_law 258 = .ok (.istore 14, 2) := by decide +kernel
theorem dL_law_260 : decode cL_law 260 = .ok (.iload 16, 2) := by decide +kernel
theorem dL_law_262 : decode cL_law 262 = .ok (.bipush 24, 2) := by decide +kernel
theorem dL_law_264 : decode cL_law 264 = .ok (.if_icmp .ge 29, 3) := by decide +kernel
theorem dL_law_267 : decode cL_law 267 = .ok (.aload_n 1, 1) := by decide +kernel
theorem dL_law_268 : decode cL_law 268 = .ok (.iload 16, 2) := by decide +kernel
theorem dL_law_270 : decode cL_law 270 = .ok (.iload 14, 2) := by decide +kernel
theorem dL_law_272 : decode cL_law 272 = .ok (.iload 15, 2) := by decide +kernel
theorem dL_law_274 : decode cL_law 274 = .ok (.aload_n 2, 1) := by decide +kernel
theorem dL_law_275 : decode cL_law 275 = .ok (.aload_n 3, 1) := by decide +kernel
theorem dL_law_276 : decode cL_law 276 = .ok (.aload 4, 2) := by decide +kernel
theorem dL_law_278 : decode cL_law 278 = .ok (.aload 5, 2) := by decide +kernel
theorem dL_law_280 : decode cL_law 280 = .ok (.aload 6, 2) := by decide +kernel
theorem dL_law_282 : decode cL_law 282 = .ok (.aload 7, 2) := by decide +kernel
theorem dL_law_284 : decode cL_law 284 = .ok (.invokestatic 176, 3) := by decide +kernel
theorem dL_law_287 : decode cL_law 287 = .ok (.ifCond .eq 63, 3) := by decide +kernel
theorem dL_law_290 : decode cL_law 290 = .ok (.goto 45, 3) := by decide +kernel
theorem dL_law_293 : decode cL_law 293 = .ok (.aload_n 1, 1) := by decide +kernel
theorem dL_law_294 : decode cL_law 294 = .ok (.iload 16, 2) := by decide +kernel
theorem dL_law_296 : decode cL_law 296 = .ok (.bipush 26, 2) := by decide +kernel
theorem dL_law_298 : decode cL_law 298 = .ok (.if_icmp .ge 7, 3) := by decide +kernel
theorem dL_law_301 : decode cL_law 301 = .ok (.iconst 0, 1) := by decide +kernel
theorem dL_law_302 : decode cL_law 302 = .ok (.goto 15, 3) := by decide +kernel
theorem dL_law_305 : decode cL_law 305 = .ok (.iload 16, 2) := by decide +kernel
theorem dL_law_307 : decode cL_law 307 = .ok (.bipush 26, 2) := by decide +kernel
theorem dL_law_309 : decode cL_law 309 = .ok (.if_icmp .ne 7, 3) := by decide +kernel
theorem dL_law_312 : decode cL_law 312 = .ok (.iconst 2, 1) := by decide +kernel
theorem dL_law_313 : decode cL_law 313 = .ok (.goto 4, 3) := by decide +kernel
theorem dL_law_316 : decode cL_law 316 = .ok (.iconst 3, 1) := by decide +kernel
theorem dL_law_317 : decode cL_law 317 = .ok (.iload 14, 2) := by decide +kernel
theorem dL_law_319 : decode cL_law 319 = .ok (.iload 15, 2) := by decide +kernel
theorem dL_law_321 : decode cL_law 321 = .ok (.aload 8, 2) := by decide +kernel
theorem dL_law_323 : decode cL_law 323 = .ok (.aload 9, 2) := by decide +kernel
theorem dL_law_325 : decode cL_law 325 = .ok (.aload 10, 2) := by decide +kernel
theorem dL_law_327 : decode cL_law 327 = .ok (.aload 11, 2) := by decide +kernel
theorem dL_law_329 : decode cL_law 329 = .ok (.invokestatic 180, 3) := by decide +kernel
theorem dL_law_332 : decode cL_law 332 = .ok (.ifCond .eq 18, 3) := by decide +kernel
theorem dL_law_335 : decode cL_law 335 = .ok (.aload_n 1, 1) := by decide +kernel
theorem dL_law_336 : decode cL_law 336 = .ok (.aload 6, 2) := by decide +kernel
theorem dL_law_338 : decode cL_law 338 = .ok (.aload 7, 2) := by decide +kernel
theorem dL_law_340 : decode cL_law 340 = .ok (.aload 10, 2) := by decide +kernel
theorem dL_law_342 : decode cL_law 342 = .ok (.aload 11, 2) := by decide +kernel
theorem dL_law_344 : decode cL_law 344 = .ok (.invokestatic 168, 3) := by decide +kernel
theorem dL_law_347 : decode cL_law 347 = .ok (.ifCond .ne 5, 3) := by decide +kernel
theorem dL_law_350 : decode cL_law 350 = .ok (.iconst 0, 1) := by decide +kernel
theorem dL_law_351 : decode cL_law 351 = .ok (.ireturn, 1) := by decide +kernel
theorem dL_law_352 : decode cL_law 352 = .ok (.iinc 12 1, 3) := by decide +kernel
theorem dL_law_355 : decode cL_law 355 = .ok (.goto (-203), 3) := by decide +kernel
theorem dL_law_358 : decode cL_law 358 = .ok (.iconst 1, 1) := by decide +kernel
theorem dL_law_359 : decode cL_law 359 = .ok (.ireturn, 1) := by decide +kernel
end
section
abbrev sE (i : Int32) : Prop := i = 0 ∨ i = 1
abbrev sO (o : Int32) : Prop := 0 ≤ o.toInt ∧ o.toInt < 6
abbrev sV (v : Int32) : Prop := -1 ≤ v.toInt ∧ v.toInt ≤ 9
abbrev sA (v : Int32) : Prop := 0 ≤ v.toInt ∧ v.toInt ≤ 1023
abbrev sT (v : Int32) : Prop := 1 ≤ v.toInt ∧ v.toInt ≤ 50
abbrev sP (v : Int32) : Prop := 1 ≤ v.toInt ∧ v.toInt ≤ 4
abbrev sL (v : Int32) : Prop := 0 ≤ v.toInt ∧ v.toInt < 3
theorem jlt {a b : Int32} : a < b ↔ a.toInt < b.toInt := Int32.lt_iff_toInt_lt
theorem jle {a b : Int32} : a ≤ b ↔ a.toInt ≤ b.toInt := Int32.le_iff_toInt_le
theorem tq0 : (0 : Int32).toInt = 0 := rfl
theorem tq1 : (1 : Int32).toInt = 1 := rfl
theorem tq3 : (3 : Int32).toInt = 3 := rfl
theorem tq4 : (4 : Int32).toInt = 4 := rfl
theorem tq5 : (5 : Int32).toInt = 5 := rfl
theorem tq6 : (6 : Int32).toInt = 6 := rfl
theorem tq9 : (9 : Int32).toInt = 9 := rfl
theorem tq50 : (50 : Int32).toInt = 50 := rfl
theorem tq60 : (60 : Int32).toInt = 60 := rfl
theorem tq1023 : (1023 : Int32).toInt = 1023 := rfl
theorem tqm1 : ((-1) : Int32).toInt = (-1) := rfl
theorem tq2 : (2 : Int32).toInt = 2 := rfl
theorem vin6 {o : Int32} (h : sO o) : vp_in o 6 := vp_in_iff.mpr ⟨h.1, h.2⟩

set_option maxHeartbeats 4000000 in
set_option maxRecDepth 100000 in
/-- the end of that number, or a throw -/
theorem c_X4_endAt {l : Launch} (hl : l.stackTraces = false) (G : hG) (f : hM) (xo ez eo bu : Nat) (k_xo : f xo = some (.inr (4, [.ref ez, .ref eo, .ref bu]))) (i : Int32) : CT l yX4_endAt (.code yX4_endAt cX4_endAt 2 (some (.object "OptionLine$End"))) 6 82 1 6 G [.ref xo, .int i] f (fun v f1 => f1 = f ∧ ((i = 0 ∧ v = some (.ref ez)) ∨ (i = 1 ∧ v = some (.ref eo)))) (fun E f1 => f1 = f ∧ E = eI ∧ ¬ sE i) := by
  refine hp_start hl (own := RX4) (by decide) rfl (Nat.le_of_ble_eq_true rfl) ?_
  intro p e s m args below meth c B0 hr hnm hout hw hS ls hl9
  have hx := B0.1
  have hb := B0.2.1
  have hl9 : lv_has ls 2 [(0, .ref xo), (1, .int i)] := hl9
  refine lv_iload_n hx hb dX4_endAt_0 rfl (lv_at hl9 1 rfl) ?_
  refine lv_if_ne (tgt := 9) hx hb dX4_endAt_1 (by decide) (fun c1 => ?_) (fun c1 => ?_)
  · refine lv_iload_n hx hb dX4_endAt_9 rfl (lv_at hl9 1 rfl) ?_
    refine lv_iconst (v := 1) hx hb dX4_endAt_10 (by decide) ?_
    refine lv_icmp_ne (tgt := 19) hx hb dX4_endAt_11 (by decide) (fun c2 => ?_) (fun c2 => ?_)
    · exact hp_throw (cls := eI) (names := tNm) B0 hw hS hout tF_eI qC_X4_137 qN_java_lang_IndexOutOfBoundsException sR_X4_148 tA_eI tB_eI tG_eI hl9.1 dX4_endAt_19 dX4_endAt_22 dX4_endAt_23 dX4_endAt_25 dX4_endAt_28 ⟨⟨Nat.le_of_ble_eq_true rfl, Nat.le_of_ble_eq_true rfl⟩, Nat.le_of_ble_eq_true rfl, Nat.le_of_ble_eq_true rfl⟩ ⟨Nat.le_of_ble_eq_true rfl, Nat.le_of_ble_eq_true rfl⟩ (⟨rfl, rfl, fun h9 => h9.elim c1 c2⟩)
    · refine lv_aload_n hx hb dX4_endAt_14 rfl (lv_at hl9 0 rfl) ?_
      refine hp_get B0 hw 4 rfl in_X4 k_xo 1 (by decide) qF_X4_18 rfl dX4_endAt_15 ?_
      exact hp_aret (v := .ref eo) B0 hw hS hr (Or.inl ⟨_, rfl⟩) (Or.inr ⟨_, rfl⟩) ⟨Nat.le_of_ble_eq_true rfl, Nat.le_of_ble_eq_true rfl⟩ dX4_endAt_18 (⟨rfl, Or.inr ⟨c2, rfl⟩⟩)
  · refine lv_aload_n hx hb dX4_endAt_4 rfl (lv_at hl9 0 rfl) ?_
    refine hp_get B0 hw 4 rfl in_X4 k_xo 0 (by decide) qF_X4_12 rfl dX4_endAt_5 ?_
    exact hp_aret (v := .ref ez) B0 hw hS hr (Or.inl ⟨_, rfl⟩) (Or.inr ⟨_, rfl⟩) ⟨Nat.le_of_ble_eq_true rfl, Nat.le_of_ble_eq_true rfl⟩ dX4_endAt_8 (⟨rfl, Or.inl ⟨c1, rfl⟩⟩)

set_option maxHeartbeats 4000000 in
set_option maxRecDepth 100000 in
theorem c_X4_refuseNoOption {l : Launch} (hl : l.stackTraces = false) (G : hG) (f : hM) (o : Int32) : CT l yX4_refuseNoOption (.code yX4_refuseNoOption cX4_refuseNoOption 1 none) 6 82 1 6 G [.int o] f (fun v f1 => f1 = f ∧ v = none ∧ sO o) (fun E f1 => f1 = f ∧ E = eI ∧ ¬ sO o) := by
  refine hp_start hl (own := RX4) (by decide) rfl (Nat.le_of_ble_eq_true rfl) ?_
  intro p e s m args below meth c B0 hr hnm hout hw hS ls hl9
  have hx := B0.1
  have hb := B0.2.1
  have hl9 : lv_has ls 1 [(0, .int o)] := hl9
  refine lv_iload_n hx hb dX4_refuseNoOption_0 rfl (lv_at hl9 0 rfl) ?_
  refine lv_if_lt (tgt := 10) hx hb dX4_refuseNoOption_1 (by decide) (fun c1 => ?_) (fun c1 => ?_)
  · exact hp_throw (cls := eI) (names := tNm) B0 hw hS hout tF_eI qC_X4_137 qN_java_lang_IndexOutOfBoundsException sR_X4_150 tA_eI tB_eI tG_eI hl9.1 dX4_refuseNoOption_10 dX4_refuseNoOption_13 dX4_refuseNoOption_14 dX4_refuseNoOption_16 dX4_refuseNoOption_19 ⟨⟨Nat.le_of_ble_eq_true rfl, Nat.le_of_ble_eq_true rfl⟩, Nat.le_of_ble_eq_true rfl, Nat.le_of_ble_eq_true rfl⟩ ⟨Nat.le_of_ble_eq_true rfl, Nat.le_of_ble_eq_true rfl⟩ (⟨rfl, rfl, fun h9 => by have h1 := c1; simp only [jlt, jle, tq0, tq6] at h1; omega⟩)
  · refine lv_iload_n hx hb dX4_refuseNoOption_4 rfl (lv_at hl9 0 rfl) ?_
    refine lv_bipush (v := 6) hx hb dX4_refuseNoOption_5 (by decide) ?_
    refine lv_icmp_lt (tgt := 20) hx hb dX4_refuseNoOption_7 (by decide) (fun c2 => ?_) (fun c2 => ?_)
    · exact hp_vret B0 hw hS hr ⟨Nat.le_of_ble_eq_true rfl, Nat.le_of_ble_eq_true rfl⟩ dX4_refuseNoOption_20 (⟨rfl, rfl, by have h1 := c1; have h2 := c2; simp only [jlt, jle, tq0, tq1, tq3, tq4, tq6, tq9, tq50, tq1023, tqm1] at h1; simp only [jlt, jle, tq0, tq1, tq3, tq4, tq6, tq9, tq50, tq1023, tqm1] at h2; omega⟩)
    · exact hp_throw (cls := eI) (names := tNm) B0 hw hS hout tF_eI qC_X4_137 qN_java_lang_IndexOutOfBoundsException sR_X4_150 tA_eI tB_eI tG_eI hl9.1 dX4_refuseNoOption_10 dX4_refuseNoOption_13 dX4_refuseNoOption_14 dX4_refuseNoOption_16 dX4_refuseNoOption_19 ⟨⟨Nat.le_of_ble_eq_true rfl, Nat.le_of_ble_eq_true rfl⟩, Nat.le_of_ble_eq_true rfl, Nat.le_of_ble_eq_true rfl⟩ ⟨Nat.le_of_ble_eq_true rfl, Nat.le_of_ble_eq_true rfl⟩ (⟨rfl, rfl, fun h9 => by have h1 := c2; simp only [jlt, jle, tq0, tq6] at h1; omega⟩)

set_option maxHeartbeats 4000000 in
set_option maxRecDepth 100000 in
theorem c_X1_changeWish {l : Launch} (hl : l.stackTraces = false) (G : hG) (f : hM) (en : Nat) (nw na nq nr : Nat) (mg st tm sr li lp mi : Int32) (k_en : f en = some (.inr (1, [.ref nw, .ref na, .ref nq, .ref nr, .int mg, .int st, .int tm, .int sr, .int li, .int lp, .int mi]))) (gw : Nat → Int32) (k_nw : f nw = some (.inl (cI G, 6, .inl gw))) (o x : Int32) (hop : sO o) : CT l yX1_changeWish (.code yX1_changeWish cX1_changeWish 4 (some .int)) 0 0 0 0 G [.ref en, .int o, .int x] f (fun v f1 => sO o ∧ v = some (.int (gw o.toNatClampNeg)) ∧ f1 = va_up f nw (some (.inl (cI G, 6, .inl (upd gw o.toNatClampNeg x)))) ∧ hKeep [nw] f f1) (fun E f1 => False) := by
  refine hp_start hl (own := RX1) (by decide) rfl (Nat.le_of_ble_eq_true rfl) ?_
  intro p e s m args below meth c B0 hr hnm hout hw hS ls hl9
  have hx := B0.1
  have hb := B0.2.1
  have hl9 : lv_has ls 4 [(0, .ref en), (1, .int o), (2, .int x)] := hl9
  refine lv_aload_n hx hb dX1_changeWish_0 rfl (lv_at hl9 0 rfl) ?_
  refine hp_get B0 hw 1 rfl in_X1 k_en 0 (by decide) qF_X1_9 rfl dX1_changeWish_1 ?_
  refine lv_iload_n hx hb dX1_changeWish_4 rfl (lv_at hl9 1 rfl) ?_
  refine hp_iald B0 hw k_nw (vin6 hop) dX1_changeWish_5 ?_
  refine lv_istore_n (lv' := [(3, .int (gw (o : Int32).toNatClampNeg)), (0, .ref en), (1, .int o), (2, .int x)]) hx hb dX1_changeWish_6 rfl hl9 (by decide) rfl (fun ls hl9 => ?_)
  refine lv_aload_n hx hb dX1_changeWish_7 rfl (lv_at hl9 1 rfl) ?_
  refine hp_get B0 hw 1 rfl in_X1 k_en 0 (by decide) qF_X1_9 rfl dX1_changeWish_8 ?_
  refine lv_iload_n hx hb dX1_changeWish_11 rfl (lv_at hl9 2 rfl) ?_
  refine lv_iload_n hx hb dX1_changeWish_12 rfl (lv_at hl9 3 rfl) ?_
  refine hp_iast B0 hw hS k_nw (vin6 hop) dX1_changeWish_13 (fun H locs f1 ef1 hw hS => ?_)
  have h2 : f1 nw = some (.inl (cI G, 6, .inl (upd gw (o : Int32).toNatClampNeg x))) := by rw [ef1, va_up_self]
  refine lv_iload_n hx hb dX1_changeWish_14 rfl (lv_at hl9 0 rfl) ?_
  exact hp_iret (v := (gw (o : Int32).toNatClampNeg)) B0 hw hS hr ⟨Nat.le_of_ble_eq_true rfl, Nat.le_of_ble_eq_true rfl⟩ dX1_changeWish_15 (⟨hop, rfl, ef1, (show hKeep [nw] f f1 from (by rw [ef1]; exact hKeep.up (by simp)))⟩)

set_option maxHeartbeats 4000000 in
set_option maxRecDepth 100000 in
theorem c_X1_changeAllowed {l : Launch} (hl : l.stackTraces = false) (G : hG) (f : hM) (en : Nat) (nw na nq nr : Nat) (mg st tm sr li lp mi : Int32) (k_en : f en = some (.inr (1, [.ref nw, .ref na, .ref nq, .ref nr, .int mg, .int st, .int tm, .int sr, .int li, .int lp, .int mi]))) (ga : Nat → Int32) (k_na : f na = some (.inl (cI G, 6, .inl ga))) (o x : Int32) (hop : sO o) : CT l yX1_changeAllowed (.code yX1_changeAllowed cX1_changeAllowed 4 (some .int)) 0 0 0 0 G [.ref en, .int o, .int x] f (fun v f1 => sO o ∧ v = some (.int (ga o.toNatClampNeg)) ∧ f1 = va_up f na (some (.inl (cI G, 6, .inl (upd ga o.toNatClampNeg x)))) ∧ hKeep [na] f f1) (fun E f1 => False) := by
  refine hp_start hl (own := RX1) (by decide) rfl (Nat.le_of_ble_eq_true rfl) ?_
  intro p e s m args below meth c B0 hr hnm hout hw hS ls hl9
  have hx := B0.1
  have hb := B0.2.1
  have hl9 : lv_has ls 4 [(0, .ref en), (1, .int o), (2, .int x)] := hl9
  refine lv_aload_n hx hb dX1_changeAllowed_0 rfl (lv_at hl9 0 rfl) ?_
  refine hp_get B0 hw 1 rfl in_X1 k_en 1 (by decide) qF_X1_15 rfl dX1_changeAllowed_1 ?_
  refine lv_iload_n hx hb dX1_changeAllowed_4 rfl (lv_at hl9 1 rfl) ?_
  refine hp_iald B0 hw k_na (vin6 hop) dX1_changeAllowed_5 ?_
  refine lv_istore_n (lv' := [(3, .int (ga (o : Int32).toNatClampNeg)), (0, .ref en), (1, .int o), (2, .int x)]) hx hb dX1_changeAllowed_6 rfl hl9 (by decide) rfl (fun ls hl9 => ?_)
  refine lv_aload_n hx hb dX1_changeAllowed_7 rfl (lv_at hl9 1 rfl) ?_
  refine hp_get B0 hw 1 rfl in_X1 k_en 1 (by decide) qF_X1_15 rfl dX1_changeAllowed_8 ?_
  refine lv_iload_n hx hb dX1_changeAllowed_11 rfl (lv_at hl9 2 rfl) ?_
  refine lv_iload_n hx hb dX1_changeAllowed_12 rfl (lv_at hl9 3 rfl) ?_
  refine hp_iast B0 hw hS k_na (vin6 hop) dX1_changeAllowed_13 (fun H locs f1 ef1 hw hS => ?_)
  have h2 : f1 na = some (.inl (cI G, 6, .inl (upd ga (o : Int32).toNatClampNeg x))) := by rw [ef1, va_up_self]
  refine lv_iload_n hx hb dX1_changeAllowed_14 rfl (lv_at hl9 0 rfl) ?_
  exact hp_iret (v := (ga (o : Int32).toNatClampNeg)) B0 hw hS hr ⟨Nat.le_of_ble_eq_true rfl, Nat.le_of_ble_eq_true rfl⟩ dX1_changeAllowed_15 (⟨hop, rfl, ef1, (show hKeep [na] f f1 from (by rw [ef1]; exact hKeep.up (by simp)))⟩)

theorem hKeep.trn {S : List Nat} {f f2 : hM} {q : Nat} (hq : f q = none) (h2 : hKeep (q :: S) f f2) : hKeep S f f2 := fun a e h n => h2 a e h (ninc (fun z => by rw [z, hq] at h; cases h) n)
def spc (A B : Prop) [Decidable A] [Decidable B] : Int32 := if A then (if B then 0 else 2) else 1
theorem spc_0 {A B : Prop} [Decidable A] [Decidable B] (a : A) (b : B) : spc A B = 0 := by unfold spc; rw [if_pos a, if_pos b]
theorem spc_2 {A B : Prop} [Decidable A] [Decidable B] (a : A) (b : ¬ B) : spc A B = 2 := by unfold spc; rw [if_pos a, if_neg b]
theorem spc_1 {A B : Prop} [Decidable A] [Decidable B] (a : ¬ A) : spc A B = 1 := by unfold spc; rw [if_neg a]

set_option maxHeartbeats 4000000 in
set_option maxRecDepth 100000 in
theorem c_X1_changeMagic {l : Launch} (hl : l.stackTraces = false) (G : hG) (f : hM) (en : Nat) (nw na nq nr : Nat) (mg st tm sr li lp mi : Int32) (k_en : f en = some (.inr (1, [.ref nw, .ref na, .ref nq, .ref nr, .int mg, .int st, .int tm, .int sr, .int li, .int lp, .int mi]))) (x : Int32) : CT l yX1_changeMagic (.code yX1_changeMagic cX1_changeMagic 3 (some .int)) 0 0 0 0 G [.ref en, .int x] f (fun v f1 => v = some (.int mg) ∧ f1 = va_up f en (some (.inr (1, [.ref nw, .ref na, .ref nq, .ref nr, .int x, .int st, .int tm, .int sr, .int li, .int lp, .int mi]))) ∧ hKeep [en] f f1) (fun E f1 => False) := by
  refine hp_start hl (own := RX1) (by decide) rfl (Nat.le_of_ble_eq_true rfl) ?_
  intro p e s m args below meth c B0 hr hnm hout hw hS ls hl9
  have hx := B0.1
  have hb := B0.2.1
  have hl9 : lv_has ls 3 [(0, .ref en), (1, .int x)] := hl9
  refine lv_aload_n hx hb dX1_changeMagic_0 rfl (lv_at hl9 0 rfl) ?_
  refine hp_get B0 hw 1 rfl in_X1 k_en 4 (by decide) qF_X1_48 rfl dX1_changeMagic_1 ?_
  refine lv_istore_n (lv' := [(2, .int mg), (0, .ref en), (1, .int x)]) hx hb dX1_changeMagic_4 rfl hl9 (by decide) rfl (fun ls hl9 => ?_)
  refine lv_aload_n hx hb dX1_changeMagic_5 rfl (lv_at hl9 1 rfl) ?_
  refine lv_iload_n hx hb dX1_changeMagic_6 rfl (lv_at hl9 2 rfl) ?_
  refine hp_put (fs1 := [.ref nw, .ref na, .ref nq, .ref nr, .int x, .int st, .int tm, .int sr, .int li, .int lp, .int mi]) (ty := .int) B0 hw hS 1 rfl in_X1 tyX1 tyX1_ok nmX1 k_en 4 (by decide) qF_X1_48 rfl (by decide +kernel) rfl rfl (Nat.le_of_ble_eq_true rfl) rfl dX1_changeMagic_7 (fun H locs f1 ef1 hw hS => ?_)
  have h2 : f1 en = some (.inr (1, [.ref nw, .ref na, .ref nq, .ref nr, .int x, .int st, .int tm, .int sr, .int li, .int lp, .int mi])) := by rw [ef1, va_up_self]
  refine lv_iload_n hx hb dX1_changeMagic_10 rfl (lv_at hl9 0 rfl) ?_
  exact hp_iret (v := mg) B0 hw hS hr ⟨Nat.le_of_ble_eq_true rfl, Nat.le_of_ble_eq_true rfl⟩ dX1_changeMagic_11 (⟨rfl, ef1, (show hKeep [en] f f1 from (by rw [ef1]; exact hKeep.up (by simp)))⟩)
end
section
/-- no frame that wasn't one before -/
def NF (f f1 : hM) : Prop := ∀ a k, f1 a = some (.inr (2, k)) → f a = some (.inr (2, k))
theorem NF.rf {f : hM} : NF f f := fun _ _ h => h
theorem NF.tr {f f1 f2 : hM} (h : NF f f1) (h2 : NF f1 f2) : NF f f2 := fun a k q => h a k (h2 a k q)
theorem NF.up {f : hM} {a : Nat} {e : va_E} (h : hTag e ≠ 3) : NF f (va_up f a (some e)) := fun b k q => by
  by_cases z : b = a
  · rw [z, va_up_self] at q; cases q; exact absurd rfl h
  · rw [va_up_ne _ _ z] at q; exact q
theorem hneL0 : True := trivial
set_option maxHeartbeats 4000000 in
set_option maxRecDepth 100000 in
theorem c_X3_init {l : Launch} (hl : l.stackTraces = false) (G : hG) (f : hM) (nr : Nat) (k_nr : f nr = some (.inr (3, [.null, .null, .int 0]))) : CT l yX3_init (.code yX3_init cX3_init 1 none) 1 13 0 0 G [.ref nr] f (fun v f1 => v = none ∧ f1 = f) (fun E f1 => False) := by
  refine hp_start hl (own := RX3) (by decide) rfl (Nat.le_of_ble_eq_true rfl) ?_
  intro p e s m args below meth c B0 hr hnm hout hw hS ls hl9
  have hx := B0.1
  have hb := B0.2.1
  have hl9 : lv_has ls 1 [(0, .ref nr)] := hl9
  refine lv_aload_n hx hb dX3_init_0 rfl (lv_at hl9 0 rfl) ?_
  refine W.objInit hx hb B0.2.2.2.1 (B0.2.2.2.2.1 _ qM_X3_3) (B0.2.2.2.2.1 _ qi_obj) (B0.2.2.2.2.1 _ qc_obj) rfl (by rw [B0.2.2.1]; exact hl9.1) rfl dX3_init_1 (Nat.le_of_ble_eq_true rfl) (Nat.le_of_ble_eq_true rfl) ?_
  refine W.eq (g2 := F0 m 4 ls []) rfl ?_
  exact hp_vret B0 hw hS hr ⟨Nat.le_of_ble_eq_true rfl, Nat.le_of_ble_eq_true rfl⟩ dX3_init_4 (⟨rfl, rfl⟩)

theorem hKeep.none {S : List Nat} {f fj : hM} {q : Nat} (h : hKeep S f fj) (hq : fj q = none) (hn : q ∉ S) : f q = none := by
  cases h9 : f q with
  | none => rfl
  | some e => rw [h q e h9 hn] at hq; cases hq

theorem cl0 : (0 : Int32).toNatClampNeg = 0 := rfl
theorem cl1 : (1 : Int32).toNatClampNeg = 1 := rfl
theorem cl2 : (2 : Int32).toNatClampNeg = 2 := rfl
theorem cl3 : (3 : Int32).toNatClampNeg = 3 := rfl
theorem cl4 : (4 : Int32).toNatClampNeg = 4 := rfl
theorem cl5 : (5 : Int32).toNatClampNeg = 5 := rfl
theorem cl6 : (6 : Int32).toNatClampNeg = 6 := rfl
theorem cl7 : (7 : Int32).toNatClampNeg = 7 := rfl
theorem cl8 : (8 : Int32).toNatClampNeg = 8 := rfl
theorem cl9 : (9 : Int32).toNatClampNeg = 9 := rfl
theorem cl10 : (10 : Int32).toNatClampNeg = 10 := rfl
theorem cl11 : (11 : Int32).toNatClampNeg = 11 := rfl
theorem fill6 (gx : Nat → Int32) (x : Int32) : (upd (upd (upd (upd (upd (upd gx (0 : Int32).toNatClampNeg x) (1 : Int32).toNatClampNeg x) (2 : Int32).toNatClampNeg x) (3 : Int32).toNatClampNeg x) (4 : Int32).toNatClampNeg x) (5 : Int32).toNatClampNeg x) = (fun j => if j < 6 then x else gx j) := by
  funext j
  simp only [upd, cl0, cl1, cl2, cl3, cl4, cl5]
  by_cases h : j < 6
  · rw [if_pos h]
    rcases (show j = 0 ∨ j = 1 ∨ j = 2 ∨ j = 3 ∨ j = 4 ∨ j = 5 by omega) with rfl | rfl | rfl | rfl | rfl | rfl <;> rfl
  · rw [if_neg h]
    rw [if_neg (show ¬ j = 5 by omega)]
    rw [if_neg (show ¬ j = 4 by omega)]
    rw [if_neg (show ¬ j = 3 by omega)]
    rw [if_neg (show ¬ j = 2 by omega)]
    rw [if_neg (show ¬ j = 1 by omega)]
    rw [if_neg (show ¬ j = 0 by omega)]
set_option maxHeartbeats 4000000 in
set_option maxRecDepth 100000 in
theorem c_J7_fill6 {l : Launch} (hl : l.stackTraces = false) (G : hG) (f : hM) (na : Nat) (gx : Nat → Int32) (k_na : f na = some (.inl (cI G, 6, .inl gx))) (x : Int32) : CT l yJ7_fill_53178 (.code yJ7_fill_53178 cJ7_fill_53178 4 none) 0 0 0 0 G [.ref na, .int x] f (fun v f1 => v = none ∧ f1 na = some (.inl (cI G, 6, .inl (fun j => if j < 6 then x else gx j))) ∧ hKeep [na] f f1 ∧ NF f f1) (fun E f1 => False) := by
  refine hp_start hl (own := RJ7) (by decide) rfl (Nat.le_of_ble_eq_true rfl) ?_
  intro p e s m args below meth c B0 hr hnm hout hw hS ls hl9
  have hx := B0.1
  have hb := B0.2.1
  have hl9 : lv_has ls 4 [(0, .ref na), (1, .int x)] := hl9
  refine lv_iconst (v := 0) hx hb dJ7_fill_53178_0 (by decide) ?_
  refine lv_istore_n (lv' := [(2, .int 0), (0, .ref na), (1, .int x)]) hx hb dJ7_fill_53178_1 rfl hl9 (by decide) rfl (fun ls hl9 => ?_)
  refine lv_aload_n hx hb dJ7_fill_53178_2 rfl (lv_at hl9 1 rfl) ?_
  refine hp_alenI B0 hw k_na (v := 6) (by decide) dJ7_fill_53178_3 ?_
  refine lv_istore_n (lv' := [(3, .int 6), (2, .int 0), (0, .ref na), (1, .int x)]) hx hb dJ7_fill_53178_4 rfl hl9 (by decide) rfl (fun ls hl9 => ?_)
  refine lv_iload_n hx hb dJ7_fill_53178_5 rfl (lv_at hl9 1 rfl) ?_
  refine lv_iload_n hx hb dJ7_fill_53178_6 rfl (lv_at hl9 0 rfl) ?_
  refine lv_icmp_ge (tgt := 20) hx hb dJ7_fill_53178_7 (by decide) (fun c9 => absurd c9 (by decide)) (fun _ => ?_)
  refine lv_aload_n hx hb dJ7_fill_53178_10 rfl (lv_at hl9 2 rfl) ?_
  refine lv_iload_n hx hb dJ7_fill_53178_11 rfl (lv_at hl9 1 rfl) ?_
  refine lv_iload_n hx hb dJ7_fill_53178_12 rfl (lv_at hl9 3 rfl) ?_
  refine hp_iast B0 hw hS k_na (by unfold vp_in; decide) dJ7_fill_53178_13 (fun H locs f1 ef1 hw hS => ?_)
  have h2 : f1 na = some (.inl (cI G, 6, .inl (upd gx (0 : Int32).toNatClampNeg x))) := by rw [ef1, va_up_self]
  refine lv_iinc (v := 1) (lv' := [(2, .int 1), (3, .int 6), (0, .ref na), (1, .int x)]) hx hb dJ7_fill_53178_14 hl9 (k := 1) rfl (by decide) (by decide) rfl (fun ls hl9 => ?_)
  refine lv_goto (tgt := 5) hx hb dJ7_fill_53178_17 (by decide) ?_
  refine lv_iload_n hx hb dJ7_fill_53178_5 rfl (lv_at hl9 0 rfl) ?_
  refine lv_iload_n hx hb dJ7_fill_53178_6 rfl (lv_at hl9 1 rfl) ?_
  refine lv_icmp_ge (tgt := 20) hx hb dJ7_fill_53178_7 (by decide) (fun c9 => absurd c9 (by decide)) (fun _ => ?_)
  refine lv_aload_n hx hb dJ7_fill_53178_10 rfl (lv_at hl9 2 rfl) ?_
  refine lv_iload_n hx hb dJ7_fill_53178_11 rfl (lv_at hl9 0 rfl) ?_
  refine lv_iload_n hx hb dJ7_fill_53178_12 rfl (lv_at hl9 3 rfl) ?_
  refine hp_iast B0 hw hS h2 (by unfold vp_in; decide) dJ7_fill_53178_13 (fun H locs f3 ef3 hw hS => ?_)
  have e4 : f3 = va_up f na (some (.inl (cI G, 6, .inl (upd (upd gx (0 : Int32).toNatClampNeg x) (1 : Int32).toNatClampNeg x)))) := by rw [ef3, ef1, bx_uu]
  have h5 : f3 na = some (.inl (cI G, 6, .inl (upd (upd gx (0 : Int32).toNatClampNeg x) (1 : Int32).toNatClampNeg x))) := by rw [ef3, va_up_self]
  refine lv_iinc (v := 2) (lv' := [(2, .int 2), (3, .int 6), (0, .ref na), (1, .int x)]) hx hb dJ7_fill_53178_14 hl9 (k := 0) rfl (by decide) (by decide) rfl (fun ls hl9 => ?_)
  refine lv_goto (tgt := 5) hx hb dJ7_fill_53178_17 (by decide) ?_
  refine lv_iload_n hx hb dJ7_fill_53178_5 rfl (lv_at hl9 0 rfl) ?_
  refine lv_iload_n hx hb dJ7_fill_53178_6 rfl (lv_at hl9 1 rfl) ?_
  refine lv_icmp_ge (tgt := 20) hx hb dJ7_fill_53178_7 (by decide) (fun c9 => absurd c9 (by decide)) (fun _ => ?_)
  refine lv_aload_n hx hb dJ7_fill_53178_10 rfl (lv_at hl9 2 rfl) ?_
  refine lv_iload_n hx hb dJ7_fill_53178_11 rfl (lv_at hl9 0 rfl) ?_
  refine lv_iload_n hx hb dJ7_fill_53178_12 rfl (lv_at hl9 3 rfl) ?_
  refine hp_iast B0 hw hS h5 (by unfold vp_in; decide) dJ7_fill_53178_13 (fun H locs f6 ef6 hw hS => ?_)
  have e7 : f6 = va_up f na (some (.inl (cI G, 6, .inl (upd (upd (upd gx (0 : Int32).toNatClampNeg x) (1 : Int32).toNatClampNeg x) (2 : Int32).toNatClampNeg x)))) := by rw [ef6, e4, bx_uu]
  have h8 : f6 na = some (.inl (cI G, 6, .inl (upd (upd (upd gx (0 : Int32).toNatClampNeg x) (1 : Int32).toNatClampNeg x) (2 : Int32).toNatClampNeg x))) := by rw [ef6, va_up_self]
  refine lv_iinc (v := 3) (lv' := [(2, .int 3), (3, .int 6), (0, .ref na), (1, .int x)]) hx hb dJ7_fill_53178_14 hl9 (k := 0) rfl (by decide) (by decide) rfl (fun ls hl9 => ?_)
  refine lv_goto (tgt := 5) hx hb dJ7_fill_53178_17 (by decide) ?_
  refine lv_iload_n hx hb dJ7_fill_53178_5 rfl (lv_at hl9 0 rfl) ?_
  refine lv_iload_n hx hb dJ7_fill_53178_6 rfl (lv_at hl9 1 rfl) ?_
  refine lv_icmp_ge (tgt := 20) hx hb dJ7_fill_53178_7 (by decide) (fun c9 => absurd c9 (by decide)) (fun _ => ?_)
  refine lv_aload_n hx hb dJ7_fill_53178_10 rfl (lv_at hl9 2 rfl) ?_
  refine lv_iload_n hx hb dJ7_fill_53178_11 rfl (lv_at hl9 0 rfl) ?_
  refine lv_iload_n hx hb dJ7_fill_53178_12 rfl (lv_at hl9 3 rfl) ?_
  refine hp_iast B0 hw hS h8 (by unfold vp_in; decide) dJ7_fill_53178_13 (fun H locs f9 ef9 hw hS => ?_)
  have e10 : f9 = va_up f na (some (.inl (cI G, 6, .inl (upd (upd (upd (upd gx (0 : Int32).toNatClampNeg x) (1 : Int32).toNatClampNeg x) (2 : Int32).toNatClampNeg x) (3 : Int32).toNatClampNeg x)))) := by rw [ef9, e7, bx_uu]
  have h11 : f9 na = some (.inl (cI G, 6, .inl (upd (upd (upd (upd gx (0 : Int32).toNatClampNeg x) (1 : Int32).toNatClampNeg x) (2 : Int32).toNatClampNeg x) (3 : Int32).toNatClampNeg x))) := by rw [ef9, va_up_self]
  refine lv_iinc (v := 4) (lv' := [(2, .int 4), (3, .int 6), (0, .ref na), (1, .int x)]) hx hb dJ7_fill_53178_14 hl9 (k := 0) rfl (by decide) (by decide) rfl (fun ls hl9 => ?_)
  refine lv_goto (tgt := 5) hx hb dJ7_fill_53178_17 (by decide) ?_
  refine lv_iload_n hx hb dJ7_fill_53178_5 rfl (lv_at hl9 0 rfl) ?_
  refine lv_iload_n hx hb dJ7_fill_53178_6 rfl (lv_at hl9 1 rfl) ?_
  refine lv_icmp_ge (tgt := 20) hx hb dJ7_fill_53178_7 (by decide) (fun c9 => absurd c9 (by decide)) (fun _ => ?_)
  refine lv_aload_n hx hb dJ7_fill_53178_10 rfl (lv_at hl9 2 rfl) ?_
  refine lv_iload_n hx hb dJ7_fill_53178_11 rfl (lv_at hl9 0 rfl) ?_
  refine lv_iload_n hx hb dJ7_fill_53178_12 rfl (lv_at hl9 3 rfl) ?_
  refine hp_iast B0 hw hS h11 (by unfold vp_in; decide) dJ7_fill_53178_13 (fun H locs f12 ef12 hw hS => ?_)
  have e13 : f12 = va_up f na (some (.inl (cI G, 6, .inl (upd (upd (upd (upd (upd gx (0 : Int32).toNatClampNeg x) (1 : Int32).toNatClampNeg x) (2 : Int32).toNatClampNeg x) (3 : Int32).toNatClampNeg x) (4 : Int32).toNatClampNeg x)))) := by rw [ef12, e10, bx_uu]
  have h14 : f12 na = some (.inl (cI G, 6, .inl (upd (upd (upd (upd (upd gx (0 : Int32).toNatClampNeg x) (1 : Int32).toNatClampNeg x) (2 : Int32).toNatClampNeg x) (3 : Int32).toNatClampNeg x) (4 : Int32).toNatClampNeg x))) := by rw [ef12, va_up_self]
  refine lv_iinc (v := 5) (lv' := [(2, .int 5), (3, .int 6), (0, .ref na), (1, .int x)]) hx hb dJ7_fill_53178_14 hl9 (k := 0) rfl (by decide) (by decide) rfl (fun ls hl9 => ?_)
  refine lv_goto (tgt := 5) hx hb dJ7_fill_53178_17 (by decide) ?_
  refine lv_iload_n hx hb dJ7_fill_53178_5 rfl (lv_at hl9 0 rfl) ?_
  refine lv_iload_n hx hb dJ7_fill_53178_6 rfl (lv_at hl9 1 rfl) ?_
  refine lv_icmp_ge (tgt := 20) hx hb dJ7_fill_53178_7 (by decide) (fun c9 => absurd c9 (by decide)) (fun _ => ?_)
  refine lv_aload_n hx hb dJ7_fill_53178_10 rfl (lv_at hl9 2 rfl) ?_
  refine lv_iload_n hx hb dJ7_fill_53178_11 rfl (lv_at hl9 0 rfl) ?_
  refine lv_iload_n hx hb dJ7_fill_53178_12 rfl (lv_at hl9 3 rfl) ?_
  refine hp_iast B0 hw hS h14 (by unfold vp_in; decide) dJ7_fill_53178_13 (fun H locs f15 ef15 hw hS => ?_)
  have e16 : f15 = va_up f na (some (.inl (cI G, 6, .inl (upd (upd (upd (upd (upd (upd gx (0 : Int32).toNatClampNeg x) (1 : Int32).toNatClampNeg x) (2 : Int32).toNatClampNeg x) (3 : Int32).toNatClampNeg x) (4 : Int32).toNatClampNeg x) (5 : Int32).toNatClampNeg x)))) := by rw [ef15, e13, bx_uu]
  have h17 : f15 na = some (.inl (cI G, 6, .inl (upd (upd (upd (upd (upd (upd gx (0 : Int32).toNatClampNeg x) (1 : Int32).toNatClampNeg x) (2 : Int32).toNatClampNeg x) (3 : Int32).toNatClampNeg x) (4 : Int32).toNatClampNeg x) (5 : Int32).toNatClampNeg x))) := by rw [ef15, va_up_self]
  refine lv_iinc (v := 6) (lv' := [(2, .int 6), (3, .int 6), (0, .ref na), (1, .int x)]) hx hb dJ7_fill_53178_14 hl9 (k := 0) rfl (by decide) (by decide) rfl (fun ls hl9 => ?_)
  refine lv_goto (tgt := 5) hx hb dJ7_fill_53178_17 (by decide) ?_
  refine lv_iload_n hx hb dJ7_fill_53178_5 rfl (lv_at hl9 0 rfl) ?_
  refine lv_iload_n hx hb dJ7_fill_53178_6 rfl (lv_at hl9 1 rfl) ?_
  refine lv_icmp_ge (tgt := 20) hx hb dJ7_fill_53178_7 (by decide) (fun _ => ?_) (fun c9 => absurd (by decide) c9)
  exact hp_vret B0 hw hS hr ⟨Nat.le_of_ble_eq_true rfl, Nat.le_of_ble_eq_true rfl⟩ dJ7_fill_53178_20 (⟨rfl, by have h9 := h17; rw [fill6] at h9; exact h9, (show hKeep [na] f f15 from (by rw [e16]; exact hKeep.up (by simp))), (show NF f f15 from (by rw [e16]; exact NF.up (Nat.ne_of_beq_eq_false rfl)))⟩)

theorem fill3 (gx : Nat → Int32) (x : Int32) : (upd (upd (upd gx (0 : Int32).toNatClampNeg x) (1 : Int32).toNatClampNeg x) (2 : Int32).toNatClampNeg x) = (fun j => if j < 3 then x else gx j) := by
  funext j
  simp only [upd, cl0, cl1, cl2]
  by_cases h : j < 3
  · rw [if_pos h]
    rcases (show j = 0 ∨ j = 1 ∨ j = 2 by omega) with rfl | rfl | rfl <;> rfl
  · rw [if_neg h]
    rw [if_neg (show ¬ j = 2 by omega)]
    rw [if_neg (show ¬ j = 1 by omega)]
    rw [if_neg (show ¬ j = 0 by omega)]
set_option maxHeartbeats 4000000 in
set_option maxRecDepth 100000 in
theorem c_J7_fill3 {l : Launch} (hl : l.stackTraces = false) (G : hG) (f : hM) (na : Nat) (gx : Nat → Int32) (k_na : f na = some (.inl (cI G, 3, .inl gx))) (x : Int32) : CT l yJ7_fill_53178 (.code yJ7_fill_53178 cJ7_fill_53178 4 none) 0 0 0 0 G [.ref na, .int x] f (fun v f1 => v = none ∧ f1 na = some (.inl (cI G, 3, .inl (fun j => if j < 3 then x else gx j))) ∧ hKeep [na] f f1 ∧ NF f f1) (fun E f1 => False) := by
  refine hp_start hl (own := RJ7) (by decide) rfl (Nat.le_of_ble_eq_true rfl) ?_
  intro p e s m args below meth c B0 hr hnm hout hw hS ls hl9
  have hx := B0.1
  have hb := B0.2.1
  have hl9 : lv_has ls 4 [(0, .ref na), (1, .int x)] := hl9
  refine lv_iconst (v := 0) hx hb dJ7_fill_53178_0 (by decide) ?_
  refine lv_istore_n (lv' := [(2, .int 0), (0, .ref na), (1, .int x)]) hx hb dJ7_fill_53178_1 rfl hl9 (by decide) rfl (fun ls hl9 => ?_)
  refine lv_aload_n hx hb dJ7_fill_53178_2 rfl (lv_at hl9 1 rfl) ?_
  refine hp_alenI B0 hw k_na (v := 3) (by decide) dJ7_fill_53178_3 ?_
  refine lv_istore_n (lv' := [(3, .int 3), (2, .int 0), (0, .ref na), (1, .int x)]) hx hb dJ7_fill_53178_4 rfl hl9 (by decide) rfl (fun ls hl9 => ?_)
  refine lv_iload_n hx hb dJ7_fill_53178_5 rfl (lv_at hl9 1 rfl) ?_
  refine lv_iload_n hx hb dJ7_fill_53178_6 rfl (lv_at hl9 0 rfl) ?_
  refine lv_icmp_ge (tgt := 20) hx hb dJ7_fill_53178_7 (by decide) (fun c9 => absurd c9 (by decide)) (fun _ => ?_)
  refine lv_aload_n hx hb dJ7_fill_53178_10 rfl (lv_at hl9 2 rfl) ?_
  refine lv_iload_n hx hb dJ7_fill_53178_11 rfl (lv_at hl9 1 rfl) ?_
  refine lv_iload_n hx hb dJ7_fill_53178_12 rfl (lv_at hl9 3 rfl) ?_
  refine hp_iast B0 hw hS k_na (by unfold vp_in; decide) dJ7_fill_53178_13 (fun H locs f1 ef1 hw hS => ?_)
  have h2 : f1 na = some (.inl (cI G, 3, .inl (upd gx (0 : Int32).toNatClampNeg x))) := by rw [ef1, va_up_self]
  refine lv_iinc (v := 1) (lv' := [(2, .int 1), (3, .int 3), (0, .ref na), (1, .int x)]) hx hb dJ7_fill_53178_14 hl9 (k := 1) rfl (by decide) (by decide) rfl (fun ls hl9 => ?_)
  refine lv_goto (tgt := 5) hx hb dJ7_fill_53178_17 (by decide) ?_
  refine lv_iload_n hx hb dJ7_fill_53178_5 rfl (lv_at hl9 0 rfl) ?_
  refine lv_iload_n hx hb dJ7_fill_53178_6 rfl (lv_at hl9 1 rfl) ?_
  refine lv_icmp_ge (tgt := 20) hx hb dJ7_fill_53178_7 (by decide) (fun c9 => absurd c9 (by decide)) (fun _ => ?_)
  refine lv_aload_n hx hb dJ7_fill_53178_10 rfl (lv_at hl9 2 rfl) ?_
  refine lv_iload_n hx hb dJ7_fill_53178_11 rfl (lv_at hl9 0 rfl) ?_
  refine lv_iload_n hx hb dJ7_fill_53178_12 rfl (lv_at hl9 3 rfl) ?_
  refine hp_iast B0 hw hS h2 (by unfold vp_in; decide) dJ7_fill_53178_13 (fun H locs f3 ef3 hw hS => ?_)
  have e4 : f3 = va_up f na (some (.inl (cI G, 3, .inl (upd (upd gx (0 : Int32).toNatClampNeg x) (1 : Int32).toNatClampNeg x)))) := by rw [ef3, ef1, bx_uu]
  have h5 : f3 na = some (.inl (cI G, 3, .inl (upd (upd gx (0 : Int32).toNatClampNeg x) (1 : Int32).toNatClampNeg x))) := by rw [ef3, va_up_self]
  refine lv_iinc (v := 2) (lv' := [(2, .int 2), (3, .int 3), (0, .ref na), (1, .int x)]) hx hb dJ7_fill_53178_14 hl9 (k := 0) rfl (by decide) (by decide) rfl (fun ls hl9 => ?_)
  refine lv_goto (tgt := 5) hx hb dJ7_fill_53178_17 (by decide) ?_
  refine lv_iload_n hx hb dJ7_fill_53178_5 rfl (lv_at hl9 0 rfl) ?_
  refine lv_iload_n hx hb dJ7_fill_53178_6 rfl (lv_at hl9 1 rfl) ?_
  refine lv_icmp_ge (tgt := 20) hx hb dJ7_fill_53178_7 (by decide) (fun c9 => absurd c9 (by decide)) (fun _ => ?_)
  refine lv_aload_n hx hb dJ7_fill_53178_10 rfl (lv_at hl9 2 rfl) ?_
  refine lv_iload_n hx hb dJ7_fill_53178_11 rfl (lv_at hl9 0 rfl) ?_
  refine lv_iload_n hx hb dJ7_fill_53178_12 rfl (lv_at hl9 3 rfl) ?_
  refine hp_iast B0 hw hS h5 (by unfold vp_in; decide) dJ7_fill_53178_13 (fun H locs f6 ef6 hw hS => ?_)
  have e7 : f6 = va_up f na (some (.inl (cI G, 3, .inl (upd (upd (upd gx (0 : Int32).toNatClampNeg x) (1 : Int32).toNatClampNeg x) (2 : Int32).toNatClampNeg x)))) := by rw [ef6, e4, bx_uu]
  have h8 : f6 na = some (.inl (cI G, 3, .inl (upd (upd (upd gx (0 : Int32).toNatClampNeg x) (1 : Int32).toNatClampNeg x) (2 : Int32).toNatClampNeg x))) := by rw [ef6, va_up_self]
  refine lv_iinc (v := 3) (lv' := [(2, .int 3), (3, .int 3), (0, .ref na), (1, .int x)]) hx hb dJ7_fill_53178_14 hl9 (k := 0) rfl (by decide) (by decide) rfl (fun ls hl9 => ?_)
  refine lv_goto (tgt := 5) hx hb dJ7_fill_53178_17 (by decide) ?_
  refine lv_iload_n hx hb dJ7_fill_53178_5 rfl (lv_at hl9 0 rfl) ?_
  refine lv_iload_n hx hb dJ7_fill_53178_6 rfl (lv_at hl9 1 rfl) ?_
  refine lv_icmp_ge (tgt := 20) hx hb dJ7_fill_53178_7 (by decide) (fun _ => ?_) (fun c9 => absurd (by decide) c9)
  exact hp_vret B0 hw hS hr ⟨Nat.le_of_ble_eq_true rfl, Nat.le_of_ble_eq_true rfl⟩ dJ7_fill_53178_20 (⟨rfl, by have h9 := h8; rw [fill3] at h9; exact h9, (show hKeep [na] f f6 from (by rw [e7]; exact hKeep.up (by simp))), (show NF f f6 from (by rw [e7]; exact NF.up (Nat.ne_of_beq_eq_false rfl)))⟩)

set_option maxHeartbeats 4000000 in
set_option maxRecDepth 100000 in
theorem c_X1_init {l : Launch} (hl : l.stackTraces = false) (G : hG) (f : hM) (en : Nat) (x : Int32) (k_en : f en = some (.inr (1, [.null, .null, .null, .null, .int 0, .int 0, .int 0, .int 0, .int 0, .int 0, .int 0]))) : CT l yX1_init (.code yX1_init cX1_init 2 none) 2 33 4 21 G [.ref en, .int x] f (fun v f1 => v = none ∧ ∃ nw na nq nr : Nat, f nw = none ∧ f na = none ∧ f nq = none ∧ f nr = none ∧ f1 en = some (.inr (1, [.ref nw, .ref na, .ref nq, .ref nr, .int x, .int 0, .int 0, .int 0, .int (-1), .int 0, .int 0])) ∧ f1 nw = some (.inl (cI G, 6, .inl (fun j => if j < 6 then (-1) else (fun _ => 0) j))) ∧ f1 na = some (.inl (cI G, 6, .inl (fun _ => 0))) ∧ f1 nq = some (.inl (cI G, 6, .inl (fun j => if j < 6 then (-1) else (fun _ => 0) j))) ∧ f1 nr = some (.inr (3, [.null, .null, .int 0])) ∧ nw ≠ na ∧ nw ≠ nq ∧ na ≠ nq ∧ hKeep [en] f f1 ∧ NF f f1) (fun E f1 => False) := by
  refine hp_start hl (own := RX1) (by decide) rfl (Nat.le_of_ble_eq_true rfl) ?_
  intro p e s m args below meth c B0 hr hnm hout hw hS ls hl9
  have hx := B0.1
  have hb := B0.2.1
  have hl9 : lv_has ls 2 [(0, .ref en), (1, .int x)] := hl9
  refine lv_aload_n hx hb dX1_init_0 rfl (lv_at hl9 0 rfl) ?_
  refine W.objInit hx hb B0.2.2.2.1 (B0.2.2.2.2.1 _ qM_X1_3) (B0.2.2.2.2.1 _ qi_obj) (B0.2.2.2.2.1 _ qc_obj) rfl (by rw [B0.2.2.1]; exact hl9.1) rfl dX1_init_1 (Nat.le_of_ble_eq_true rfl) (Nat.le_of_ble_eq_true rfl) ?_
  refine W.eq (g2 := F0 m 4 ls []) rfl ?_
  refine lv_aload_n hx hb dX1_init_4 rfl (lv_at hl9 0 rfl) ?_
  refine lv_bipush (v := 6) hx hb dX1_init_5 (by decide) ?_
  refine hp_newaI (N' := 6) B0 hw hS qA_int (by decide) (by decide) (Nat.le_of_ble_eq_true rfl) (Nat.le_of_ble_eq_true rfl) (Nat.le_of_ble_eq_true rfl) dX1_init_7 (fun q1 H f3 w2 ef3 hw hS => ?_)
  have h4 : f3 q1 = some (.inl (cI G, 6, .inl (fun _ => 0))) := by rw [ef3, va_up_self]
  have h5 : f3 en = some (.inr (1, [.null, .null, .null, .null, .int 0, .int 0, .int 0, .int 0, .int 0, .int 0, .int 0])) := by rw [ef3, va_up_ne _ _ (hnew k_en w2)]; exact k_en
  refine hp_putF (fs1 := [.ref q1, .null, .null, .null, .int 0, .int 0, .int 0, .int 0, .int 0, .int 0, .int 0]) (ty := .array .int) B0 hw hS 1 rfl in_X1 tyX1 tyX1_ok nmX1 h5 0 (by decide) qF_X1_9 rfl hnm rfl (by decide +kernel) rfl rfl (Nat.le_of_ble_eq_true rfl) rfl dX1_init_9 (fun H locs f6 ef6 hw hS => ?_)
  have h7 : f6 en = some (.inr (1, [.ref q1, .null, .null, .null, .int 0, .int 0, .int 0, .int 0, .int 0, .int 0, .int 0])) := by rw [ef6, va_up_self]
  refine lv_aload_n hx hb dX1_init_12 rfl (lv_at hl9 0 rfl) ?_
  refine lv_bipush (v := 6) hx hb dX1_init_13 (by decide) ?_
  refine hp_newaI (N' := 6) B0 hw hS qA_int (by decide) (by decide) (Nat.le_of_ble_eq_true rfl) (Nat.le_of_ble_eq_true rfl) (Nat.le_of_ble_eq_true rfl) dX1_init_15 (fun q8 H f10 w9 ef10 hw hS => ?_)
  have h11 : f10 q8 = some (.inl (cI G, 6, .inl (fun _ => 0))) := by rw [ef10, va_up_self]
  have h12 : f10 en = some (.inr (1, [.ref q1, .null, .null, .null, .int 0, .int 0, .int 0, .int 0, .int 0, .int 0, .int 0])) := by rw [ef10, va_up_ne _ _ (hnew h7 w9)]; exact h7
  refine hp_putF (fs1 := [.ref q1, .ref q8, .null, .null, .int 0, .int 0, .int 0, .int 0, .int 0, .int 0, .int 0]) (ty := .array .int) B0 hw hS 1 rfl in_X1 tyX1 tyX1_ok nmX1 h12 1 (by decide) qF_X1_15 rfl hnm rfl (by decide +kernel) rfl rfl (Nat.le_of_ble_eq_true rfl) rfl dX1_init_17 (fun H locs f13 ef13 hw hS => ?_)
  have h14 : f13 en = some (.inr (1, [.ref q1, .ref q8, .null, .null, .int 0, .int 0, .int 0, .int 0, .int 0, .int 0, .int 0])) := by rw [ef13, va_up_self]
  refine lv_aload_n hx hb dX1_init_20 rfl (lv_at hl9 0 rfl) ?_
  refine lv_bipush (v := 6) hx hb dX1_init_21 (by decide) ?_
  refine hp_newaI (N' := 6) B0 hw hS qA_int (by decide) (by decide) (Nat.le_of_ble_eq_true rfl) (Nat.le_of_ble_eq_true rfl) (Nat.le_of_ble_eq_true rfl) dX1_init_23 (fun q15 H f17 w16 ef17 hw hS => ?_)
  have h18 : f17 q15 = some (.inl (cI G, 6, .inl (fun _ => 0))) := by rw [ef17, va_up_self]
  have h19 : f17 en = some (.inr (1, [.ref q1, .ref q8, .null, .null, .int 0, .int 0, .int 0, .int 0, .int 0, .int 0, .int 0])) := by rw [ef17, va_up_ne _ _ (hnew h14 w16)]; exact h14
  refine hp_putF (fs1 := [.ref q1, .ref q8, .ref q15, .null, .int 0, .int 0, .int 0, .int 0, .int 0, .int 0, .int 0]) (ty := .array .int) B0 hw hS 1 rfl in_X1 tyX1 tyX1_ok nmX1 h19 2 (by decide) qF_X1_18 rfl hnm rfl (by decide +kernel) rfl rfl (Nat.le_of_ble_eq_true rfl) rfl dX1_init_25 (fun H locs f20 ef20 hw hS => ?_)
  have h21 : f20 en = some (.inr (1, [.ref q1, .ref q8, .ref q15, .null, .int 0, .int 0, .int 0, .int 0, .int 0, .int 0, .int 0])) := by rw [ef20, va_up_self]
  refine lv_aload_n hx hb dX1_init_28 rfl (lv_at hl9 0 rfl) ?_
  refine hp_new (fs := [.null, .null, .int 0]) B0 hw hS 3 rfl in_X3 tyX3 tyX3_ok qC_X1_21 qI_X3 qN_X3 (fun j hj => by rcases (show j = 0 ∨ j = 1 ∨ j = 2 by omega) with rfl | rfl | rfl <;> rfl) (Nat.le_of_ble_eq_true rfl) (Nat.le_of_ble_eq_true rfl) dX1_init_29 (fun q22 H f24 w23 ef24 hw hS => ?_)
  have h25 : f24 q22 = some (.inr (3, [.null, .null, .int 0])) := by rw [ef24, va_up_self]
  refine lv_dup hx hb dX1_init_32 rfl ?_
  refine hp_IN (As := []) (rest := [.ref q22, .ref en]) (b := q22) B0 hw hS (c_X3_init hl G f24 q22 h25) mI_X3_init oM_X1_23 rfl rfl hl9.1 (Nat.le_of_ble_eq_true rfl) ⟨⟨Nat.le_of_ble_eq_true rfl, Nat.le_of_ble_eq_true rfl⟩, Nat.le_of_ble_eq_true rfl, Nat.le_of_ble_eq_true rfl⟩ dX1_init_33 (fun E ce q9 f26 H locs hPX hw hS hce hcv hcl => ?_) (fun v f26 H locs hP hw hS => ?_)
  · exact hPX.elim
  · obtain ⟨ev9, ef9⟩ := hP
    rw [ef9] at hw
    subst ev9
    refine W.eq (g2 := F0 m 36 ls [.ref q22, .ref en]) rfl ?_
    have h27 : f24 en = some (.inr (1, [.ref q1, .ref q8, .ref q15, .null, .int 0, .int 0, .int 0, .int 0, .int 0, .int 0, .int 0])) := by rw [ef24, va_up_ne _ _ (hnew h21 w23)]; exact h21
    refine hp_putF (fs1 := [.ref q1, .ref q8, .ref q15, .ref q22, .int 0, .int 0, .int 0, .int 0, .int 0, .int 0, .int 0]) (ty := .object "OptionLine$FrameRow") B0 hw hS 1 rfl in_X1 tyX1 tyX1_ok nmX1 h27 3 (by decide) qF_X1_24 rfl hnm rfl (by decide +kernel) rfl rfl (Nat.le_of_ble_eq_true rfl) rfl dX1_init_36 (fun H locs f28 ef28 hw hS => ?_)
    have h29 : f28 en = some (.inr (1, [.ref q1, .ref q8, .ref q15, .ref q22, .int 0, .int 0, .int 0, .int 0, .int 0, .int 0, .int 0])) := by rw [ef28, va_up_self]
    refine lv_aload_n hx hb dX1_init_39 rfl (lv_at hl9 0 rfl) ?_
    refine lv_iconst (v := 0) hx hb dX1_init_40 (by decide) ?_
    refine hp_put (fs1 := [.ref q1, .ref q8, .ref q15, .ref q22, .int 0, .int 0, .int 0, .int 0, .int 0, .int 0, .int 0]) (ty := .int) B0 hw hS 1 rfl in_X1 tyX1 tyX1_ok nmX1 h29 5 (by decide) qF_X1_28 rfl (by decide +kernel) rfl rfl (Nat.le_of_ble_eq_true rfl) rfl dX1_init_41 (fun H locs f30 ef30 hw hS => ?_)
    have e31 : f30 = va_up f24 en (some (.inr (1, [.ref q1, .ref q8, .ref q15, .ref q22, .int 0, .int 0, .int 0, .int 0, .int 0, .int 0, .int 0]))) := by rw [ef30, ef28, bx_uu]
    have h32 : f30 en = some (.inr (1, [.ref q1, .ref q8, .ref q15, .ref q22, .int 0, .int 0, .int 0, .int 0, .int 0, .int 0, .int 0])) := by rw [ef30, va_up_self]
    refine lv_aload_n hx hb dX1_init_44 rfl (lv_at hl9 0 rfl) ?_
    refine lv_iconst (v := 0) hx hb dX1_init_45 (by decide) ?_
    refine hp_put (fs1 := [.ref q1, .ref q8, .ref q15, .ref q22, .int 0, .int 0, .int 0, .int 0, .int 0, .int 0, .int 0]) (ty := .int) B0 hw hS 1 rfl in_X1 tyX1 tyX1_ok nmX1 h32 6 (by decide) qF_X1_32 rfl (by decide +kernel) rfl rfl (Nat.le_of_ble_eq_true rfl) rfl dX1_init_46 (fun H locs f33 ef33 hw hS => ?_)
    have e34 : f33 = va_up f24 en (some (.inr (1, [.ref q1, .ref q8, .ref q15, .ref q22, .int 0, .int 0, .int 0, .int 0, .int 0, .int 0, .int 0]))) := by rw [ef33, e31, bx_uu]
    have h35 : f33 en = some (.inr (1, [.ref q1, .ref q8, .ref q15, .ref q22, .int 0, .int 0, .int 0, .int 0, .int 0, .int 0, .int 0])) := by rw [ef33, va_up_self]
    refine lv_aload_n hx hb dX1_init_49 rfl (lv_at hl9 0 rfl) ?_
    refine lv_iconst (v := 0) hx hb dX1_init_50 (by decide) ?_
    refine hp_put (fs1 := [.ref q1, .ref q8, .ref q15, .ref q22, .int 0, .int 0, .int 0, .int 0, .int 0, .int 0, .int 0]) (ty := .int) B0 hw hS 1 rfl in_X1 tyX1 tyX1_ok nmX1 h35 7 (by decide) qF_X1_35 rfl (by decide +kernel) rfl rfl (Nat.le_of_ble_eq_true rfl) rfl dX1_init_51 (fun H locs f36 ef36 hw hS => ?_)
    have e37 : f36 = va_up f24 en (some (.inr (1, [.ref q1, .ref q8, .ref q15, .ref q22, .int 0, .int 0, .int 0, .int 0, .int 0, .int 0, .int 0]))) := by rw [ef36, e34, bx_uu]
    have h38 : f36 en = some (.inr (1, [.ref q1, .ref q8, .ref q15, .ref q22, .int 0, .int 0, .int 0, .int 0, .int 0, .int 0, .int 0])) := by rw [ef36, va_up_self]
    refine lv_aload_n hx hb dX1_init_54 rfl (lv_at hl9 0 rfl) ?_
    refine lv_iconst (v := (-1)) hx hb dX1_init_55 (by decide) ?_
    refine hp_put (fs1 := [.ref q1, .ref q8, .ref q15, .ref q22, .int 0, .int 0, .int 0, .int 0, .int (-1), .int 0, .int 0]) (ty := .int) B0 hw hS 1 rfl in_X1 tyX1 tyX1_ok nmX1 h38 8 (by decide) qF_X1_38 rfl (by decide +kernel) rfl rfl (Nat.le_of_ble_eq_true rfl) rfl dX1_init_56 (fun H locs f39 ef39 hw hS => ?_)
    have e40 : f39 = va_up f24 en (some (.inr (1, [.ref q1, .ref q8, .ref q15, .ref q22, .int 0, .int 0, .int 0, .int 0, .int (-1), .int 0, .int 0]))) := by rw [ef39, e37, bx_uu]
    have h41 : f39 en = some (.inr (1, [.ref q1, .ref q8, .ref q15, .ref q22, .int 0, .int 0, .int 0, .int 0, .int (-1), .int 0, .int 0])) := by rw [ef39, va_up_self]
    refine lv_aload_n hx hb dX1_init_59 rfl (lv_at hl9 0 rfl) ?_
    refine lv_iconst (v := 0) hx hb dX1_init_60 (by decide) ?_
    refine hp_put (fs1 := [.ref q1, .ref q8, .ref q15, .ref q22, .int 0, .int 0, .int 0, .int 0, .int (-1), .int 0, .int 0]) (ty := .boolean) B0 hw hS 1 rfl in_X1 tyX1 tyX1_ok nmX1 h41 9 (by decide) qF_X1_41 rfl (by decide +kernel) rfl rfl (Nat.le_of_ble_eq_true rfl) rfl dX1_init_61 (fun H locs f42 ef42 hw hS => ?_)
    have e43 : f42 = va_up f24 en (some (.inr (1, [.ref q1, .ref q8, .ref q15, .ref q22, .int 0, .int 0, .int 0, .int 0, .int (-1), .int 0, .int 0]))) := by rw [ef42, e40, bx_uu]
    have h44 : f42 en = some (.inr (1, [.ref q1, .ref q8, .ref q15, .ref q22, .int 0, .int 0, .int 0, .int 0, .int (-1), .int 0, .int 0])) := by rw [ef42, va_up_self]
    refine lv_aload_n hx hb dX1_init_64 rfl (lv_at hl9 0 rfl) ?_
    refine lv_iconst (v := 0) hx hb dX1_init_65 (by decide) ?_
    refine hp_put (fs1 := [.ref q1, .ref q8, .ref q15, .ref q22, .int 0, .int 0, .int 0, .int 0, .int (-1), .int 0, .int 0]) (ty := .int) B0 hw hS 1 rfl in_X1 tyX1 tyX1_ok nmX1 h44 10 (by decide) qF_X1_45 rfl (by decide +kernel) rfl rfl (Nat.le_of_ble_eq_true rfl) rfl dX1_init_66 (fun H locs f45 ef45 hw hS => ?_)
    have e46 : f45 = va_up f24 en (some (.inr (1, [.ref q1, .ref q8, .ref q15, .ref q22, .int 0, .int 0, .int 0, .int 0, .int (-1), .int 0, .int 0]))) := by rw [ef45, e43, bx_uu]
    have h47 : f45 en = some (.inr (1, [.ref q1, .ref q8, .ref q15, .ref q22, .int 0, .int 0, .int 0, .int 0, .int (-1), .int 0, .int 0])) := by rw [ef45, va_up_self]
    refine lv_aload_n hx hb dX1_init_69 rfl (lv_at hl9 0 rfl) ?_
    refine lv_iload_n hx hb dX1_init_70 rfl (lv_at hl9 1 rfl) ?_
    refine hp_put (fs1 := [.ref q1, .ref q8, .ref q15, .ref q22, .int x, .int 0, .int 0, .int 0, .int (-1), .int 0, .int 0]) (ty := .int) B0 hw hS 1 rfl in_X1 tyX1 tyX1_ok nmX1 h47 4 (by decide) qF_X1_48 rfl (by decide +kernel) rfl rfl (Nat.le_of_ble_eq_true rfl) rfl dX1_init_71 (fun H locs f48 ef48 hw hS => ?_)
    have e49 : f48 = va_up f24 en (some (.inr (1, [.ref q1, .ref q8, .ref q15, .ref q22, .int x, .int 0, .int 0, .int 0, .int (-1), .int 0, .int 0]))) := by rw [ef48, e46, bx_uu]
    have h50 : f48 en = some (.inr (1, [.ref q1, .ref q8, .ref q15, .ref q22, .int x, .int 0, .int 0, .int 0, .int (-1), .int 0, .int 0])) := by rw [ef48, va_up_self]
    refine lv_aload_n hx hb dX1_init_74 rfl (lv_at hl9 0 rfl) ?_
    refine hp_get B0 hw 1 rfl in_X1 h50 0 (by decide) qF_X1_9 rfl dX1_init_75 ?_
    refine lv_iconst (v := (-1)) hx hb dX1_init_78 (by decide) ?_
    have n52 : en ≠ q1 := hnew k_en w2
    have h51 : f6 q1 = some (.inl (cI G, 6, .inl (fun _ => 0))) := by rw [ef6, va_up_ne _ _ (Ne.symm n52)]; exact h4
    have h53 : f10 q1 = some (.inl (cI G, 6, .inl (fun _ => 0))) := by rw [ef10, va_up_ne _ _ (hnew h51 w9)]; exact h51
    have h54 : f13 q1 = some (.inl (cI G, 6, .inl (fun _ => 0))) := by rw [ef13, va_up_ne _ _ (Ne.symm n52)]; exact h53
    have h55 : f17 q1 = some (.inl (cI G, 6, .inl (fun _ => 0))) := by rw [ef17, va_up_ne _ _ (hnew h54 w16)]; exact h54
    have h56 : f20 q1 = some (.inl (cI G, 6, .inl (fun _ => 0))) := by rw [ef20, va_up_ne _ _ (Ne.symm n52)]; exact h55
    have h57 : f24 q1 = some (.inl (cI G, 6, .inl (fun _ => 0))) := by rw [ef24, va_up_ne _ _ (hnew h56 w23)]; exact h56
    have h58 : f48 q1 = some (.inl (cI G, 6, .inl (fun _ => 0))) := by rw [e49, va_up_ne _ _ (Ne.symm n52)]; exact h57
    refine hp_S (As := [.ref q1, .int (-1)]) (rest := []) B0 hw hS (c_J7_fill6 hl G f48 q1 (fun _ => 0) h58 (-1)) mS_J7_fill_53178 qM_X1_51 rfl rfl hl9.1 (Nat.le_of_ble_eq_true rfl) ⟨⟨Nat.le_of_ble_eq_true rfl, Nat.le_of_ble_eq_true rfl⟩, Nat.le_of_ble_eq_true rfl, Nat.le_of_ble_eq_true rfl⟩ dX1_init_79 (fun E ce q9 f59 H locs hPX hw hS hce hcv hcl => ?_) (fun v f59 H locs hP hw hS => ?_)
    · exact hPX.elim
    · obtain ⟨ev9, h60, k61, z62⟩ := hP
      subst ev9
      refine W.eq (g2 := F0 m 82 ls []) rfl ?_
      refine lv_aload_n hx hb dX1_init_82 rfl (lv_at hl9 0 rfl) ?_
      have h63 : f59 en = some (.inr (1, [.ref q1, .ref q8, .ref q15, .ref q22, .int x, .int 0, .int 0, .int 0, .int (-1), .int 0, .int 0])) := k61 _ _ h50 (ninc n52 nin0)
      refine hp_get B0 hw 1 rfl in_X1 h63 2 (by decide) qF_X1_18 rfl dX1_init_83 ?_
      refine lv_iconst (v := (-1)) hx hb dX1_init_86 (by decide) ?_
      have n65 : en ≠ q15 := hnew h14 w16
      have h64 : f20 q15 = some (.inl (cI G, 6, .inl (fun _ => 0))) := by rw [ef20, va_up_ne _ _ (Ne.symm n65)]; exact h18
      have h66 : f24 q15 = some (.inl (cI G, 6, .inl (fun _ => 0))) := by rw [ef24, va_up_ne _ _ (hnew h64 w23)]; exact h64
      have h67 : f48 q15 = some (.inl (cI G, 6, .inl (fun _ => 0))) := by rw [e49, va_up_ne _ _ (Ne.symm n65)]; exact h66
      have n69 : q1 ≠ q15 := hnew h54 w16
      have h68 : f59 q15 = some (.inl (cI G, 6, .inl (fun _ => 0))) := k61 _ _ h67 (ninc (Ne.symm n69) nin0)
      refine hp_S (As := [.ref q15, .int (-1)]) (rest := []) B0 hw hS (c_J7_fill6 hl G f59 q15 (fun _ => 0) h68 (-1)) mS_J7_fill_53178 qM_X1_51 rfl rfl hl9.1 (Nat.le_of_ble_eq_true rfl) ⟨⟨Nat.le_of_ble_eq_true rfl, Nat.le_of_ble_eq_true rfl⟩, Nat.le_of_ble_eq_true rfl, Nat.le_of_ble_eq_true rfl⟩ dX1_init_87 (fun E ce q9 f70 H locs hPX hw hS hce hcv hcl => ?_) (fun v f70 H locs hP hw hS => ?_)
      · exact hPX.elim
      · obtain ⟨ev9, h71, k72, z73⟩ := hP
        subst ev9
        refine W.eq (g2 := F0 m 90 ls []) rfl ?_
        have h74 : f70 en = some (.inr (1, [.ref q1, .ref q8, .ref q15, .ref q22, .int x, .int 0, .int 0, .int 0, .int (-1), .int 0, .int 0])) := k72 _ _ h63 (ninc n65 nin0)
        have h75 : f70 q1 = some (.inl (cI G, 6, .inl (fun j => if j < 6 then (-1) else (fun _ => 0) j))) := k72 _ _ h60 (ninc n69 nin0)
        have n77 : en ≠ q8 := hnew h7 w9
        have h76 : f13 q8 = some (.inl (cI G, 6, .inl (fun _ => 0))) := by rw [ef13, va_up_ne _ _ (Ne.symm n77)]; exact h11
        have h78 : f17 q8 = some (.inl (cI G, 6, .inl (fun _ => 0))) := by rw [ef17, va_up_ne _ _ (hnew h76 w16)]; exact h76
        have h79 : f20 q8 = some (.inl (cI G, 6, .inl (fun _ => 0))) := by rw [ef20, va_up_ne _ _ (Ne.symm n77)]; exact h78
        have h80 : f24 q8 = some (.inl (cI G, 6, .inl (fun _ => 0))) := by rw [ef24, va_up_ne _ _ (hnew h79 w23)]; exact h79
        have h81 : f48 q8 = some (.inl (cI G, 6, .inl (fun _ => 0))) := by rw [e49, va_up_ne _ _ (Ne.symm n77)]; exact h80
        have n83 : q1 ≠ q8 := hnew h51 w9
        have h82 : f59 q8 = some (.inl (cI G, 6, .inl (fun _ => 0))) := k61 _ _ h81 (ninc (Ne.symm n83) nin0)
        have n85 : q8 ≠ q15 := hnew h76 w16
        have h84 : f70 q8 = some (.inl (cI G, 6, .inl (fun _ => 0))) := k72 _ _ h82 (ninc n85 nin0)
        have n87 : en ≠ q22 := hnew h21 w23
        have h86 : f48 q22 = some (.inr (3, [.null, .null, .int 0])) := by rw [e49, va_up_ne _ _ (Ne.symm n87)]; exact h25
        have n89 : q1 ≠ q22 := hnew h56 w23
        have h88 : f59 q22 = some (.inr (3, [.null, .null, .int 0])) := k61 _ _ h86 (ninc (Ne.symm n89) nin0)
        have n91 : q15 ≠ q22 := hnew h64 w23
        have h90 : f70 q22 = some (.inr (3, [.null, .null, .int 0])) := k72 _ _ h88 (ninc (Ne.symm n91) nin0)
        have n92 : q8 ≠ q22 := hnew h79 w23
        exact hp_vret B0 hw hS hr ⟨Nat.le_of_ble_eq_true rfl, Nat.le_of_ble_eq_true rfl⟩ dX1_init_90 (⟨rfl, q1, q8, q15, q22, w2, (hKeep.none (hKeep.trn w2 ((show hKeep [q1, en, q1] f f3 from (by rw [ef3]; exact hKeep.up (by simp))).tr (show hKeep [q1, en, q1] f3 f6 from (by rw [ef6]; exact hKeep.up (by simp))))) w9 (ninc (Ne.symm n77) (ninc (Ne.symm n83) nin0))), (hKeep.none (hKeep.trn w2 ((show hKeep [q1, en, q1, q8] f f3 from (by rw [ef3]; exact hKeep.up (by simp))).tr ((show hKeep [q1, en, q1, q8] f3 f6 from (by rw [ef6]; exact hKeep.up (by simp))).tr (hKeep.trn w9 ((show hKeep [q8, q1, en, q1, q8] f6 f10 from (by rw [ef10]; exact hKeep.up (by simp))).tr (show hKeep [q8, q1, en, q1, q8] f10 f13 from (by rw [ef13]; exact hKeep.up (by simp)))))))) w16 (ninc (Ne.symm n65) (ninc (Ne.symm n69) (ninc (Ne.symm n85) nin0)))), (hKeep.none (hKeep.trn w2 ((show hKeep [q1, en, q1, q8, q15] f f3 from (by rw [ef3]; exact hKeep.up (by simp))).tr ((show hKeep [q1, en, q1, q8, q15] f3 f6 from (by rw [ef6]; exact hKeep.up (by simp))).tr (hKeep.trn w9 ((show hKeep [q8, q1, en, q1, q8, q15] f6 f10 from (by rw [ef10]; exact hKeep.up (by simp))).tr ((show hKeep [q8, q1, en, q1, q8, q15] f10 f13 from (by rw [ef13]; exact hKeep.up (by simp))).tr (hKeep.trn w16 ((show hKeep [q15, q8, q1, en, q1, q8, q15] f13 f17 from (by rw [ef17]; exact hKeep.up (by simp))).tr (show hKeep [q15, q8, q1, en, q1, q8, q15] f17 f20 from (by rw [ef20]; exact hKeep.up (by simp))))))))))) w23 (ninc (Ne.symm n87) (ninc (Ne.symm n89) (ninc (Ne.symm n92) (ninc (Ne.symm n91) nin0))))), h74, h75, h84, h71, h90, n83, n69, n85, (hKeep.trn w2 ((show hKeep [q1, en] f f3 from (by rw [ef3]; exact hKeep.up (by simp))).tr ((show hKeep [q1, en] f3 f6 from (by rw [ef6]; exact hKeep.up (by simp))).tr (hKeep.trn w9 ((show hKeep [q8, q1, en] f6 f10 from (by rw [ef10]; exact hKeep.up (by simp))).tr ((show hKeep [q8, q1, en] f10 f13 from (by rw [ef13]; exact hKeep.up (by simp))).tr (hKeep.trn w16 ((show hKeep [q15, q8, q1, en] f13 f17 from (by rw [ef17]; exact hKeep.up (by simp))).tr ((show hKeep [q15, q8, q1, en] f17 f20 from (by rw [ef20]; exact hKeep.up (by simp))).tr (hKeep.trn w23 ((show hKeep [q22, q15, q8, q1, en] f20 f24 from (by rw [ef24]; exact hKeep.up (by simp))).tr ((show hKeep [q22, q15, q8, q1, en] f24 f48 from (by rw [e49]; exact hKeep.up (by simp))).tr ((show hKeep [q22, q15, q8, q1, en] f48 f59 from (k61.mono (fun x9 hx9 => by simp only [List.mem_cons, List.not_mem_nil, or_false] at hx9 ⊢; omega))).tr (show hKeep [q22, q15, q8, q1, en] f59 f70 from (k72.mono (fun x9 hx9 => by simp only [List.mem_cons, List.not_mem_nil, or_false] at hx9 ⊢; omega)))))))))))))))), ((show NF f f3 from (by rw [ef3]; exact NF.up (Nat.ne_of_beq_eq_false rfl))).tr ((show NF f3 f6 from (by rw [ef6]; exact NF.up (Nat.ne_of_beq_eq_false rfl))).tr ((show NF f6 f10 from (by rw [ef10]; exact NF.up (Nat.ne_of_beq_eq_false rfl))).tr ((show NF f10 f13 from (by rw [ef13]; exact NF.up (Nat.ne_of_beq_eq_false rfl))).tr ((show NF f13 f17 from (by rw [ef17]; exact NF.up (Nat.ne_of_beq_eq_false rfl))).tr ((show NF f17 f20 from (by rw [ef20]; exact NF.up (Nat.ne_of_beq_eq_false rfl))).tr ((show NF f20 f24 from (by rw [ef24]; exact NF.up (Nat.ne_of_beq_eq_false rfl))).tr ((show NF f24 f48 from (by rw [e49]; exact NF.up (Nat.ne_of_beq_eq_false rfl))).tr (z62.tr z73)))))))))⟩)

set_option maxHeartbeats 4000000 in
set_option maxRecDepth 100000 in
theorem c_X0_init {l : Launch} (hl : l.stackTraces = false) (G : hG) (f : hM) (bu : Nat) (k_bu : f bu = some (.inr (0, [.null, .null, .null, .null, .null, .null, .int 0, .int 0, .int 0]))) : CT l yX0_init (.code yX0_init cX0_init 2 none) 1 23 6 607 G [.ref bu] f (fun v f1 => v = none ∧ ∃ bs bp bh bf bl bg : Nat, f bs = none ∧ f bp = none ∧ f bh = none ∧ f bf = none ∧ f bl = none ∧ f bg = none ∧ f1 bu = some (.inr (0, [.ref bs, .ref bp, .ref bh, .ref bf, .ref bl, .ref bg, .int 0, .int 0, .int 0])) ∧ f1 bs = some (.inl (cI G, 61, .inl (fun _ => 0))) ∧ f1 bp = some (.inl (cI G, 240, .inl (fun _ => 0))) ∧ f1 bh = some (.inl (cZ G, 240, .inl (fun _ => 0))) ∧ f1 bf = some (.inl (cI G, 3, .inl (upd (upd (upd (fun _ => 0) (0 : Int32).toNatClampNeg 0) (1 : Int32).toNatClampNeg 1) (2 : Int32).toNatClampNeg 2))) ∧ f1 bl = some (.inl (cI G, 3, .inl (fun j => if j < 3 then (-1) else (fun _ => 0) j))) ∧ f1 bg = some (.inl (cI G, 60, .inl (fun _ => 0))) ∧ bs ≠ bp ∧ bh ≠ bp ∧ bf ≠ bl ∧ hKeep [bu] f f1 ∧ NF f f1) (fun E f1 => False) := by
  refine hp_start hl (own := RX0) (by decide) rfl (Nat.le_of_ble_eq_true rfl) ?_
  intro p e s m args below meth c B0 hr hnm hout hw hS ls hl9
  have hx := B0.1
  have hb := B0.2.1
  have hl9 : lv_has ls 2 [(0, .ref bu)] := hl9
  refine lv_aload_n hx hb dX0_init_0 rfl (lv_at hl9 0 rfl) ?_
  refine W.objInit hx hb B0.2.2.2.1 (B0.2.2.2.2.1 _ qM_X0_3) (B0.2.2.2.2.1 _ qi_obj) (B0.2.2.2.2.1 _ qc_obj) rfl (by rw [B0.2.2.1]; exact hl9.1) rfl dX0_init_1 (Nat.le_of_ble_eq_true rfl) (Nat.le_of_ble_eq_true rfl) ?_
  refine W.eq (g2 := F0 m 4 ls []) rfl ?_
  refine lv_aload_n hx hb dX0_init_4 rfl (lv_at hl9 0 rfl) ?_
  refine lv_bipush (v := 61) hx hb dX0_init_5 (by decide) ?_
  refine hp_newaI (N' := 61) B0 hw hS qA_int (by decide) (by decide) (Nat.le_of_ble_eq_true rfl) (Nat.le_of_ble_eq_true rfl) (Nat.le_of_ble_eq_true rfl) dX0_init_7 (fun q1 H f3 w2 ef3 hw hS => ?_)
  have h4 : f3 q1 = some (.inl (cI G, 61, .inl (fun _ => 0))) := by rw [ef3, va_up_self]
  have h5 : f3 bu = some (.inr (0, [.null, .null, .null, .null, .null, .null, .int 0, .int 0, .int 0])) := by rw [ef3, va_up_ne _ _ (hnew k_bu w2)]; exact k_bu
  refine hp_putF (fs1 := [.ref q1, .null, .null, .null, .null, .null, .int 0, .int 0, .int 0]) (ty := .array .int) B0 hw hS 0 rfl in_X0 tyX0 tyX0_ok nmX0 h5 0 (by decide) qF_X0_9 rfl hnm rfl (by decide +kernel) rfl rfl (Nat.le_of_ble_eq_true rfl) rfl dX0_init_9 (fun H locs f6 ef6 hw hS => ?_)
  have h7 : f6 bu = some (.inr (0, [.ref q1, .null, .null, .null, .null, .null, .int 0, .int 0, .int 0])) := by rw [ef6, va_up_self]
  refine lv_aload_n hx hb dX0_init_12 rfl (lv_at hl9 0 rfl) ?_
  refine lv_sipush (v := 240) hx hb dX0_init_13 (by decide) ?_
  refine hp_newaI (N' := 240) B0 hw hS qA_int (by decide) (by decide) (Nat.le_of_ble_eq_true rfl) (Nat.le_of_ble_eq_true rfl) (Nat.le_of_ble_eq_true rfl) dX0_init_16 (fun q8 H f10 w9 ef10 hw hS => ?_)
  have h11 : f10 q8 = some (.inl (cI G, 240, .inl (fun _ => 0))) := by rw [ef10, va_up_self]
  have h12 : f10 bu = some (.inr (0, [.ref q1, .null, .null, .null, .null, .null, .int 0, .int 0, .int 0])) := by rw [ef10, va_up_ne _ _ (hnew h7 w9)]; exact h7
  refine hp_putF (fs1 := [.ref q1, .ref q8, .null, .null, .null, .null, .int 0, .int 0, .int 0]) (ty := .array .int) B0 hw hS 0 rfl in_X0 tyX0 tyX0_ok nmX0 h12 1 (by decide) qF_X0_15 rfl hnm rfl (by decide +kernel) rfl rfl (Nat.le_of_ble_eq_true rfl) rfl dX0_init_18 (fun H locs f13 ef13 hw hS => ?_)
  have h14 : f13 bu = some (.inr (0, [.ref q1, .ref q8, .null, .null, .null, .null, .int 0, .int 0, .int 0])) := by rw [ef13, va_up_self]
  refine lv_aload_n hx hb dX0_init_21 rfl (lv_at hl9 0 rfl) ?_
  refine lv_sipush (v := 240) hx hb dX0_init_22 (by decide) ?_
  refine hp_newaZ (N' := 240) B0 hw hS qA_boolean (by decide) (by decide) (Nat.le_of_ble_eq_true rfl) (Nat.le_of_ble_eq_true rfl) (Nat.le_of_ble_eq_true rfl) dX0_init_25 (fun q15 H f17 w16 ef17 hw hS => ?_)
  have h18 : f17 q15 = some (.inl (cZ G, 240, .inl (fun _ => 0))) := by rw [ef17, va_up_self]
  have h19 : f17 bu = some (.inr (0, [.ref q1, .ref q8, .null, .null, .null, .null, .int 0, .int 0, .int 0])) := by rw [ef17, va_up_ne _ _ (hnew h14 w16)]; exact h14
  refine hp_putF (fs1 := [.ref q1, .ref q8, .ref q15, .null, .null, .null, .int 0, .int 0, .int 0]) (ty := .array .boolean) B0 hw hS 0 rfl in_X0 tyX0 tyX0_ok nmX0 h19 2 (by decide) qF_X0_18 rfl hnm rfl (by decide +kernel) rfl rfl (Nat.le_of_ble_eq_true rfl) rfl dX0_init_27 (fun H locs f20 ef20 hw hS => ?_)
  have h21 : f20 bu = some (.inr (0, [.ref q1, .ref q8, .ref q15, .null, .null, .null, .int 0, .int 0, .int 0])) := by rw [ef20, va_up_self]
  refine lv_aload_n hx hb dX0_init_30 rfl (lv_at hl9 0 rfl) ?_
  refine lv_iconst (v := 3) hx hb dX0_init_31 (by decide) ?_
  refine hp_newaI (N' := 3) B0 hw hS qA_int (by decide) (by decide) (Nat.le_of_ble_eq_true rfl) (Nat.le_of_ble_eq_true rfl) (Nat.le_of_ble_eq_true rfl) dX0_init_32 (fun q22 H f24 w23 ef24 hw hS => ?_)
  have h25 : f24 q22 = some (.inl (cI G, 3, .inl (fun _ => 0))) := by rw [ef24, va_up_self]
  have h26 : f24 bu = some (.inr (0, [.ref q1, .ref q8, .ref q15, .null, .null, .null, .int 0, .int 0, .int 0])) := by rw [ef24, va_up_ne _ _ (hnew h21 w23)]; exact h21
  refine hp_putF (fs1 := [.ref q1, .ref q8, .ref q15, .ref q22, .null, .null, .int 0, .int 0, .int 0]) (ty := .array .int) B0 hw hS 0 rfl in_X0 tyX0 tyX0_ok nmX0 h26 3 (by decide) qF_X0_22 rfl hnm rfl (by decide +kernel) rfl rfl (Nat.le_of_ble_eq_true rfl) rfl dX0_init_34 (fun H locs f27 ef27 hw hS => ?_)
  have h28 : f27 bu = some (.inr (0, [.ref q1, .ref q8, .ref q15, .ref q22, .null, .null, .int 0, .int 0, .int 0])) := by rw [ef27, va_up_self]
  refine lv_aload_n hx hb dX0_init_37 rfl (lv_at hl9 0 rfl) ?_
  refine lv_iconst (v := 3) hx hb dX0_init_38 (by decide) ?_
  refine hp_newaI (N' := 3) B0 hw hS qA_int (by decide) (by decide) (Nat.le_of_ble_eq_true rfl) (Nat.le_of_ble_eq_true rfl) (Nat.le_of_ble_eq_true rfl) dX0_init_39 (fun q29 H f31 w30 ef31 hw hS => ?_)
  have h32 : f31 q29 = some (.inl (cI G, 3, .inl (fun _ => 0))) := by rw [ef31, va_up_self]
  have h33 : f31 bu = some (.inr (0, [.ref q1, .ref q8, .ref q15, .ref q22, .null, .null, .int 0, .int 0, .int 0])) := by rw [ef31, va_up_ne _ _ (hnew h28 w30)]; exact h28
  refine hp_putF (fs1 := [.ref q1, .ref q8, .ref q15, .ref q22, .ref q29, .null, .int 0, .int 0, .int 0]) (ty := .array .int) B0 hw hS 0 rfl in_X0 tyX0 tyX0_ok nmX0 h33 4 (by decide) qF_X0_25 rfl hnm rfl (by decide +kernel) rfl rfl (Nat.le_of_ble_eq_true rfl) rfl dX0_init_41 (fun H locs f34 ef34 hw hS => ?_)
  have h35 : f34 bu = some (.inr (0, [.ref q1, .ref q8, .ref q15, .ref q22, .ref q29, .null, .int 0, .int 0, .int 0])) := by rw [ef34, va_up_self]
  refine lv_aload_n hx hb dX0_init_44 rfl (lv_at hl9 0 rfl) ?_
  refine lv_bipush (v := 60) hx hb dX0_init_45 (by decide) ?_
  refine hp_newaI (N' := 60) B0 hw hS qA_int (by decide) (by decide) (Nat.le_of_ble_eq_true rfl) (Nat.le_of_ble_eq_true rfl) (Nat.le_of_ble_eq_true rfl) dX0_init_47 (fun q36 H f38 w37 ef38 hw hS => ?_)
  have h39 : f38 q36 = some (.inl (cI G, 60, .inl (fun _ => 0))) := by rw [ef38, va_up_self]
  have h40 : f38 bu = some (.inr (0, [.ref q1, .ref q8, .ref q15, .ref q22, .ref q29, .null, .int 0, .int 0, .int 0])) := by rw [ef38, va_up_ne _ _ (hnew h35 w37)]; exact h35
  refine hp_putF (fs1 := [.ref q1, .ref q8, .ref q15, .ref q22, .ref q29, .ref q36, .int 0, .int 0, .int 0]) (ty := .array .int) B0 hw hS 0 rfl in_X0 tyX0 tyX0_ok nmX0 h40 5 (by decide) qF_X0_28 rfl hnm rfl (by decide +kernel) rfl rfl (Nat.le_of_ble_eq_true rfl) rfl dX0_init_49 (fun H locs f41 ef41 hw hS => ?_)
  have h42 : f41 bu = some (.inr (0, [.ref q1, .ref q8, .ref q15, .ref q22, .ref q29, .ref q36, .int 0, .int 0, .int 0])) := by rw [ef41, va_up_self]
  refine lv_aload_n hx hb dX0_init_52 rfl (lv_at hl9 0 rfl) ?_
  refine lv_iconst (v := 0) hx hb dX0_init_53 (by decide) ?_
  refine hp_put (fs1 := [.ref q1, .ref q8, .ref q15, .ref q22, .ref q29, .ref q36, .int 0, .int 0, .int 0]) (ty := .int) B0 hw hS 0 rfl in_X0 tyX0 tyX0_ok nmX0 h42 6 (by decide) qF_X0_31 rfl (by decide +kernel) rfl rfl (Nat.le_of_ble_eq_true rfl) rfl dX0_init_54 (fun H locs f43 ef43 hw hS => ?_)
  have e44 : f43 = va_up f38 bu (some (.inr (0, [.ref q1, .ref q8, .ref q15, .ref q22, .ref q29, .ref q36, .int 0, .int 0, .int 0]))) := by rw [ef43, ef41, bx_uu]
  have h45 : f43 bu = some (.inr (0, [.ref q1, .ref q8, .ref q15, .ref q22, .ref q29, .ref q36, .int 0, .int 0, .int 0])) := by rw [ef43, va_up_self]
  refine lv_aload_n hx hb dX0_init_57 rfl (lv_at hl9 0 rfl) ?_
  refine lv_iconst (v := 0) hx hb dX0_init_58 (by decide) ?_
  refine hp_put (fs1 := [.ref q1, .ref q8, .ref q15, .ref q22, .ref q29, .ref q36, .int 0, .int 0, .int 0]) (ty := .int) B0 hw hS 0 rfl in_X0 tyX0 tyX0_ok nmX0 h45 7 (by decide) qF_X0_35 rfl (by decide +kernel) rfl rfl (Nat.le_of_ble_eq_true rfl) rfl dX0_init_59 (fun H locs f46 ef46 hw hS => ?_)
  have e47 : f46 = va_up f38 bu (some (.inr (0, [.ref q1, .ref q8, .ref q15, .ref q22, .ref q29, .ref q36, .int 0, .int 0, .int 0]))) := by rw [ef46, e44, bx_uu]
  have h48 : f46 bu = some (.inr (0, [.ref q1, .ref q8, .ref q15, .ref q22, .ref q29, .ref q36, .int 0, .int 0, .int 0])) := by rw [ef46, va_up_self]
  refine lv_aload_n hx hb dX0_init_62 rfl (lv_at hl9 0 rfl) ?_
  refine lv_iconst (v := 0) hx hb dX0_init_63 (by decide) ?_
  refine hp_put (fs1 := [.ref q1, .ref q8, .ref q15, .ref q22, .ref q29, .ref q36, .int 0, .int 0, .int 0]) (ty := .int) B0 hw hS 0 rfl in_X0 tyX0 tyX0_ok nmX0 h48 8 (by decide) qF_X0_38 rfl (by decide +kernel) rfl rfl (Nat.le_of_ble_eq_true rfl) rfl dX0_init_64 (fun H locs f49 ef49 hw hS => ?_)
  have e50 : f49 = va_up f38 bu (some (.inr (0, [.ref q1, .ref q8, .ref q15, .ref q22, .ref q29, .ref q36, .int 0, .int 0, .int 0]))) := by rw [ef49, e47, bx_uu]
  have h51 : f49 bu = some (.inr (0, [.ref q1, .ref q8, .ref q15, .ref q22, .ref q29, .ref q36, .int 0, .int 0, .int 0])) := by rw [ef49, va_up_self]
  refine lv_iconst (v := 0) hx hb dX0_init_67 (by decide) ?_
  refine lv_istore_n (lv' := [(1, .int 0), (0, .ref bu)]) hx hb dX0_init_68 rfl hl9 (by decide) rfl (fun ls hl9 => ?_)
  refine lv_iload_n hx hb dX0_init_69 rfl (lv_at hl9 0 rfl) ?_
  refine lv_iconst (v := 3) hx hb dX0_init_70 (by decide) ?_
  refine lv_icmp_ge (tgt := 87) hx hb dX0_init_71 (by decide) (fun c9 => absurd c9 (by decide)) (fun _ => ?_)
  refine lv_aload_n hx hb dX0_init_74 rfl (lv_at hl9 1 rfl) ?_
  refine hp_get B0 hw 0 rfl in_X0 h51 3 (by decide) qF_X0_22 rfl dX0_init_75 ?_
  refine lv_iload_n hx hb dX0_init_78 rfl (lv_at hl9 0 rfl) ?_
  refine lv_iload_n hx hb dX0_init_79 rfl (lv_at hl9 0 rfl) ?_
  have n53 : bu ≠ q22 := hnew h21 w23
  have h52 : f27 q22 = some (.inl (cI G, 3, .inl (fun _ => 0))) := by rw [ef27, va_up_ne _ _ (Ne.symm n53)]; exact h25
  have h54 : f31 q22 = some (.inl (cI G, 3, .inl (fun _ => 0))) := by rw [ef31, va_up_ne _ _ (hnew h52 w30)]; exact h52
  have h55 : f34 q22 = some (.inl (cI G, 3, .inl (fun _ => 0))) := by rw [ef34, va_up_ne _ _ (Ne.symm n53)]; exact h54
  have h56 : f38 q22 = some (.inl (cI G, 3, .inl (fun _ => 0))) := by rw [ef38, va_up_ne _ _ (hnew h55 w37)]; exact h55
  have h57 : f49 q22 = some (.inl (cI G, 3, .inl (fun _ => 0))) := by rw [e50, va_up_ne _ _ (Ne.symm n53)]; exact h56
  refine hp_iast B0 hw hS h57 (by unfold vp_in; decide) dX0_init_80 (fun H locs f58 ef58 hw hS => ?_)
  have h59 : f58 q22 = some (.inl (cI G, 3, .inl (upd (fun _ => 0) (0 : Int32).toNatClampNeg 0))) := by rw [ef58, va_up_self]
  refine lv_iinc (v := 1) (lv' := [(1, .int 1), (0, .ref bu)]) hx hb dX0_init_81 hl9 (k := 0) rfl (by decide) (by decide) rfl (fun ls hl9 => ?_)
  refine lv_goto (tgt := 69) hx hb dX0_init_84 (by decide) ?_
  refine lv_iload_n hx hb dX0_init_69 rfl (lv_at hl9 0 rfl) ?_
  refine lv_iconst (v := 3) hx hb dX0_init_70 (by decide) ?_
  refine lv_icmp_ge (tgt := 87) hx hb dX0_init_71 (by decide) (fun c9 => absurd c9 (by decide)) (fun _ => ?_)
  refine lv_aload_n hx hb dX0_init_74 rfl (lv_at hl9 1 rfl) ?_
  have h60 : f58 bu = some (.inr (0, [.ref q1, .ref q8, .ref q15, .ref q22, .ref q29, .ref q36, .int 0, .int 0, .int 0])) := by rw [ef58, va_up_ne _ _ n53]; exact h51
  refine hp_get B0 hw 0 rfl in_X0 h60 3 (by decide) qF_X0_22 rfl dX0_init_75 ?_
  refine lv_iload_n hx hb dX0_init_78 rfl (lv_at hl9 0 rfl) ?_
  refine lv_iload_n hx hb dX0_init_79 rfl (lv_at hl9 0 rfl) ?_
  refine hp_iast B0 hw hS h59 (by unfold vp_in; decide) dX0_init_80 (fun H locs f61 ef61 hw hS => ?_)
  have e62 : f61 = va_up f49 q22 (some (.inl (cI G, 3, .inl (upd (upd (fun _ => 0) (0 : Int32).toNatClampNeg 0) (1 : Int32).toNatClampNeg 1)))) := by rw [ef61, ef58, bx_uu]
  have h63 : f61 q22 = some (.inl (cI G, 3, .inl (upd (upd (fun _ => 0) (0 : Int32).toNatClampNeg 0) (1 : Int32).toNatClampNeg 1))) := by rw [ef61, va_up_self]
  refine lv_iinc (v := 2) (lv' := [(1, .int 2), (0, .ref bu)]) hx hb dX0_init_81 hl9 (k := 0) rfl (by decide) (by decide) rfl (fun ls hl9 => ?_)
  refine lv_goto (tgt := 69) hx hb dX0_init_84 (by decide) ?_
  refine lv_iload_n hx hb dX0_init_69 rfl (lv_at hl9 0 rfl) ?_
  refine lv_iconst (v := 3) hx hb dX0_init_70 (by decide) ?_
  refine lv_icmp_ge (tgt := 87) hx hb dX0_init_71 (by decide) (fun c9 => absurd c9 (by decide)) (fun _ => ?_)
  refine lv_aload_n hx hb dX0_init_74 rfl (lv_at hl9 1 rfl) ?_
  have h64 : f61 bu = some (.inr (0, [.ref q1, .ref q8, .ref q15, .ref q22, .ref q29, .ref q36, .int 0, .int 0, .int 0])) := by rw [e62, va_up_ne _ _ n53]; exact h51
  refine hp_get B0 hw 0 rfl in_X0 h64 3 (by decide) qF_X0_22 rfl dX0_init_75 ?_
  refine lv_iload_n hx hb dX0_init_78 rfl (lv_at hl9 0 rfl) ?_
  refine lv_iload_n hx hb dX0_init_79 rfl (lv_at hl9 0 rfl) ?_
  refine hp_iast B0 hw hS h63 (by unfold vp_in; decide) dX0_init_80 (fun H locs f65 ef65 hw hS => ?_)
  have e66 : f65 = va_up f49 q22 (some (.inl (cI G, 3, .inl (upd (upd (upd (fun _ => 0) (0 : Int32).toNatClampNeg 0) (1 : Int32).toNatClampNeg 1) (2 : Int32).toNatClampNeg 2)))) := by rw [ef65, e62, bx_uu]
  have h67 : f65 q22 = some (.inl (cI G, 3, .inl (upd (upd (upd (fun _ => 0) (0 : Int32).toNatClampNeg 0) (1 : Int32).toNatClampNeg 1) (2 : Int32).toNatClampNeg 2))) := by rw [ef65, va_up_self]
  refine lv_iinc (v := 3) (lv' := [(1, .int 3), (0, .ref bu)]) hx hb dX0_init_81 hl9 (k := 0) rfl (by decide) (by decide) rfl (fun ls hl9 => ?_)
  refine lv_goto (tgt := 69) hx hb dX0_init_84 (by decide) ?_
  refine lv_iload_n hx hb dX0_init_69 rfl (lv_at hl9 0 rfl) ?_
  refine lv_iconst (v := 3) hx hb dX0_init_70 (by decide) ?_
  refine lv_icmp_ge (tgt := 87) hx hb dX0_init_71 (by decide) (fun _ => ?_) (fun c9 => absurd (by decide) c9)
  refine lv_aload_n hx hb dX0_init_87 rfl (lv_at hl9 1 rfl) ?_
  have h68 : f65 bu = some (.inr (0, [.ref q1, .ref q8, .ref q15, .ref q22, .ref q29, .ref q36, .int 0, .int 0, .int 0])) := by rw [e66, va_up_ne _ _ n53]; exact h51
  refine hp_get B0 hw 0 rfl in_X0 h68 4 (by decide) qF_X0_25 rfl dX0_init_88 ?_
  refine lv_iconst (v := (-1)) hx hb dX0_init_91 (by decide) ?_
  have n70 : bu ≠ q29 := hnew h28 w30
  have h69 : f34 q29 = some (.inl (cI G, 3, .inl (fun _ => 0))) := by rw [ef34, va_up_ne _ _ (Ne.symm n70)]; exact h32
  have h71 : f38 q29 = some (.inl (cI G, 3, .inl (fun _ => 0))) := by rw [ef38, va_up_ne _ _ (hnew h69 w37)]; exact h69
  have h72 : f49 q29 = some (.inl (cI G, 3, .inl (fun _ => 0))) := by rw [e50, va_up_ne _ _ (Ne.symm n70)]; exact h71
  have n74 : q22 ≠ q29 := hnew h52 w30
  have h73 : f65 q29 = some (.inl (cI G, 3, .inl (fun _ => 0))) := by rw [e66, va_up_ne _ _ (Ne.symm n74)]; exact h72
  refine hp_S (As := [.ref q29, .int (-1)]) (rest := []) B0 hw hS (c_J7_fill3 hl G f65 q29 (fun _ => 0) h73 (-1)) mS_J7_fill_53178 qM_X0_41 rfl rfl hl9.1 (Nat.le_of_ble_eq_true rfl) ⟨⟨Nat.le_of_ble_eq_true rfl, Nat.le_of_ble_eq_true rfl⟩, Nat.le_of_ble_eq_true rfl, Nat.le_of_ble_eq_true rfl⟩ dX0_init_92 (fun E ce q9 f75 H locs hPX hw hS hce hcv hcl => ?_) (fun v f75 H locs hP hw hS => ?_)
  · exact hPX.elim
  · obtain ⟨ev9, h76, k77, z78⟩ := hP
    subst ev9
    refine W.eq (g2 := F0 m 95 ls []) rfl ?_
    have h79 : f75 bu = some (.inr (0, [.ref q1, .ref q8, .ref q15, .ref q22, .ref q29, .ref q36, .int 0, .int 0, .int 0])) := k77 _ _ h68 (ninc n70 nin0)
    have n81 : bu ≠ q1 := hnew k_bu w2
    have h80 : f6 q1 = some (.inl (cI G, 61, .inl (fun _ => 0))) := by rw [ef6, va_up_ne _ _ (Ne.symm n81)]; exact h4
    have h82 : f10 q1 = some (.inl (cI G, 61, .inl (fun _ => 0))) := by rw [ef10, va_up_ne _ _ (hnew h80 w9)]; exact h80
    have h83 : f13 q1 = some (.inl (cI G, 61, .inl (fun _ => 0))) := by rw [ef13, va_up_ne _ _ (Ne.symm n81)]; exact h82
    have h84 : f17 q1 = some (.inl (cI G, 61, .inl (fun _ => 0))) := by rw [ef17, va_up_ne _ _ (hnew h83 w16)]; exact h83
    have h85 : f20 q1 = some (.inl (cI G, 61, .inl (fun _ => 0))) := by rw [ef20, va_up_ne _ _ (Ne.symm n81)]; exact h84
    have h86 : f24 q1 = some (.inl (cI G, 61, .inl (fun _ => 0))) := by rw [ef24, va_up_ne _ _ (hnew h85 w23)]; exact h85
    have h87 : f27 q1 = some (.inl (cI G, 61, .inl (fun _ => 0))) := by rw [ef27, va_up_ne _ _ (Ne.symm n81)]; exact h86
    have h88 : f31 q1 = some (.inl (cI G, 61, .inl (fun _ => 0))) := by rw [ef31, va_up_ne _ _ (hnew h87 w30)]; exact h87
    have h89 : f34 q1 = some (.inl (cI G, 61, .inl (fun _ => 0))) := by rw [ef34, va_up_ne _ _ (Ne.symm n81)]; exact h88
    have h90 : f38 q1 = some (.inl (cI G, 61, .inl (fun _ => 0))) := by rw [ef38, va_up_ne _ _ (hnew h89 w37)]; exact h89
    have h91 : f49 q1 = some (.inl (cI G, 61, .inl (fun _ => 0))) := by rw [e50, va_up_ne _ _ (Ne.symm n81)]; exact h90
    have n93 : q1 ≠ q22 := hnew h85 w23
    have h92 : f65 q1 = some (.inl (cI G, 61, .inl (fun _ => 0))) := by rw [e66, va_up_ne _ _ n93]; exact h91
    have n95 : q1 ≠ q29 := hnew h87 w30
    have h94 : f75 q1 = some (.inl (cI G, 61, .inl (fun _ => 0))) := k77 _ _ h92 (ninc n95 nin0)
    have n97 : bu ≠ q8 := hnew h7 w9
    have h96 : f13 q8 = some (.inl (cI G, 240, .inl (fun _ => 0))) := by rw [ef13, va_up_ne _ _ (Ne.symm n97)]; exact h11
    have h98 : f17 q8 = some (.inl (cI G, 240, .inl (fun _ => 0))) := by rw [ef17, va_up_ne _ _ (hnew h96 w16)]; exact h96
    have h99 : f20 q8 = some (.inl (cI G, 240, .inl (fun _ => 0))) := by rw [ef20, va_up_ne _ _ (Ne.symm n97)]; exact h98
    have h100 : f24 q8 = some (.inl (cI G, 240, .inl (fun _ => 0))) := by rw [ef24, va_up_ne _ _ (hnew h99 w23)]; exact h99
    have h101 : f27 q8 = some (.inl (cI G, 240, .inl (fun _ => 0))) := by rw [ef27, va_up_ne _ _ (Ne.symm n97)]; exact h100
    have h102 : f31 q8 = some (.inl (cI G, 240, .inl (fun _ => 0))) := by rw [ef31, va_up_ne _ _ (hnew h101 w30)]; exact h101
    have h103 : f34 q8 = some (.inl (cI G, 240, .inl (fun _ => 0))) := by rw [ef34, va_up_ne _ _ (Ne.symm n97)]; exact h102
    have h104 : f38 q8 = some (.inl (cI G, 240, .inl (fun _ => 0))) := by rw [ef38, va_up_ne _ _ (hnew h103 w37)]; exact h103
    have h105 : f49 q8 = some (.inl (cI G, 240, .inl (fun _ => 0))) := by rw [e50, va_up_ne _ _ (Ne.symm n97)]; exact h104
    have n107 : q8 ≠ q22 := hnew h99 w23
    have h106 : f65 q8 = some (.inl (cI G, 240, .inl (fun _ => 0))) := by rw [e66, va_up_ne _ _ n107]; exact h105
    have n109 : q8 ≠ q29 := hnew h101 w30
    have h108 : f75 q8 = some (.inl (cI G, 240, .inl (fun _ => 0))) := k77 _ _ h106 (ninc n109 nin0)
    have n111 : bu ≠ q15 := hnew h14 w16
    have h110 : f20 q15 = some (.inl (cZ G, 240, .inl (fun _ => 0))) := by rw [ef20, va_up_ne _ _ (Ne.symm n111)]; exact h18
    have h112 : f24 q15 = some (.inl (cZ G, 240, .inl (fun _ => 0))) := by rw [ef24, va_up_ne _ _ (hnew h110 w23)]; exact h110
    have h113 : f27 q15 = some (.inl (cZ G, 240, .inl (fun _ => 0))) := by rw [ef27, va_up_ne _ _ (Ne.symm n111)]; exact h112
    have h114 : f31 q15 = some (.inl (cZ G, 240, .inl (fun _ => 0))) := by rw [ef31, va_up_ne _ _ (hnew h113 w30)]; exact h113
    have h115 : f34 q15 = some (.inl (cZ G, 240, .inl (fun _ => 0))) := by rw [ef34, va_up_ne _ _ (Ne.symm n111)]; exact h114
    have h116 : f38 q15 = some (.inl (cZ G, 240, .inl (fun _ => 0))) := by rw [ef38, va_up_ne _ _ (hnew h115 w37)]; exact h115
    have h117 : f49 q15 = some (.inl (cZ G, 240, .inl (fun _ => 0))) := by rw [e50, va_up_ne _ _ (Ne.symm n111)]; exact h116
    have n119 : q15 ≠ q22 := hnew h110 w23
    have h118 : f65 q15 = some (.inl (cZ G, 240, .inl (fun _ => 0))) := by rw [e66, va_up_ne _ _ n119]; exact h117
    have n121 : q15 ≠ q29 := hnew h113 w30
    have h120 : f75 q15 = some (.inl (cZ G, 240, .inl (fun _ => 0))) := k77 _ _ h118 (ninc n121 nin0)
    have h122 : f75 q22 = some (.inl (cI G, 3, .inl (upd (upd (upd (fun _ => 0) (0 : Int32).toNatClampNeg 0) (1 : Int32).toNatClampNeg 1) (2 : Int32).toNatClampNeg 2))) := k77 _ _ h67 (ninc n74 nin0)
    have n124 : bu ≠ q36 := hnew h35 w37
    have h123 : f49 q36 = some (.inl (cI G, 60, .inl (fun _ => 0))) := by rw [e50, va_up_ne _ _ (Ne.symm n124)]; exact h39
    have n126 : q22 ≠ q36 := hnew h55 w37
    have h125 : f65 q36 = some (.inl (cI G, 60, .inl (fun _ => 0))) := by rw [e66, va_up_ne _ _ (Ne.symm n126)]; exact h123
    have n128 : q29 ≠ q36 := hnew h69 w37
    have h127 : f75 q36 = some (.inl (cI G, 60, .inl (fun _ => 0))) := k77 _ _ h125 (ninc (Ne.symm n128) nin0)
    have n129 : q1 ≠ q8 := hnew h80 w9
    have n130 : q8 ≠ q15 := hnew h96 w16
    have n131 : q1 ≠ q15 := hnew h83 w16
    have n132 : q15 ≠ q36 := hnew h115 w37
    have n133 : q8 ≠ q36 := hnew h103 w37
    have n134 : q1 ≠ q36 := hnew h89 w37
    exact hp_vret B0 hw hS hr ⟨Nat.le_of_ble_eq_true rfl, Nat.le_of_ble_eq_true rfl⟩ dX0_init_95 (⟨rfl, q1, q8, q15, q22, q29, q36, w2, (hKeep.none (hKeep.trn w2 ((show hKeep [q1, bu, q1] f f3 from (by rw [ef3]; exact hKeep.up (by simp))).tr (show hKeep [q1, bu, q1] f3 f6 from (by rw [ef6]; exact hKeep.up (by simp))))) w9 (ninc (Ne.symm n97) (ninc (Ne.symm n129) nin0))), (hKeep.none (hKeep.trn w2 ((show hKeep [q1, bu, q1, q8] f f3 from (by rw [ef3]; exact hKeep.up (by simp))).tr ((show hKeep [q1, bu, q1, q8] f3 f6 from (by rw [ef6]; exact hKeep.up (by simp))).tr (hKeep.trn w9 ((show hKeep [q8, q1, bu, q1, q8] f6 f10 from (by rw [ef10]; exact hKeep.up (by simp))).tr (show hKeep [q8, q1, bu, q1, q8] f10 f13 from (by rw [ef13]; exact hKeep.up (by simp)))))))) w16 (ninc (Ne.symm n111) (ninc (Ne.symm n131) (ninc (Ne.symm n130) nin0)))), (hKeep.none (hKeep.trn w2 ((show hKeep [q1, bu, q1, q8, q15] f f3 from (by rw [ef3]; exact hKeep.up (by simp))).tr ((show hKeep [q1, bu, q1, q8, q15] f3 f6 from (by rw [ef6]; exact hKeep.up (by simp))).tr (hKeep.trn w9 ((show hKeep [q8, q1, bu, q1, q8, q15] f6 f10 from (by rw [ef10]; exact hKeep.up (by simp))).tr ((show hKeep [q8, q1, bu, q1, q8, q15] f10 f13 from (by rw [ef13]; exact hKeep.up (by simp))).tr (hKeep.trn w16 ((show hKeep [q15, q8, q1, bu, q1, q8, q15] f13 f17 from (by rw [ef17]; exact hKeep.up (by simp))).tr (show hKeep [q15, q8, q1, bu, q1, q8, q15] f17 f20 from (by rw [ef20]; exact hKeep.up (by simp))))))))))) w23 (ninc (Ne.symm n53) (ninc (Ne.symm n93) (ninc (Ne.symm n107) (ninc (Ne.symm n119) nin0))))), (hKeep.none (hKeep.trn w2 ((show hKeep [q1, bu, q1, q8, q15, q22] f f3 from (by rw [ef3]; exact hKeep.up (by simp))).tr ((show hKeep [q1, bu, q1, q8, q15, q22] f3 f6 from (by rw [ef6]; exact hKeep.up (by simp))).tr (hKeep.trn w9 ((show hKeep [q8, q1, bu, q1, q8, q15, q22] f6 f10 from (by rw [ef10]; exact hKeep.up (by simp))).tr ((show hKeep [q8, q1, bu, q1, q8, q15, q22] f10 f13 from (by rw [ef13]; exact hKeep.up (by simp))).tr (hKeep.trn w16 ((show hKeep [q15, q8, q1, bu, q1, q8, q15, q22] f13 f17 from (by rw [ef17]; exact hKeep.up (by simp))).tr ((show hKeep [q15, q8, q1, bu, q1, q8, q15, q22] f17 f20 from (by rw [ef20]; exact hKeep.up (by simp))).tr (hKeep.trn w23 ((show hKeep [q22, q15, q8, q1, bu, q1, q8, q15, q22] f20 f24 from (by rw [ef24]; exact hKeep.up (by simp))).tr (show hKeep [q22, q15, q8, q1, bu, q1, q8, q15, q22] f24 f27 from (by rw [ef27]; exact hKeep.up (by simp)))))))))))))) w30 (ninc (Ne.symm n70) (ninc (Ne.symm n95) (ninc (Ne.symm n109) (ninc (Ne.symm n121) (ninc (Ne.symm n74) nin0)))))), (hKeep.none (hKeep.trn w2 ((show hKeep [q1, bu, q1, q8, q15, q22, q29] f f3 from (by rw [ef3]; exact hKeep.up (by simp))).tr ((show hKeep [q1, bu, q1, q8, q15, q22, q29] f3 f6 from (by rw [ef6]; exact hKeep.up (by simp))).tr (hKeep.trn w9 ((show hKeep [q8, q1, bu, q1, q8, q15, q22, q29] f6 f10 from (by rw [ef10]; exact hKeep.up (by simp))).tr ((show hKeep [q8, q1, bu, q1, q8, q15, q22, q29] f10 f13 from (by rw [ef13]; exact hKeep.up (by simp))).tr (hKeep.trn w16 ((show hKeep [q15, q8, q1, bu, q1, q8, q15, q22, q29] f13 f17 from (by rw [ef17]; exact hKeep.up (by simp))).tr ((show hKeep [q15, q8, q1, bu, q1, q8, q15, q22, q29] f17 f20 from (by rw [ef20]; exact hKeep.up (by simp))).tr (hKeep.trn w23 ((show hKeep [q22, q15, q8, q1, bu, q1, q8, q15, q22, q29] f20 f24 from (by rw [ef24]; exact hKeep.up (by simp))).tr ((show hKeep [q22, q15, q8, q1, bu, q1, q8, q15, q22, q29] f24 f27 from (by rw [ef27]; exact hKeep.up (by simp))).tr (hKeep.trn w30 ((show hKeep [q29, q22, q15, q8, q1, bu, q1, q8, q15, q22, q29] f27 f31 from (by rw [ef31]; exact hKeep.up (by simp))).tr (show hKeep [q29, q22, q15, q8, q1, bu, q1, q8, q15, q22, q29] f31 f34 from (by rw [ef34]; exact hKeep.up (by simp))))))))))))))))) w37 (ninc (Ne.symm n124) (ninc (Ne.symm n134) (ninc (Ne.symm n133) (ninc (Ne.symm n132) (ninc (Ne.symm n126) (ninc (Ne.symm n128) nin0))))))), h79, h94, h108, h120, h122, h76, h127, n129, (Ne.symm n130), n74, (hKeep.trn w2 ((show hKeep [q1, bu] f f3 from (by rw [ef3]; exact hKeep.up (by simp))).tr ((show hKeep [q1, bu] f3 f6 from (by rw [ef6]; exact hKeep.up (by simp))).tr (hKeep.trn w9 ((show hKeep [q8, q1, bu] f6 f10 from (by rw [ef10]; exact hKeep.up (by simp))).tr ((show hKeep [q8, q1, bu] f10 f13 from (by rw [ef13]; exact hKeep.up (by simp))).tr (hKeep.trn w16 ((show hKeep [q15, q8, q1, bu] f13 f17 from (by rw [ef17]; exact hKeep.up (by simp))).tr ((show hKeep [q15, q8, q1, bu] f17 f20 from (by rw [ef20]; exact hKeep.up (by simp))).tr (hKeep.trn w23 ((show hKeep [q22, q15, q8, q1, bu] f20 f24 from (by rw [ef24]; exact hKeep.up (by simp))).tr ((show hKeep [q22, q15, q8, q1, bu] f24 f27 from (by rw [ef27]; exact hKeep.up (by simp))).tr (hKeep.trn w30 ((show hKeep [q29, q22, q15, q8, q1, bu] f27 f31 from (by rw [ef31]; exact hKeep.up (by simp))).tr ((show hKeep [q29, q22, q15, q8, q1, bu] f31 f34 from (by rw [ef34]; exact hKeep.up (by simp))).tr (hKeep.trn w37 ((show hKeep [q36, q29, q22, q15, q8, q1, bu] f34 f38 from (by rw [ef38]; exact hKeep.up (by simp))).tr ((show hKeep [q36, q29, q22, q15, q8, q1, bu] f38 f49 from (by rw [e50]; exact hKeep.up (by simp))).tr ((show hKeep [q36, q29, q22, q15, q8, q1, bu] f49 f65 from (by rw [e66]; exact hKeep.up (by simp))).tr (show hKeep [q36, q29, q22, q15, q8, q1, bu] f65 f75 from (k77.mono (fun x9 hx9 => by simp only [List.mem_cons, List.not_mem_nil, or_false] at hx9 ⊢; omega)))))))))))))))))))))), ((show NF f f3 from (by rw [ef3]; exact NF.up (Nat.ne_of_beq_eq_false rfl))).tr ((show NF f3 f6 from (by rw [ef6]; exact NF.up (Nat.ne_of_beq_eq_false rfl))).tr ((show NF f6 f10 from (by rw [ef10]; exact NF.up (Nat.ne_of_beq_eq_false rfl))).tr ((show NF f10 f13 from (by rw [ef13]; exact NF.up (Nat.ne_of_beq_eq_false rfl))).tr ((show NF f13 f17 from (by rw [ef17]; exact NF.up (Nat.ne_of_beq_eq_false rfl))).tr ((show NF f17 f20 from (by rw [ef20]; exact NF.up (Nat.ne_of_beq_eq_false rfl))).tr ((show NF f20 f24 from (by rw [ef24]; exact NF.up (Nat.ne_of_beq_eq_false rfl))).tr ((show NF f24 f27 from (by rw [ef27]; exact NF.up (Nat.ne_of_beq_eq_false rfl))).tr ((show NF f27 f31 from (by rw [ef31]; exact NF.up (Nat.ne_of_beq_eq_false rfl))).tr ((show NF f31 f34 from (by rw [ef34]; exact NF.up (Nat.ne_of_beq_eq_false rfl))).tr ((show NF f34 f38 from (by rw [ef38]; exact NF.up (Nat.ne_of_beq_eq_false rfl))).tr ((show NF f38 f49 from (by rw [e50]; exact NF.up (Nat.ne_of_beq_eq_false rfl))).tr ((show NF f49 f65 from (by rw [e66]; exact NF.up (Nat.ne_of_beq_eq_false rfl))).tr z78)))))))))))))⟩)

set_option maxHeartbeats 4000000 in
set_option maxRecDepth 100000 in
theorem c_X4_init {l : Launch} (hl : l.stackTraces = false) (G : hG) (f : hM) (xo : Nat) (k_xo : f xo = some (.inr (4, [.null, .null, .null]))) : CT l yX4_init (.code yX4_init cX4_init 1 none) 3 54 17 680 G [.ref xo] f (fun v f1 => v = none ∧ ∃ ez eo bu nw0 na0 nq0 nr0 nw1 na1 nq1 nr1 bs bp bh bf bl bg : Nat, f ez = none ∧ f eo = none ∧ f bu = none ∧ f nw0 = none ∧ f na0 = none ∧ f nq0 = none ∧ f nr0 = none ∧ f nw1 = none ∧ f na1 = none ∧ f nq1 = none ∧ f nr1 = none ∧ f bs = none ∧ f bp = none ∧ f bh = none ∧ f bf = none ∧ f bl = none ∧ f bg = none ∧ f1 xo = some (.inr (4, [.ref ez, .ref eo, .ref bu])) ∧ f1 ez = some (.inr (1, [.ref nw0, .ref na0, .ref nq0, .ref nr0, .int 1, .int 0, .int 0, .int 0, .int (-1), .int 0, .int 0])) ∧ f1 nw0 = some (.inl (cI G, 6, .inl (fun j => if j < 6 then (-1) else (fun _ => 0) j))) ∧ f1 na0 = some (.inl (cI G, 6, .inl (fun _ => 0))) ∧ f1 nq0 = some (.inl (cI G, 6, .inl (fun j => if j < 6 then (-1) else (fun _ => 0) j))) ∧ f1 nr0 = some (.inr (3, [.null, .null, .int 0])) ∧ f1 eo = some (.inr (1, [.ref nw1, .ref na1, .ref nq1, .ref nr1, .int 2, .int 0, .int 0, .int 0, .int (-1), .int 0, .int 0])) ∧ f1 nw1 = some (.inl (cI G, 6, .inl (fun j => if j < 6 then (-1) else (fun _ => 0) j))) ∧ f1 na1 = some (.inl (cI G, 6, .inl (fun _ => 0))) ∧ f1 nq1 = some (.inl (cI G, 6, .inl (fun j => if j < 6 then (-1) else (fun _ => 0) j))) ∧ f1 nr1 = some (.inr (3, [.null, .null, .int 0])) ∧ f1 bu = some (.inr (0, [.ref bs, .ref bp, .ref bh, .ref bf, .ref bl, .ref bg, .int 0, .int 0, .int 0])) ∧ f1 bs = some (.inl (cI G, 61, .inl (fun _ => 0))) ∧ f1 bp = some (.inl (cI G, 240, .inl (fun _ => 0))) ∧ f1 bh = some (.inl (cZ G, 240, .inl (fun _ => 0))) ∧ f1 bf = some (.inl (cI G, 3, .inl (upd (upd (upd (fun _ => 0) (0 : Int32).toNatClampNeg 0) (1 : Int32).toNatClampNeg 1) (2 : Int32).toNatClampNeg 2))) ∧ f1 bl = some (.inl (cI G, 3, .inl (fun j => if j < 3 then (-1) else (fun _ => 0) j))) ∧ f1 bg = some (.inl (cI G, 60, .inl (fun _ => 0))) ∧ ez ≠ eo ∧ nr0 ≠ nr1 ∧ nw0 ≠ na0 ∧ nw0 ≠ nq0 ∧ nw0 ≠ nw1 ∧ nw0 ≠ na1 ∧ nw0 ≠ nq1 ∧ na0 ≠ nq0 ∧ na0 ≠ nw1 ∧ na0 ≠ na1 ∧ na0 ≠ nq1 ∧ nq0 ≠ nw1 ∧ nq0 ≠ na1 ∧ nq0 ≠ nq1 ∧ nw1 ≠ na1 ∧ nw1 ≠ nq1 ∧ na1 ≠ nq1 ∧ bh ≠ bp ∧ bf ≠ bl ∧ hKeep [xo] f f1 ∧ NF f f1) (fun E f1 => False) := by
  refine hp_start hl (own := RX4) (by decide) rfl (Nat.le_of_ble_eq_true rfl) ?_
  intro p e s m args below meth c B0 hr hnm hout hw hS ls hl9
  have hx := B0.1
  have hb := B0.2.1
  have hl9 : lv_has ls 1 [(0, .ref xo)] := hl9
  refine lv_aload_n hx hb dX4_init_0 rfl (lv_at hl9 0 rfl) ?_
  refine W.objInit hx hb B0.2.2.2.1 (B0.2.2.2.2.1 _ qM_X4_1) (B0.2.2.2.2.1 _ qi_obj) (B0.2.2.2.2.1 _ qc_obj) rfl (by rw [B0.2.2.1]; exact hl9.1) rfl dX4_init_1 (Nat.le_of_ble_eq_true rfl) (Nat.le_of_ble_eq_true rfl) ?_
  refine W.eq (g2 := F0 m 4 ls []) rfl ?_
  refine lv_aload_n hx hb dX4_init_4 rfl (lv_at hl9 0 rfl) ?_
  refine hp_new (fs := [.null, .null, .null, .null, .int 0, .int 0, .int 0, .int 0, .int 0, .int 0, .int 0]) B0 hw hS 1 rfl in_X1 tyX1 tyX1_ok qC_X4_7 qI_X1 qN_X1 (fun j hj => by rcases (show j = 0 ∨ j = 1 ∨ j = 2 ∨ j = 3 ∨ j = 4 ∨ j = 5 ∨ j = 6 ∨ j = 7 ∨ j = 8 ∨ j = 9 ∨ j = 10 by omega) with rfl | rfl | rfl | rfl | rfl | rfl | rfl | rfl | rfl | rfl | rfl <;> rfl) (Nat.le_of_ble_eq_true rfl) (Nat.le_of_ble_eq_true rfl) dX4_init_5 (fun q1 H f3 w2 ef3 hw hS => ?_)
  have h4 : f3 q1 = some (.inr (1, [.null, .null, .null, .null, .int 0, .int 0, .int 0, .int 0, .int 0, .int 0, .int 0])) := by rw [ef3, va_up_self]
  refine lv_dup hx hb dX4_init_8 rfl ?_
  refine lv_iconst (v := 1) hx hb dX4_init_9 (by decide) ?_
  refine hp_I (As := [.int 1]) (rest := [.ref q1, .ref xo]) (b := q1) B0 hw hS (c_X1_init hl G f3 q1 1 h4) mI_X1_init qM_X4_9 rfl rfl hl9.1 (Nat.le_of_ble_eq_true rfl) ⟨⟨Nat.le_of_ble_eq_true rfl, Nat.le_of_ble_eq_true rfl⟩, Nat.le_of_ble_eq_true rfl, Nat.le_of_ble_eq_true rfl⟩ dX4_init_10 (fun E ce q9 f5 H locs hPX hw hS hce hcv hcl => ?_) (fun v f5 H locs hP hw hS => ?_)
  · exact hPX.elim
  · obtain ⟨ev9, nw_6, na_6, nq_6, nr_6, wnw6, wna6, wnq6, wnr6, h7, h8, h9, h10, h11, n12, n13, n14, k15, z16⟩ := hP
    subst ev9
    refine W.eq (g2 := F0 m 13 ls [.ref q1, .ref xo]) rfl ?_
    have h17 : f3 xo = some (.inr (4, [.null, .null, .null])) := by rw [ef3, va_up_ne _ _ (hnew k_xo w2)]; exact k_xo
    have n19 : xo ≠ q1 := hnew k_xo w2
    have h18 : f5 xo = some (.inr (4, [.null, .null, .null])) := k15 _ _ h17 (ninc n19 nin0)
    refine hp_putF (fs1 := [.ref q1, .null, .null]) (ty := .object "OptionLine$End") B0 hw hS 4 rfl in_X4 tyX4 tyX4_ok nmX4 h18 0 (by decide) qF_X4_12 rfl hnm rfl (by decide +kernel) rfl rfl (Nat.le_of_ble_eq_true rfl) rfl dX4_init_13 (fun H locs f20 ef20 hw hS => ?_)
    have h21 : f20 xo = some (.inr (4, [.ref q1, .null, .null])) := by rw [ef20, va_up_self]
    refine lv_aload_n hx hb dX4_init_16 rfl (lv_at hl9 0 rfl) ?_
    refine hp_new (fs := [.null, .null, .null, .null, .int 0, .int 0, .int 0, .int 0, .int 0, .int 0, .int 0]) B0 hw hS 1 rfl in_X1 tyX1 tyX1_ok qC_X4_7 qI_X1 qN_X1 (fun j hj => by rcases (show j = 0 ∨ j = 1 ∨ j = 2 ∨ j = 3 ∨ j = 4 ∨ j = 5 ∨ j = 6 ∨ j = 7 ∨ j = 8 ∨ j = 9 ∨ j = 10 by omega) with rfl | rfl | rfl | rfl | rfl | rfl | rfl | rfl | rfl | rfl | rfl <;> rfl) (Nat.le_of_ble_eq_true rfl) (Nat.le_of_ble_eq_true rfl) dX4_init_17 (fun q22 H f24 w23 ef24 hw hS => ?_)
    have h25 : f24 q22 = some (.inr (1, [.null, .null, .null, .null, .int 0, .int 0, .int 0, .int 0, .int 0, .int 0, .int 0])) := by rw [ef24, va_up_self]
    refine lv_dup hx hb dX4_init_20 rfl ?_
    refine lv_iconst (v := 2) hx hb dX4_init_21 (by decide) ?_
    refine hp_I (As := [.int 2]) (rest := [.ref q22, .ref xo]) (b := q22) B0 hw hS (c_X1_init hl G f24 q22 2 h25) mI_X1_init qM_X4_9 rfl rfl hl9.1 (Nat.le_of_ble_eq_true rfl) ⟨⟨Nat.le_of_ble_eq_true rfl, Nat.le_of_ble_eq_true rfl⟩, Nat.le_of_ble_eq_true rfl, Nat.le_of_ble_eq_true rfl⟩ dX4_init_22 (fun E ce q9 f26 H locs hPX hw hS hce hcv hcl => ?_) (fun v f26 H locs hP hw hS => ?_)
    · exact hPX.elim
    · obtain ⟨ev9, nw_27, na_27, nq_27, nr_27, wnw27, wna27, wnq27, wnr27, h28, h29, h30, h31, h32, n33, n34, n35, k36, z37⟩ := hP
      subst ev9
      refine W.eq (g2 := F0 m 25 ls [.ref q22, .ref xo]) rfl ?_
      have h38 : f24 xo = some (.inr (4, [.ref q1, .null, .null])) := by rw [ef24, va_up_ne _ _ (hnew h21 w23)]; exact h21
      have n40 : xo ≠ q22 := hnew h21 w23
      have h39 : f26 xo = some (.inr (4, [.ref q1, .null, .null])) := k36 _ _ h38 (ninc n40 nin0)
      refine hp_putF (fs1 := [.ref q1, .ref q22, .null]) (ty := .object "OptionLine$End") B0 hw hS 4 rfl in_X4 tyX4 tyX4_ok nmX4 h39 1 (by decide) qF_X4_18 rfl hnm rfl (by decide +kernel) rfl rfl (Nat.le_of_ble_eq_true rfl) rfl dX4_init_25 (fun H locs f41 ef41 hw hS => ?_)
      have h42 : f41 xo = some (.inr (4, [.ref q1, .ref q22, .null])) := by rw [ef41, va_up_self]
      refine lv_aload_n hx hb dX4_init_28 rfl (lv_at hl9 0 rfl) ?_
      refine hp_new (fs := [.null, .null, .null, .null, .null, .null, .int 0, .int 0, .int 0]) B0 hw hS 0 rfl in_X0 tyX0 tyX0_ok qC_X4_21 qI_X0 qN_X0 (fun j hj => by rcases (show j = 0 ∨ j = 1 ∨ j = 2 ∨ j = 3 ∨ j = 4 ∨ j = 5 ∨ j = 6 ∨ j = 7 ∨ j = 8 by omega) with rfl | rfl | rfl | rfl | rfl | rfl | rfl | rfl | rfl <;> rfl) (Nat.le_of_ble_eq_true rfl) (Nat.le_of_ble_eq_true rfl) dX4_init_29 (fun q43 H f45 w44 ef45 hw hS => ?_)
      have h46 : f45 q43 = some (.inr (0, [.null, .null, .null, .null, .null, .null, .int 0, .int 0, .int 0])) := by rw [ef45, va_up_self]
      refine lv_dup hx hb dX4_init_32 rfl ?_
      refine hp_I (As := []) (rest := [.ref q43, .ref xo]) (b := q43) B0 hw hS (c_X0_init hl G f45 q43 h46) mI_X0_init qM_X4_23 rfl rfl hl9.1 (Nat.le_of_ble_eq_true rfl) ⟨⟨Nat.le_of_ble_eq_true rfl, Nat.le_of_ble_eq_true rfl⟩, Nat.le_of_ble_eq_true rfl, Nat.le_of_ble_eq_true rfl⟩ dX4_init_33 (fun E ce q9 f47 H locs hPX hw hS hce hcv hcl => ?_) (fun v f47 H locs hP hw hS => ?_)
      · exact hPX.elim
      · obtain ⟨ev9, bs_48, bp_48, bh_48, bf_48, bl_48, bg_48, wbs48, wbp48, wbh48, wbf48, wbl48, wbg48, h49, h50, h51, h52, h53, h54, h55, n56, n59, n60, k57, z58⟩ := hP
        subst ev9
        refine W.eq (g2 := F0 m 36 ls [.ref q43, .ref xo]) rfl ?_
        have h61 : f45 xo = some (.inr (4, [.ref q1, .ref q22, .null])) := by rw [ef45, va_up_ne _ _ (hnew h42 w44)]; exact h42
        have n63 : xo ≠ q43 := hnew h42 w44
        have h62 : f47 xo = some (.inr (4, [.ref q1, .ref q22, .null])) := k57 _ _ h61 (ninc n63 nin0)
        refine hp_putF (fs1 := [.ref q1, .ref q22, .ref q43]) (ty := .object "OptionLine$Bundle") B0 hw hS 4 rfl in_X4 tyX4 tyX4_ok nmX4 h62 2 (by decide) qF_X4_24 rfl hnm rfl (by decide +kernel) rfl rfl (Nat.le_of_ble_eq_true rfl) rfl dX4_init_36 (fun H locs f64 ef64 hw hS => ?_)
        have h65 : f64 xo = some (.inr (4, [.ref q1, .ref q22, .ref q43])) := by rw [ef64, va_up_self]
        have h66 : f20 q1 = some (.inr (1, [.ref nw_6, .ref na_6, .ref nq_6, .ref nr_6, .int 1, .int 0, .int 0, .int 0, .int (-1), .int 0, .int 0])) := by rw [ef20, va_up_ne _ _ (Ne.symm n19)]; exact h7
        have h67 : f24 q1 = some (.inr (1, [.ref nw_6, .ref na_6, .ref nq_6, .ref nr_6, .int 1, .int 0, .int 0, .int 0, .int (-1), .int 0, .int 0])) := by rw [ef24, va_up_ne _ _ (hnew h66 w23)]; exact h66
        have n69 : q1 ≠ q22 := hnew h66 w23
        have h68 : f26 q1 = some (.inr (1, [.ref nw_6, .ref na_6, .ref nq_6, .ref nr_6, .int 1, .int 0, .int 0, .int 0, .int (-1), .int 0, .int 0])) := k36 _ _ h67 (ninc n69 nin0)
        have h70 : f41 q1 = some (.inr (1, [.ref nw_6, .ref na_6, .ref nq_6, .ref nr_6, .int 1, .int 0, .int 0, .int 0, .int (-1), .int 0, .int 0])) := by rw [ef41, va_up_ne _ _ (Ne.symm n19)]; exact h68
        have h71 : f45 q1 = some (.inr (1, [.ref nw_6, .ref na_6, .ref nq_6, .ref nr_6, .int 1, .int 0, .int 0, .int 0, .int (-1), .int 0, .int 0])) := by rw [ef45, va_up_ne _ _ (hnew h70 w44)]; exact h70
        have n73 : q1 ≠ q43 := hnew h70 w44
        have h72 : f47 q1 = some (.inr (1, [.ref nw_6, .ref na_6, .ref nq_6, .ref nr_6, .int 1, .int 0, .int 0, .int 0, .int (-1), .int 0, .int 0])) := k57 _ _ h71 (ninc n73 nin0)
        have h74 : f64 q1 = some (.inr (1, [.ref nw_6, .ref na_6, .ref nq_6, .ref nr_6, .int 1, .int 0, .int 0, .int 0, .int (-1), .int 0, .int 0])) := by rw [ef64, va_up_ne _ _ (Ne.symm n19)]; exact h72
        have n76 : xo ≠ nw_6 := hnew h17 wnw6
        have h75 : f20 nw_6 = some (.inl (cI G, 6, .inl (fun j => if j < 6 then (-1) else (fun _ => 0) j))) := by rw [ef20, va_up_ne _ _ (Ne.symm n76)]; exact h8
        have h77 : f24 nw_6 = some (.inl (cI G, 6, .inl (fun j => if j < 6 then (-1) else (fun _ => 0) j))) := by rw [ef24, va_up_ne _ _ (hnew h75 w23)]; exact h75
        have n79 : nw_6 ≠ q22 := hnew h75 w23
        have h78 : f26 nw_6 = some (.inl (cI G, 6, .inl (fun j => if j < 6 then (-1) else (fun _ => 0) j))) := k36 _ _ h77 (ninc n79 nin0)
        have h80 : f41 nw_6 = some (.inl (cI G, 6, .inl (fun j => if j < 6 then (-1) else (fun _ => 0) j))) := by rw [ef41, va_up_ne _ _ (Ne.symm n76)]; exact h78
        have h81 : f45 nw_6 = some (.inl (cI G, 6, .inl (fun j => if j < 6 then (-1) else (fun _ => 0) j))) := by rw [ef45, va_up_ne _ _ (hnew h80 w44)]; exact h80
        have n83 : nw_6 ≠ q43 := hnew h80 w44
        have h82 : f47 nw_6 = some (.inl (cI G, 6, .inl (fun j => if j < 6 then (-1) else (fun _ => 0) j))) := k57 _ _ h81 (ninc n83 nin0)
        have h84 : f64 nw_6 = some (.inl (cI G, 6, .inl (fun j => if j < 6 then (-1) else (fun _ => 0) j))) := by rw [ef64, va_up_ne _ _ (Ne.symm n76)]; exact h82
        have n86 : xo ≠ na_6 := hnew h17 wna6
        have h85 : f20 na_6 = some (.inl (cI G, 6, .inl (fun _ => 0))) := by rw [ef20, va_up_ne _ _ (Ne.symm n86)]; exact h9
        have h87 : f24 na_6 = some (.inl (cI G, 6, .inl (fun _ => 0))) := by rw [ef24, va_up_ne _ _ (hnew h85 w23)]; exact h85
        have n89 : na_6 ≠ q22 := hnew h85 w23
        have h88 : f26 na_6 = some (.inl (cI G, 6, .inl (fun _ => 0))) := k36 _ _ h87 (ninc n89 nin0)
        have h90 : f41 na_6 = some (.inl (cI G, 6, .inl (fun _ => 0))) := by rw [ef41, va_up_ne _ _ (Ne.symm n86)]; exact h88
        have h91 : f45 na_6 = some (.inl (cI G, 6, .inl (fun _ => 0))) := by rw [ef45, va_up_ne _ _ (hnew h90 w44)]; exact h90
        have n93 : na_6 ≠ q43 := hnew h90 w44
        have h92 : f47 na_6 = some (.inl (cI G, 6, .inl (fun _ => 0))) := k57 _ _ h91 (ninc n93 nin0)
        have h94 : f64 na_6 = some (.inl (cI G, 6, .inl (fun _ => 0))) := by rw [ef64, va_up_ne _ _ (Ne.symm n86)]; exact h92
        have n96 : xo ≠ nq_6 := hnew h17 wnq6
        have h95 : f20 nq_6 = some (.inl (cI G, 6, .inl (fun j => if j < 6 then (-1) else (fun _ => 0) j))) := by rw [ef20, va_up_ne _ _ (Ne.symm n96)]; exact h10
        have h97 : f24 nq_6 = some (.inl (cI G, 6, .inl (fun j => if j < 6 then (-1) else (fun _ => 0) j))) := by rw [ef24, va_up_ne _ _ (hnew h95 w23)]; exact h95
        have n99 : nq_6 ≠ q22 := hnew h95 w23
        have h98 : f26 nq_6 = some (.inl (cI G, 6, .inl (fun j => if j < 6 then (-1) else (fun _ => 0) j))) := k36 _ _ h97 (ninc n99 nin0)
        have h100 : f41 nq_6 = some (.inl (cI G, 6, .inl (fun j => if j < 6 then (-1) else (fun _ => 0) j))) := by rw [ef41, va_up_ne _ _ (Ne.symm n96)]; exact h98
        have h101 : f45 nq_6 = some (.inl (cI G, 6, .inl (fun j => if j < 6 then (-1) else (fun _ => 0) j))) := by rw [ef45, va_up_ne _ _ (hnew h100 w44)]; exact h100
        have n103 : nq_6 ≠ q43 := hnew h100 w44
        have h102 : f47 nq_6 = some (.inl (cI G, 6, .inl (fun j => if j < 6 then (-1) else (fun _ => 0) j))) := k57 _ _ h101 (ninc n103 nin0)
        have h104 : f64 nq_6 = some (.inl (cI G, 6, .inl (fun j => if j < 6 then (-1) else (fun _ => 0) j))) := by rw [ef64, va_up_ne _ _ (Ne.symm n96)]; exact h102
        have n106 : xo ≠ nr_6 := hnew h17 wnr6
        have h105 : f20 nr_6 = some (.inr (3, [.null, .null, .int 0])) := by rw [ef20, va_up_ne _ _ (Ne.symm n106)]; exact h11
        have h107 : f24 nr_6 = some (.inr (3, [.null, .null, .int 0])) := by rw [ef24, va_up_ne _ _ (hnew h105 w23)]; exact h105
        have n109 : nr_6 ≠ q22 := hnew h105 w23
        have h108 : f26 nr_6 = some (.inr (3, [.null, .null, .int 0])) := k36 _ _ h107 (ninc n109 nin0)
        have h110 : f41 nr_6 = some (.inr (3, [.null, .null, .int 0])) := by rw [ef41, va_up_ne _ _ (Ne.symm n106)]; exact h108
        have h111 : f45 nr_6 = some (.inr (3, [.null, .null, .int 0])) := by rw [ef45, va_up_ne _ _ (hnew h110 w44)]; exact h110
        have n113 : nr_6 ≠ q43 := hnew h110 w44
        have h112 : f47 nr_6 = some (.inr (3, [.null, .null, .int 0])) := k57 _ _ h111 (ninc n113 nin0)
        have h114 : f64 nr_6 = some (.inr (3, [.null, .null, .int 0])) := by rw [ef64, va_up_ne _ _ (Ne.symm n106)]; exact h112
        have h115 : f41 q22 = some (.inr (1, [.ref nw_27, .ref na_27, .ref nq_27, .ref nr_27, .int 2, .int 0, .int 0, .int 0, .int (-1), .int 0, .int 0])) := by rw [ef41, va_up_ne _ _ (Ne.symm n40)]; exact h28
        have h116 : f45 q22 = some (.inr (1, [.ref nw_27, .ref na_27, .ref nq_27, .ref nr_27, .int 2, .int 0, .int 0, .int 0, .int (-1), .int 0, .int 0])) := by rw [ef45, va_up_ne _ _ (hnew h115 w44)]; exact h115
        have n118 : q22 ≠ q43 := hnew h115 w44
        have h117 : f47 q22 = some (.inr (1, [.ref nw_27, .ref na_27, .ref nq_27, .ref nr_27, .int 2, .int 0, .int 0, .int 0, .int (-1), .int 0, .int 0])) := k57 _ _ h116 (ninc n118 nin0)
        have h119 : f64 q22 = some (.inr (1, [.ref nw_27, .ref na_27, .ref nq_27, .ref nr_27, .int 2, .int 0, .int 0, .int 0, .int (-1), .int 0, .int 0])) := by rw [ef64, va_up_ne _ _ (Ne.symm n40)]; exact h117
        have n121 : xo ≠ nw_27 := hnew h38 wnw27
        have h120 : f41 nw_27 = some (.inl (cI G, 6, .inl (fun j => if j < 6 then (-1) else (fun _ => 0) j))) := by rw [ef41, va_up_ne _ _ (Ne.symm n121)]; exact h29
        have h122 : f45 nw_27 = some (.inl (cI G, 6, .inl (fun j => if j < 6 then (-1) else (fun _ => 0) j))) := by rw [ef45, va_up_ne _ _ (hnew h120 w44)]; exact h120
        have n124 : nw_27 ≠ q43 := hnew h120 w44
        have h123 : f47 nw_27 = some (.inl (cI G, 6, .inl (fun j => if j < 6 then (-1) else (fun _ => 0) j))) := k57 _ _ h122 (ninc n124 nin0)
        have h125 : f64 nw_27 = some (.inl (cI G, 6, .inl (fun j => if j < 6 then (-1) else (fun _ => 0) j))) := by rw [ef64, va_up_ne _ _ (Ne.symm n121)]; exact h123
        have n127 : xo ≠ na_27 := hnew h38 wna27
        have h126 : f41 na_27 = some (.inl (cI G, 6, .inl (fun _ => 0))) := by rw [ef41, va_up_ne _ _ (Ne.symm n127)]; exact h30
        have h128 : f45 na_27 = some (.inl (cI G, 6, .inl (fun _ => 0))) := by rw [ef45, va_up_ne _ _ (hnew h126 w44)]; exact h126
        have n130 : na_27 ≠ q43 := hnew h126 w44
        have h129 : f47 na_27 = some (.inl (cI G, 6, .inl (fun _ => 0))) := k57 _ _ h128 (ninc n130 nin0)
        have h131 : f64 na_27 = some (.inl (cI G, 6, .inl (fun _ => 0))) := by rw [ef64, va_up_ne _ _ (Ne.symm n127)]; exact h129
        have n133 : xo ≠ nq_27 := hnew h38 wnq27
        have h132 : f41 nq_27 = some (.inl (cI G, 6, .inl (fun j => if j < 6 then (-1) else (fun _ => 0) j))) := by rw [ef41, va_up_ne _ _ (Ne.symm n133)]; exact h31
        have h134 : f45 nq_27 = some (.inl (cI G, 6, .inl (fun j => if j < 6 then (-1) else (fun _ => 0) j))) := by rw [ef45, va_up_ne _ _ (hnew h132 w44)]; exact h132
        have n136 : nq_27 ≠ q43 := hnew h132 w44
        have h135 : f47 nq_27 = some (.inl (cI G, 6, .inl (fun j => if j < 6 then (-1) else (fun _ => 0) j))) := k57 _ _ h134 (ninc n136 nin0)
        have h137 : f64 nq_27 = some (.inl (cI G, 6, .inl (fun j => if j < 6 then (-1) else (fun _ => 0) j))) := by rw [ef64, va_up_ne _ _ (Ne.symm n133)]; exact h135
        have n139 : xo ≠ nr_27 := hnew h38 wnr27
        have h138 : f41 nr_27 = some (.inr (3, [.null, .null, .int 0])) := by rw [ef41, va_up_ne _ _ (Ne.symm n139)]; exact h32
        have h140 : f45 nr_27 = some (.inr (3, [.null, .null, .int 0])) := by rw [ef45, va_up_ne _ _ (hnew h138 w44)]; exact h138
        have n142 : nr_27 ≠ q43 := hnew h138 w44
        have h141 : f47 nr_27 = some (.inr (3, [.null, .null, .int 0])) := k57 _ _ h140 (ninc n142 nin0)
        have h143 : f64 nr_27 = some (.inr (3, [.null, .null, .int 0])) := by rw [ef64, va_up_ne _ _ (Ne.symm n139)]; exact h141
        have h144 : f64 q43 = some (.inr (0, [.ref bs_48, .ref bp_48, .ref bh_48, .ref bf_48, .ref bl_48, .ref bg_48, .int 0, .int 0, .int 0])) := by rw [ef64, va_up_ne _ _ (Ne.symm n63)]; exact h49
        have n146 : xo ≠ bs_48 := hnew h61 wbs48
        have h145 : f64 bs_48 = some (.inl (cI G, 61, .inl (fun _ => 0))) := by rw [ef64, va_up_ne _ _ (Ne.symm n146)]; exact h50
        have n148 : xo ≠ bp_48 := hnew h61 wbp48
        have h147 : f64 bp_48 = some (.inl (cI G, 240, .inl (fun _ => 0))) := by rw [ef64, va_up_ne _ _ (Ne.symm n148)]; exact h51
        have n150 : xo ≠ bh_48 := hnew h61 wbh48
        have h149 : f64 bh_48 = some (.inl (cZ G, 240, .inl (fun _ => 0))) := by rw [ef64, va_up_ne _ _ (Ne.symm n150)]; exact h52
        have n152 : xo ≠ bf_48 := hnew h61 wbf48
        have h151 : f64 bf_48 = some (.inl (cI G, 3, .inl (upd (upd (upd (fun _ => 0) (0 : Int32).toNatClampNeg 0) (1 : Int32).toNatClampNeg 1) (2 : Int32).toNatClampNeg 2))) := by rw [ef64, va_up_ne _ _ (Ne.symm n152)]; exact h53
        have n154 : xo ≠ bl_48 := hnew h61 wbl48
        have h153 : f64 bl_48 = some (.inl (cI G, 3, .inl (fun j => if j < 3 then (-1) else (fun _ => 0) j))) := by rw [ef64, va_up_ne _ _ (Ne.symm n154)]; exact h54
        have n156 : xo ≠ bg_48 := hnew h61 wbg48
        have h155 : f64 bg_48 = some (.inl (cI G, 60, .inl (fun _ => 0))) := by rw [ef64, va_up_ne _ _ (Ne.symm n156)]; exact h55
        have n157 : q1 ≠ nw_6 := hnew h4 wnw6
        have n158 : q1 ≠ na_6 := hnew h4 wna6
        have n159 : q1 ≠ nq_6 := hnew h4 wnq6
        have n160 : q1 ≠ nr_6 := hnew h4 wnr6
        have n161 : q22 ≠ nw_27 := hnew h25 wnw27
        have n162 : nr_6 ≠ nw_27 := hnew h107 wnw27
        have n163 : nq_6 ≠ nw_27 := hnew h97 wnw27
        have n164 : na_6 ≠ nw_27 := hnew h87 wnw27
        have n165 : nw_6 ≠ nw_27 := hnew h77 wnw27
        have n166 : q1 ≠ nw_27 := hnew h67 wnw27
        have n167 : q22 ≠ na_27 := hnew h25 wna27
        have n168 : nr_6 ≠ na_27 := hnew h107 wna27
        have n169 : nq_6 ≠ na_27 := hnew h97 wna27
        have n170 : na_6 ≠ na_27 := hnew h87 wna27
        have n171 : nw_6 ≠ na_27 := hnew h77 wna27
        have n172 : q1 ≠ na_27 := hnew h67 wna27
        have n173 : q22 ≠ nq_27 := hnew h25 wnq27
        have n174 : nr_6 ≠ nq_27 := hnew h107 wnq27
        have n175 : nq_6 ≠ nq_27 := hnew h97 wnq27
        have n176 : na_6 ≠ nq_27 := hnew h87 wnq27
        have n177 : nw_6 ≠ nq_27 := hnew h77 wnq27
        have n178 : q1 ≠ nq_27 := hnew h67 wnq27
        have n179 : q22 ≠ nr_27 := hnew h25 wnr27
        have n180 : nr_6 ≠ nr_27 := hnew h107 wnr27
        have n181 : nq_6 ≠ nr_27 := hnew h97 wnr27
        have n182 : na_6 ≠ nr_27 := hnew h87 wnr27
        have n183 : nw_6 ≠ nr_27 := hnew h77 wnr27
        have n184 : q1 ≠ nr_27 := hnew h67 wnr27
        have n185 : q43 ≠ bs_48 := hnew h46 wbs48
        have n186 : nr_27 ≠ bs_48 := hnew h140 wbs48
        have n187 : nq_27 ≠ bs_48 := hnew h134 wbs48
        have n188 : na_27 ≠ bs_48 := hnew h128 wbs48
        have n189 : nw_27 ≠ bs_48 := hnew h122 wbs48
        have n190 : q22 ≠ bs_48 := hnew h116 wbs48
        have n191 : nr_6 ≠ bs_48 := hnew h111 wbs48
        have n192 : nq_6 ≠ bs_48 := hnew h101 wbs48
        have n193 : na_6 ≠ bs_48 := hnew h91 wbs48
        have n194 : nw_6 ≠ bs_48 := hnew h81 wbs48
        have n195 : q1 ≠ bs_48 := hnew h71 wbs48
        have n196 : q43 ≠ bp_48 := hnew h46 wbp48
        have n197 : nr_27 ≠ bp_48 := hnew h140 wbp48
        have n198 : nq_27 ≠ bp_48 := hnew h134 wbp48
        have n199 : na_27 ≠ bp_48 := hnew h128 wbp48
        have n200 : nw_27 ≠ bp_48 := hnew h122 wbp48
        have n201 : q22 ≠ bp_48 := hnew h116 wbp48
        have n202 : nr_6 ≠ bp_48 := hnew h111 wbp48
        have n203 : nq_6 ≠ bp_48 := hnew h101 wbp48
        have n204 : na_6 ≠ bp_48 := hnew h91 wbp48
        have n205 : nw_6 ≠ bp_48 := hnew h81 wbp48
        have n206 : q1 ≠ bp_48 := hnew h71 wbp48
        have n207 : q43 ≠ bh_48 := hnew h46 wbh48
        have n208 : nr_27 ≠ bh_48 := hnew h140 wbh48
        have n209 : nq_27 ≠ bh_48 := hnew h134 wbh48
        have n210 : na_27 ≠ bh_48 := hnew h128 wbh48
        have n211 : nw_27 ≠ bh_48 := hnew h122 wbh48
        have n212 : q22 ≠ bh_48 := hnew h116 wbh48
        have n213 : nr_6 ≠ bh_48 := hnew h111 wbh48
        have n214 : nq_6 ≠ bh_48 := hnew h101 wbh48
        have n215 : na_6 ≠ bh_48 := hnew h91 wbh48
        have n216 : nw_6 ≠ bh_48 := hnew h81 wbh48
        have n217 : q1 ≠ bh_48 := hnew h71 wbh48
        have n218 : q43 ≠ bf_48 := hnew h46 wbf48
        have n219 : nr_27 ≠ bf_48 := hnew h140 wbf48
        have n220 : nq_27 ≠ bf_48 := hnew h134 wbf48
        have n221 : na_27 ≠ bf_48 := hnew h128 wbf48
        have n222 : nw_27 ≠ bf_48 := hnew h122 wbf48
        have n223 : q22 ≠ bf_48 := hnew h116 wbf48
        have n224 : nr_6 ≠ bf_48 := hnew h111 wbf48
        have n225 : nq_6 ≠ bf_48 := hnew h101 wbf48
        have n226 : na_6 ≠ bf_48 := hnew h91 wbf48
        have n227 : nw_6 ≠ bf_48 := hnew h81 wbf48
        have n228 : q1 ≠ bf_48 := hnew h71 wbf48
        have n229 : q43 ≠ bl_48 := hnew h46 wbl48
        have n230 : nr_27 ≠ bl_48 := hnew h140 wbl48
        have n231 : nq_27 ≠ bl_48 := hnew h134 wbl48
        have n232 : na_27 ≠ bl_48 := hnew h128 wbl48
        have n233 : nw_27 ≠ bl_48 := hnew h122 wbl48
        have n234 : q22 ≠ bl_48 := hnew h116 wbl48
        have n235 : nr_6 ≠ bl_48 := hnew h111 wbl48
        have n236 : nq_6 ≠ bl_48 := hnew h101 wbl48
        have n237 : na_6 ≠ bl_48 := hnew h91 wbl48
        have n238 : nw_6 ≠ bl_48 := hnew h81 wbl48
        have n239 : q1 ≠ bl_48 := hnew h71 wbl48
        have n240 : q43 ≠ bg_48 := hnew h46 wbg48
        have n241 : nr_27 ≠ bg_48 := hnew h140 wbg48
        have n242 : nq_27 ≠ bg_48 := hnew h134 wbg48
        have n243 : na_27 ≠ bg_48 := hnew h128 wbg48
        have n244 : nw_27 ≠ bg_48 := hnew h122 wbg48
        have n245 : q22 ≠ bg_48 := hnew h116 wbg48
        have n246 : nr_6 ≠ bg_48 := hnew h111 wbg48
        have n247 : nq_6 ≠ bg_48 := hnew h101 wbg48
        have n248 : na_6 ≠ bg_48 := hnew h91 wbg48
        have n249 : nw_6 ≠ bg_48 := hnew h81 wbg48
        have n250 : q1 ≠ bg_48 := hnew h71 wbg48
        exact hp_vret B0 hw hS hr ⟨Nat.le_of_ble_eq_true rfl, Nat.le_of_ble_eq_true rfl⟩ dX4_init_39 (⟨rfl, q1, q22, q43, nw_6, na_6, nq_6, nr_6, nw_27, na_27, nq_27, nr_27, bs_48, bp_48, bh_48, bf_48, bl_48, bg_48, w2, (hKeep.none (hKeep.trn w2 ((show hKeep [q1, xo, q1, nw_6, na_6, nq_6, nr_6] f f3 from (by rw [ef3]; exact hKeep.up (by simp))).tr ((show hKeep [q1, xo, q1, nw_6, na_6, nq_6, nr_6] f3 f5 from (k15.mono (fun x9 hx9 => by simp only [List.mem_cons, List.not_mem_nil, or_false] at hx9 ⊢; omega))).tr (show hKeep [q1, xo, q1, nw_6, na_6, nq_6, nr_6] f5 f20 from (by rw [ef20]; exact hKeep.up (by simp)))))) w23 (ninc (Ne.symm n40) (ninc (Ne.symm n69) (ninc (Ne.symm n79) (ninc (Ne.symm n89) (ninc (Ne.symm n99) (ninc (Ne.symm n109) nin0))))))), (hKeep.none (hKeep.trn w2 ((show hKeep [q1, xo, q1, nw_6, na_6, nq_6, nr_6, q22, nw_27, na_27, nq_27, nr_27] f f3 from (by rw [ef3]; exact hKeep.up (by simp))).tr ((show hKeep [q1, xo, q1, nw_6, na_6, nq_6, nr_6, q22, nw_27, na_27, nq_27, nr_27] f3 f5 from (k15.mono (fun x9 hx9 => by simp only [List.mem_cons, List.not_mem_nil, or_false] at hx9 ⊢; omega))).tr ((show hKeep [q1, xo, q1, nw_6, na_6, nq_6, nr_6, q22, nw_27, na_27, nq_27, nr_27] f5 f20 from (by rw [ef20]; exact hKeep.up (by simp))).tr (hKeep.trn w23 ((show hKeep [q22, q1, xo, q1, nw_6, na_6, nq_6, nr_6, q22, nw_27, na_27, nq_27, nr_27] f20 f24 from (by rw [ef24]; exact hKeep.up (by simp))).tr ((show hKeep [q22, q1, xo, q1, nw_6, na_6, nq_6, nr_6, q22, nw_27, na_27, nq_27, nr_27] f24 f26 from (k36.mono (fun x9 hx9 => by simp only [List.mem_cons, List.not_mem_nil, or_false] at hx9 ⊢; omega))).tr (show hKeep [q22, q1, xo, q1, nw_6, na_6, nq_6, nr_6, q22, nw_27, na_27, nq_27, nr_27] f26 f41 from (by rw [ef41]; exact hKeep.up (by simp)))))))))) w44 (ninc (Ne.symm n63) (ninc (Ne.symm n73) (ninc (Ne.symm n83) (ninc (Ne.symm n93) (ninc (Ne.symm n103) (ninc (Ne.symm n113) (ninc (Ne.symm n118) (ninc (Ne.symm n124) (ninc (Ne.symm n130) (ninc (Ne.symm n136) (ninc (Ne.symm n142) nin0)))))))))))), (hKeep.none (hKeep.trn w2 (show hKeep [q1, xo, q1] f f3 from (by rw [ef3]; exact hKeep.up (by simp)))) wnw6 (ninc (Ne.symm n76) (ninc (Ne.symm n157) nin0))), (hKeep.none (hKeep.trn w2 (show hKeep [q1, xo, q1] f f3 from (by rw [ef3]; exact hKeep.up (by simp)))) wna6 (ninc (Ne.symm n86) (ninc (Ne.symm n158) nin0))), (hKeep.none (hKeep.trn w2 (show hKeep [q1, xo, q1] f f3 from (by rw [ef3]; exact hKeep.up (by simp)))) wnq6 (ninc (Ne.symm n96) (ninc (Ne.symm n159) nin0))), (hKeep.none (hKeep.trn w2 (show hKeep [q1, xo, q1] f f3 from (by rw [ef3]; exact hKeep.up (by simp)))) wnr6 (ninc (Ne.symm n106) (ninc (Ne.symm n160) nin0))), (hKeep.none (hKeep.trn w2 ((show hKeep [q1, xo, q1, nw_6, na_6, nq_6, nr_6, q22] f f3 from (by rw [ef3]; exact hKeep.up (by simp))).tr ((show hKeep [q1, xo, q1, nw_6, na_6, nq_6, nr_6, q22] f3 f5 from (k15.mono (fun x9 hx9 => by simp only [List.mem_cons, List.not_mem_nil, or_false] at hx9 ⊢; omega))).tr ((show hKeep [q1, xo, q1, nw_6, na_6, nq_6, nr_6, q22] f5 f20 from (by rw [ef20]; exact hKeep.up (by simp))).tr (hKeep.trn w23 (show hKeep [q22, q1, xo, q1, nw_6, na_6, nq_6, nr_6, q22] f20 f24 from (by rw [ef24]; exact hKeep.up (by simp)))))))) wnw27 (ninc (Ne.symm n121) (ninc (Ne.symm n166) (ninc (Ne.symm n165) (ninc (Ne.symm n164) (ninc (Ne.symm n163) (ninc (Ne.symm n162) (ninc (Ne.symm n161) nin0)))))))), (hKeep.none (hKeep.trn w2 ((show hKeep [q1, xo, q1, nw_6, na_6, nq_6, nr_6, q22] f f3 from (by rw [ef3]; exact hKeep.up (by simp))).tr ((show hKeep [q1, xo, q1, nw_6, na_6, nq_6, nr_6, q22] f3 f5 from (k15.mono (fun x9 hx9 => by simp only [List.mem_cons, List.not_mem_nil, or_false] at hx9 ⊢; omega))).tr ((show hKeep [q1, xo, q1, nw_6, na_6, nq_6, nr_6, q22] f5 f20 from (by rw [ef20]; exact hKeep.up (by simp))).tr (hKeep.trn w23 (show hKeep [q22, q1, xo, q1, nw_6, na_6, nq_6, nr_6, q22] f20 f24 from (by rw [ef24]; exact hKeep.up (by simp)))))))) wna27 (ninc (Ne.symm n127) (ninc (Ne.symm n172) (ninc (Ne.symm n171) (ninc (Ne.symm n170) (ninc (Ne.symm n169) (ninc (Ne.symm n168) (ninc (Ne.symm n167) nin0)))))))), (hKeep.none (hKeep.trn w2 ((show hKeep [q1, xo, q1, nw_6, na_6, nq_6, nr_6, q22] f f3 from (by rw [ef3]; exact hKeep.up (by simp))).tr ((show hKeep [q1, xo, q1, nw_6, na_6, nq_6, nr_6, q22] f3 f5 from (k15.mono (fun x9 hx9 => by simp only [List.mem_cons, List.not_mem_nil, or_false] at hx9 ⊢; omega))).tr ((show hKeep [q1, xo, q1, nw_6, na_6, nq_6, nr_6, q22] f5 f20 from (by rw [ef20]; exact hKeep.up (by simp))).tr (hKeep.trn w23 (show hKeep [q22, q1, xo, q1, nw_6, na_6, nq_6, nr_6, q22] f20 f24 from (by rw [ef24]; exact hKeep.up (by simp)))))))) wnq27 (ninc (Ne.symm n133) (ninc (Ne.symm n178) (ninc (Ne.symm n177) (ninc (Ne.symm n176) (ninc (Ne.symm n175) (ninc (Ne.symm n174) (ninc (Ne.symm n173) nin0)))))))), (hKeep.none (hKeep.trn w2 ((show hKeep [q1, xo, q1, nw_6, na_6, nq_6, nr_6, q22] f f3 from (by rw [ef3]; exact hKeep.up (by simp))).tr ((show hKeep [q1, xo, q1, nw_6, na_6, nq_6, nr_6, q22] f3 f5 from (k15.mono (fun x9 hx9 => by simp only [List.mem_cons, List.not_mem_nil, or_false] at hx9 ⊢; omega))).tr ((show hKeep [q1, xo, q1, nw_6, na_6, nq_6, nr_6, q22] f5 f20 from (by rw [ef20]; exact hKeep.up (by simp))).tr (hKeep.trn w23 (show hKeep [q22, q1, xo, q1, nw_6, na_6, nq_6, nr_6, q22] f20 f24 from (by rw [ef24]; exact hKeep.up (by simp)))))))) wnr27 (ninc (Ne.symm n139) (ninc (Ne.symm n184) (ninc (Ne.symm n183) (ninc (Ne.symm n182) (ninc (Ne.symm n181) (ninc (Ne.symm n180) (ninc (Ne.symm n179) nin0)))))))), (hKeep.none (hKeep.trn w2 ((show hKeep [q1, xo, q1, nw_6, na_6, nq_6, nr_6, q22, nw_27, na_27, nq_27, nr_27, q43] f f3 from (by rw [ef3]; exact hKeep.up (by simp))).tr ((show hKeep [q1, xo, q1, nw_6, na_6, nq_6, nr_6, q22, nw_27, na_27, nq_27, nr_27, q43] f3 f5 from (k15.mono (fun x9 hx9 => by simp only [List.mem_cons, List.not_mem_nil, or_false] at hx9 ⊢; omega))).tr ((show hKeep [q1, xo, q1, nw_6, na_6, nq_6, nr_6, q22, nw_27, na_27, nq_27, nr_27, q43] f5 f20 from (by rw [ef20]; exact hKeep.up (by simp))).tr (hKeep.trn w23 ((show hKeep [q22, q1, xo, q1, nw_6, na_6, nq_6, nr_6, q22, nw_27, na_27, nq_27, nr_27, q43] f20 f24 from (by rw [ef24]; exact hKeep.up (by simp))).tr ((show hKeep [q22, q1, xo, q1, nw_6, na_6, nq_6, nr_6, q22, nw_27, na_27, nq_27, nr_27, q43] f24 f26 from (k36.mono (fun x9 hx9 => by simp only [List.mem_cons, List.not_mem_nil, or_false] at hx9 ⊢; omega))).tr ((show hKeep [q22, q1, xo, q1, nw_6, na_6, nq_6, nr_6, q22, nw_27, na_27, nq_27, nr_27, q43] f26 f41 from (by rw [ef41]; exact hKeep.up (by simp))).tr (hKeep.trn w44 (show hKeep [q43, q22, q1, xo, q1, nw_6, na_6, nq_6, nr_6, q22, nw_27, na_27, nq_27, nr_27, q43] f41 f45 from (by rw [ef45]; exact hKeep.up (by simp)))))))))))) wbs48 (ninc (Ne.symm n146) (ninc (Ne.symm n195) (ninc (Ne.symm n194) (ninc (Ne.symm n193) (ninc (Ne.symm n192) (ninc (Ne.symm n191) (ninc (Ne.symm n190) (ninc (Ne.symm n189) (ninc (Ne.symm n188) (ninc (Ne.symm n187) (ninc (Ne.symm n186) (ninc (Ne.symm n185) nin0))))))))))))), (hKeep.none (hKeep.trn w2 ((show hKeep [q1, xo, q1, nw_6, na_6, nq_6, nr_6, q22, nw_27, na_27, nq_27, nr_27, q43] f f3 from (by rw [ef3]; exact hKeep.up (by simp))).tr ((show hKeep [q1, xo, q1, nw_6, na_6, nq_6, nr_6, q22, nw_27, na_27, nq_27, nr_27, q43] f3 f5 from (k15.mono (fun x9 hx9 => by simp only [List.mem_cons, List.not_mem_nil, or_false] at hx9 ⊢; omega))).tr ((show hKeep [q1, xo, q1, nw_6, na_6, nq_6, nr_6, q22, nw_27, na_27, nq_27, nr_27, q43] f5 f20 from (by rw [ef20]; exact hKeep.up (by simp))).tr (hKeep.trn w23 ((show hKeep [q22, q1, xo, q1, nw_6, na_6, nq_6, nr_6, q22, nw_27, na_27, nq_27, nr_27, q43] f20 f24 from (by rw [ef24]; exact hKeep.up (by simp))).tr ((show hKeep [q22, q1, xo, q1, nw_6, na_6, nq_6, nr_6, q22, nw_27, na_27, nq_27, nr_27, q43] f24 f26 from (k36.mono (fun x9 hx9 => by simp only [List.mem_cons, List.not_mem_nil, or_false] at hx9 ⊢; omega))).tr ((show hKeep [q22, q1, xo, q1, nw_6, na_6, nq_6, nr_6, q22, nw_27, na_27, nq_27, nr_27, q43] f26 f41 from (by rw [ef41]; exact hKeep.up (by simp))).tr (hKeep.trn w44 (show hKeep [q43, q22, q1, xo, q1, nw_6, na_6, nq_6, nr_6, q22, nw_27, na_27, nq_27, nr_27, q43] f41 f45 from (by rw [ef45]; exact hKeep.up (by simp)))))))))))) wbp48 (ninc (Ne.symm n148) (ninc (Ne.symm n206) (ninc (Ne.symm n205) (ninc (Ne.symm n204) (ninc (Ne.symm n203) (ninc (Ne.symm n202) (ninc (Ne.symm n201) (ninc (Ne.symm n200) (ninc (Ne.symm n199) (ninc (Ne.symm n198) (ninc (Ne.symm n197) (ninc (Ne.symm n196) nin0))))))))))))), (hKeep.none (hKeep.trn w2 ((show hKeep [q1, xo, q1, nw_6, na_6, nq_6, nr_6, q22, nw_27, na_27, nq_27, nr_27, q43] f f3 from (by rw [ef3]; exact hKeep.up (by simp))).tr ((show hKeep [q1, xo, q1, nw_6, na_6, nq_6, nr_6, q22, nw_27, na_27, nq_27, nr_27, q43] f3 f5 from (k15.mono (fun x9 hx9 => by simp only [List.mem_cons, List.not_mem_nil, or_false] at hx9 ⊢; omega))).tr ((show hKeep [q1, xo, q1, nw_6, na_6, nq_6, nr_6, q22, nw_27, na_27, nq_27, nr_27, q43] f5 f20 from (by rw [ef20]; exact hKeep.up (by simp))).tr (hKeep.trn w23 ((show hKeep [q22, q1, xo, q1, nw_6, na_6, nq_6, nr_6, q22, nw_27, na_27, nq_27, nr_27, q43] f20 f24 from (by rw [ef24]; exact hKeep.up (by simp))).tr ((show hKeep [q22, q1, xo, q1, nw_6, na_6, nq_6, nr_6, q22, nw_27, na_27, nq_27, nr_27, q43] f24 f26 from (k36.mono (fun x9 hx9 => by simp only [List.mem_cons, List.not_mem_nil, or_false] at hx9 ⊢; omega))).tr ((show hKeep [q22, q1, xo, q1, nw_6, na_6, nq_6, nr_6, q22, nw_27, na_27, nq_27, nr_27, q43] f26 f41 from (by rw [ef41]; exact hKeep.up (by simp))).tr (hKeep.trn w44 (show hKeep [q43, q22, q1, xo, q1, nw_6, na_6, nq_6, nr_6, q22, nw_27, na_27, nq_27, nr_27, q43] f41 f45 from (by rw [ef45]; exact hKeep.up (by simp)))))))))))) wbh48 (ninc (Ne.symm n150) (ninc (Ne.symm n217) (ninc (Ne.symm n216) (ninc (Ne.symm n215) (ninc (Ne.symm n214) (ninc (Ne.symm n213) (ninc (Ne.symm n212) (ninc (Ne.symm n211) (ninc (Ne.symm n210) (ninc (Ne.symm n209) (ninc (Ne.symm n208) (ninc (Ne.symm n207) nin0))))))))))))), (hKeep.none (hKeep.trn w2 ((show hKeep [q1, xo, q1, nw_6, na_6, nq_6, nr_6, q22, nw_27, na_27, nq_27, nr_27, q43] f f3 from (by rw [ef3]; exact hKeep.up (by simp))).tr ((show hKeep [q1, xo, q1, nw_6, na_6, nq_6, nr_6, q22, nw_27, na_27, nq_27, nr_27, q43] f3 f5 from (k15.mono (fun x9 hx9 => by simp only [List.mem_cons, List.not_mem_nil, or_false] at hx9 ⊢; omega))).tr ((show hKeep [q1, xo, q1, nw_6, na_6, nq_6, nr_6, q22, nw_27, na_27, nq_27, nr_27, q43] f5 f20 from (by rw [ef20]; exact hKeep.up (by simp))).tr (hKeep.trn w23 ((show hKeep [q22, q1, xo, q1, nw_6, na_6, nq_6, nr_6, q22, nw_27, na_27, nq_27, nr_27, q43] f20 f24 from (by rw [ef24]; exact hKeep.up (by simp))).tr ((show hKeep [q22, q1, xo, q1, nw_6, na_6, nq_6, nr_6, q22, nw_27, na_27, nq_27, nr_27, q43] f24 f26 from (k36.mono (fun x9 hx9 => by simp only [List.mem_cons, List.not_mem_nil, or_false] at hx9 ⊢; omega))).tr ((show hKeep [q22, q1, xo, q1, nw_6, na_6, nq_6, nr_6, q22, nw_27, na_27, nq_27, nr_27, q43] f26 f41 from (by rw [ef41]; exact hKeep.up (by simp))).tr (hKeep.trn w44 (show hKeep [q43, q22, q1, xo, q1, nw_6, na_6, nq_6, nr_6, q22, nw_27, na_27, nq_27, nr_27, q43] f41 f45 from (by rw [ef45]; exact hKeep.up (by simp)))))))))))) wbf48 (ninc (Ne.symm n152) (ninc (Ne.symm n228) (ninc (Ne.symm n227) (ninc (Ne.symm n226) (ninc (Ne.symm n225) (ninc (Ne.symm n224) (ninc (Ne.symm n223) (ninc (Ne.symm n222) (ninc (Ne.symm n221) (ninc (Ne.symm n220) (ninc (Ne.symm n219) (ninc (Ne.symm n218) nin0))))))))))))), (hKeep.none (hKeep.trn w2 ((show hKeep [q1, xo, q1, nw_6, na_6, nq_6, nr_6, q22, nw_27, na_27, nq_27, nr_27, q43] f f3 from (by rw [ef3]; exact hKeep.up (by simp))).tr ((show hKeep [q1, xo, q1, nw_6, na_6, nq_6, nr_6, q22, nw_27, na_27, nq_27, nr_27, q43] f3 f5 from (k15.mono (fun x9 hx9 => by simp only [List.mem_cons, List.not_mem_nil, or_false] at hx9 ⊢; omega))).tr ((show hKeep [q1, xo, q1, nw_6, na_6, nq_6, nr_6, q22, nw_27, na_27, nq_27, nr_27, q43] f5 f20 from (by rw [ef20]; exact hKeep.up (by simp))).tr (hKeep.trn w23 ((show hKeep [q22, q1, xo, q1, nw_6, na_6, nq_6, nr_6, q22, nw_27, na_27, nq_27, nr_27, q43] f20 f24 from (by rw [ef24]; exact hKeep.up (by simp))).tr ((show hKeep [q22, q1, xo, q1, nw_6, na_6, nq_6, nr_6, q22, nw_27, na_27, nq_27, nr_27, q43] f24 f26 from (k36.mono (fun x9 hx9 => by simp only [List.mem_cons, List.not_mem_nil, or_false] at hx9 ⊢; omega))).tr ((show hKeep [q22, q1, xo, q1, nw_6, na_6, nq_6, nr_6, q22, nw_27, na_27, nq_27, nr_27, q43] f26 f41 from (by rw [ef41]; exact hKeep.up (by simp))).tr (hKeep.trn w44 (show hKeep [q43, q22, q1, xo, q1, nw_6, na_6, nq_6, nr_6, q22, nw_27, na_27, nq_27, nr_27, q43] f41 f45 from (by rw [ef45]; exact hKeep.up (by simp)))))))))))) wbl48 (ninc (Ne.symm n154) (ninc (Ne.symm n239) (ninc (Ne.symm n238) (ninc (Ne.symm n237) (ninc (Ne.symm n236) (ninc (Ne.symm n235) (ninc (Ne.symm n234) (ninc (Ne.symm n233) (ninc (Ne.symm n232) (ninc (Ne.symm n231) (ninc (Ne.symm n230) (ninc (Ne.symm n229) nin0))))))))))))), (hKeep.none (hKeep.trn w2 ((show hKeep [q1, xo, q1, nw_6, na_6, nq_6, nr_6, q22, nw_27, na_27, nq_27, nr_27, q43] f f3 from (by rw [ef3]; exact hKeep.up (by simp))).tr ((show hKeep [q1, xo, q1, nw_6, na_6, nq_6, nr_6, q22, nw_27, na_27, nq_27, nr_27, q43] f3 f5 from (k15.mono (fun x9 hx9 => by simp only [List.mem_cons, List.not_mem_nil, or_false] at hx9 ⊢; omega))).tr ((show hKeep [q1, xo, q1, nw_6, na_6, nq_6, nr_6, q22, nw_27, na_27, nq_27, nr_27, q43] f5 f20 from (by rw [ef20]; exact hKeep.up (by simp))).tr (hKeep.trn w23 ((show hKeep [q22, q1, xo, q1, nw_6, na_6, nq_6, nr_6, q22, nw_27, na_27, nq_27, nr_27, q43] f20 f24 from (by rw [ef24]; exact hKeep.up (by simp))).tr ((show hKeep [q22, q1, xo, q1, nw_6, na_6, nq_6, nr_6, q22, nw_27, na_27, nq_27, nr_27, q43] f24 f26 from (k36.mono (fun x9 hx9 => by simp only [List.mem_cons, List.not_mem_nil, or_false] at hx9 ⊢; omega))).tr ((show hKeep [q22, q1, xo, q1, nw_6, na_6, nq_6, nr_6, q22, nw_27, na_27, nq_27, nr_27, q43] f26 f41 from (by rw [ef41]; exact hKeep.up (by simp))).tr (hKeep.trn w44 (show hKeep [q43, q22, q1, xo, q1, nw_6, na_6, nq_6, nr_6, q22, nw_27, na_27, nq_27, nr_27, q43] f41 f45 from (by rw [ef45]; exact hKeep.up (by simp)))))))))))) wbg48 (ninc (Ne.symm n156) (ninc (Ne.symm n250) (ninc (Ne.symm n249) (ninc (Ne.symm n248) (ninc (Ne.symm n247) (ninc (Ne.symm n246) (ninc (Ne.symm n245) (ninc (Ne.symm n244) (ninc (Ne.symm n243) (ninc (Ne.symm n242) (ninc (Ne.symm n241) (ninc (Ne.symm n240) nin0))))))))))))), h65, h74, h84, h94, h104, h114, h119, h125, h131, h137, h143, h144, h145, h147, h149, h151, h153, h155, n69, n180, n12, n13, n165, n171, n177, n14, n164, n170, n176, n163, n169, n175, n33, n34, n35, n59, n60, (hKeep.trn w2 ((show hKeep [q1, xo] f f3 from (by rw [ef3]; exact hKeep.up (by simp))).tr ((show hKeep [q1, xo] f3 f5 from (k15.mono (fun x9 hx9 => by simp only [List.mem_cons, List.not_mem_nil, or_false] at hx9 ⊢; omega))).tr ((show hKeep [q1, xo] f5 f20 from (by rw [ef20]; exact hKeep.up (by simp))).tr (hKeep.trn w23 ((show hKeep [q22, q1, xo] f20 f24 from (by rw [ef24]; exact hKeep.up (by simp))).tr ((show hKeep [q22, q1, xo] f24 f26 from (k36.mono (fun x9 hx9 => by simp only [List.mem_cons, List.not_mem_nil, or_false] at hx9 ⊢; omega))).tr ((show hKeep [q22, q1, xo] f26 f41 from (by rw [ef41]; exact hKeep.up (by simp))).tr (hKeep.trn w44 ((show hKeep [q43, q22, q1, xo] f41 f45 from (by rw [ef45]; exact hKeep.up (by simp))).tr ((show hKeep [q43, q22, q1, xo] f45 f47 from (k57.mono (fun x9 hx9 => by simp only [List.mem_cons, List.not_mem_nil, or_false] at hx9 ⊢; omega))).tr (show hKeep [q43, q22, q1, xo] f47 f64 from (by rw [ef64]; exact hKeep.up (by simp)))))))))))))), ((show NF f f3 from (by rw [ef3]; exact NF.up (Nat.ne_of_beq_eq_false rfl))).tr (z16.tr ((show NF f5 f20 from (by rw [ef20]; exact NF.up (Nat.ne_of_beq_eq_false rfl))).tr ((show NF f20 f24 from (by rw [ef24]; exact NF.up (Nat.ne_of_beq_eq_false rfl))).tr (z37.tr ((show NF f26 f41 from (by rw [ef41]; exact NF.up (Nat.ne_of_beq_eq_false rfl))).tr ((show NF f41 f45 from (by rw [ef45]; exact NF.up (Nat.ne_of_beq_eq_false rfl))).tr (z58.tr (show NF f47 f64 from (by rw [ef64]; exact NF.up (Nat.ne_of_beq_eq_false rfl)))))))))))⟩)
end
section
/-! Frames: any number of them, each with its row of six; what holds of all of them at once. -/
def FRef (f : hM) (v : Value) : Prop := v = .null ∨ ∃ (b : Nat) (k : List Value), v = .ref b ∧ f b = some (.inr (2, k))
def PoolX (G : hG) (S : List Nat) (f : hM) : Prop := ∀ (a : Nat) (k : List Value), f a = some (.inr (2, k)) → a ∉ S → ∃ (x1 x2 x3 : Int32) (v : Nat) (bh : Value) (g : Nat → Int32), k = [.int x1, .int x2, .int x3, .ref v, bh] ∧ f v = some (.inl (cI G, 6, .inl g)) ∧ FRef f bh
/-- cells that are no frames and not in S stay; frames stay frames -/
def hKp (S : List Nat) (f f1 : hM) : Prop := (∀ a e, f a = some e → hTag e ≠ 3 → a ∉ S → f1 a = some e) ∧ ∀ a k, f a = some (.inr (2, k)) → ∃ k1, f1 a = some (.inr (2, k1))
theorem hKp.rf {S : List Nat} {f : hM} : hKp S f f := ⟨fun _ _ h _ _ => h, fun _ k h => ⟨k, h⟩⟩
theorem hKp.tr {S : List Nat} {f f1 f2 : hM} (h : hKp S f f1) (h2 : hKp S f1 f2) : hKp S f f2 :=
  ⟨fun a e q t n => h2.1 a e (h.1 a e q t n) t n, fun a k q => by obtain ⟨k1, q1⟩ := h.2 a k q; exact h2.2 a k1 q1⟩
theorem hKp.mono {S T : List Nat} {f f1 : hM} (h : hKp S f f1) (hs : ∀ a, a ∈ S → a ∈ T) : hKp T f f1 := ⟨fun a e q t n => h.1 a e q t (fun z => n (hs a z)), h.2⟩
theorem hTag3 {e : va_E} (h : hTag e = 3) : ∃ k, e = .inr (2, k) := by
  cases e with
  | inl x => exact absurd h (by show (0 : Nat) ≠ 3; decide)
  | inr o => obtain ⟨c, k⟩ := o; have h9 : c + 1 = 3 := h; exact ⟨k, by rw [show c = 2 by omega]⟩
theorem hKp.of {S : List Nat} {f f1 : hM} (h : hKeep S f f1) (hS : ∀ a ∈ S, ∀ k, f a ≠ some (.inr (2, k))) : hKp S f f1 :=
  ⟨fun a e q _ n => h a e q n, fun a k q => ⟨k, h a _ q (fun n => hS a n k q)⟩⟩
/-- one cell of S is written, no frame before and after -/
theorem hKp.up {S : List Nat} {f : hM} {a : Nat} {e0 e1 : va_E} (ha : f a = some e0) (h0 : hTag e0 ≠ 3) (hS : a ∈ S) : hKp S f (va_up f a (some e1)) := by
  refine ⟨fun b e q _ n => ?_, fun b k q => ⟨k, ?_⟩⟩
  · rw [va_up_ne _ _ (fun z => n (by rw [z]; exact hS))]; exact q
  · rw [va_up_ne _ _ (fun z => by rw [z, ha] at q; cases q; exact h0 rfl)]; exact q
/-- a frame is written, and stays one -/
theorem hKp.fr {S : List Nat} {f : hM} {a : Nat} {k0 k1 : List Value} (ha : f a = some (.inr (2, k0))) : hKp S f (va_up f a (some (.inr (2, k1)))) := by
  refine ⟨fun b e q t _ => ?_, fun b k q => ?_⟩
  · rw [va_up_ne _ _ (fun z => by rw [z, ha] at q; cases q; exact t rfl)]; exact q
  · by_cases z : b = a
    · rw [z, va_up_self]; exact ⟨k1, rfl⟩
    · rw [va_up_ne _ _ z]; exact ⟨k, q⟩
theorem hKp.new {S : List Nat} {f : hM} {q : Nat} {e : va_E} (hq : f q = none) : hKp S f (va_up f q (some e)) := by
  refine ⟨fun b x h _ _ => ?_, fun b k h => ⟨k, ?_⟩⟩ <;> (rw [va_up_ne _ _ (fun z => by rw [z, hq] at h; cases h)]; exact h)
/-- what was made anew may be written too -/
theorem hKp.trn {S : List Nat} {f f2 : hM} {q : Nat} (hq : f q = none) (h2 : hKp (q :: S) f f2) : hKp S f f2 := ⟨fun a e h t n => h2.1 a e h t (ninc (fun z => by rw [z, hq] at h; cases h) n), h2.2⟩
theorem FRef.kp {S : List Nat} {f f1 : hM} {v : Value} (h : FRef f v) (k : hKp S f f1) : FRef f1 v := by
  rcases h with h | ⟨b, x, h1, h2⟩
  · exact Or.inl h
  · obtain ⟨x1, h3⟩ := k.2 b x h2
    exact Or.inr ⟨b, x1, h1, h3⟩
theorem FRef.nul {f : hM} : FRef f .null := Or.inl rfl
theorem FRef.ref {f : hM} {b : Nat} {k : List Value} (h : f b = some (.inr (2, k))) : FRef f (.ref b) := Or.inr ⟨b, k, rfl, h⟩
theorem px_upd {G : hG} {S : List Nat} {f : hM} {a : Nat} {e0 e1 : va_E} (h : PoolX G S f) (ha : f a = some e0) (h0 : hTag e0 ≠ 3) (h1 : hTag e1 ≠ 3) (hr : ∀ g, e0 = .inl (cI G, 6, .inl g) → ∃ g', e1 = .inl (cI G, 6, .inl g')) : PoolX G S (va_up f a (some e1)) := by
  intro b k hb hn
  have hba : b ≠ a := fun z => by rw [z, va_up_self] at hb; cases hb; exact h1 rfl
  rw [va_up_ne _ _ hba] at hb
  obtain ⟨x1, x2, x3, v, bh, g, h2, h3, h4⟩ := h b k hb hn
  have h5 := h4.kp (hKp.up (S := [a]) (e1 := e1) ha h0 List.mem_cons_self)
  by_cases z : v = a
  · rw [z, ha] at h3
    cases h3
    obtain ⟨g', hg⟩ := hr g rfl
    exact ⟨x1, x2, x3, v, bh, g', h2, by rw [z, va_up_self, hg], h5⟩
  · exact ⟨x1, x2, x3, v, bh, g, h2, by rw [va_up_ne _ _ z]; exact h3, h5⟩
theorem px_new {G : hG} {S : List Nat} {f : hM} {q : Nat} {e : va_E} (h : PoolX G S f) (hq : f q = none) (h1 : hTag e ≠ 3) : PoolX G S (va_up f q (some e)) := by
  intro b k hb hn
  have hba : b ≠ q := fun z => by rw [z, va_up_self] at hb; cases hb; exact h1 rfl
  rw [va_up_ne _ _ hba] at hb
  obtain ⟨x1, x2, x3, v, bh, g, h2, h3, h4⟩ := h b k hb hn
  exact ⟨x1, x2, x3, v, bh, g, h2, by rw [va_up_ne _ _ (fun z => by rw [z, hq] at h3; cases h3)]; exact h3, h4.kp (hKp.new (S := []) hq)⟩
theorem px_newF {G : hG} {S : List Nat} {f : hM} {q : Nat} {k9 : List Value} (h : PoolX G S f) (hq : f q = none) : PoolX G (q :: S) (va_up f q (some (.inr (2, k9)))) := by
  intro b k hb hn
  have hba : b ≠ q := fun z => hn (by rw [z]; exact List.mem_cons_self)
  rw [va_up_ne _ _ hba] at hb
  obtain ⟨x1, x2, x3, v, bh, g, h2, h3, h4⟩ := h b k hb (fun z => hn (List.mem_cons_of_mem _ z))
  exact ⟨x1, x2, x3, v, bh, g, h2, by rw [va_up_ne _ _ (fun z => by rw [z, hq] at h3; cases h3)]; exact h3, h4.kp (hKp.new (S := []) hq)⟩
theorem px_frame {G : hG} {S S1 : List Nat} {f : hM} {a : Nat} {k0 : List Value} {x1 x2 x3 : Int32} {v : Nat} {bh : Value} {g : Nat → Int32} (h : PoolX G S f) (ha : f a = some (.inr (2, k0))) (hv : f v = some (.inl (cI G, 6, .inl g))) (hb : FRef f bh) (hS : ∀ b, b ∈ S → b ≠ a → b ∈ S1) : PoolX G S1 (va_up f a (some (.inr (2, [.int x1, .int x2, .int x3, .ref v, bh])))) := by
  have key : ∀ {w : Value}, FRef f w → FRef (va_up f a (some (.inr (2, [.int x1, .int x2, .int x3, .ref v, bh])))) w := fun hw => hw.kp (hKp.fr (S := []) ha)
  have arr : ∀ {z : Nat} {y : Nat → Int32}, f z = some (.inl (cI G, 6, .inl y)) → va_up f a (some (.inr (2, [.int x1, .int x2, .int x3, .ref v, bh]))) z = some (.inl (cI G, 6, .inl y)) := fun hz => by
    rw [va_up_ne _ _ (fun e => by rw [e, ha] at hz; cases hz)]; exact hz
  intro b k hb9 hn
  by_cases z : b = a
  · rw [z, va_up_self] at hb9
    cases hb9
    exact ⟨x1, x2, x3, v, bh, g, rfl, arr hv, key hb⟩
  · rw [va_up_ne _ _ z] at hb9
    obtain ⟨y1, y2, y3, v2, bh2, g2, h2, h3, h4⟩ := h b k hb9 (fun q => hn (hS b q z))
    exact ⟨y1, y2, y3, v2, bh2, g2, h2, arr h3, key h4⟩
section HFORC
variable {p : Program} {l : Launch} {e : Env} {R : Room} {s : State} {m : MethodId} {args : Array Value} {below : List Frame} {meth : Method} {c : Code} {Q : State → Prop}
variable {nL pc : Nat} {G : hG}
/-- a counted loop that makes cells: so many a round -/
theorem hp_forC (I : Nat → hM → List (Nat × Value) → Prop) (T c0 s0 dc ds : Nat)
    (step : ∀ (j : Nat) (f : hM) (lv : List (Nat × Value)) (H : Heap) (locs : List Loc) (ls : Array Slot), j < T → I j f lv → hW G f H → va_S (hFr G) s.heap H locs → lv_has ls nL lv →
      (∀ (f : hM) (lv : List (Nat × Value)) (H : Heap) (locs : List Loc) (ls : Array Slot), I (j + 1) f lv → hW G f H → va_S (hFr G) s.heap H locs → lv_has ls nL lv → W p l e R s m args below meth c H locs (c0 + (j + 1) * dc) (s0 + (j + 1) * ds) Q (F0 m pc ls [])) → W p l e R s m args below meth c H locs (c0 + j * dc) (s0 + j * ds) Q (F0 m pc ls []))
    (exit : ∀ (f : hM) (lv : List (Nat × Value)) (H : Heap) (locs : List Loc) (ls : Array Slot), I T f lv → hW G f H → va_S (hFr G) s.heap H locs → lv_has ls nL lv → W p l e R s m args below meth c H locs (c0 + T * dc) (s0 + T * ds) Q (F0 m pc ls [])) :
    ∀ (n j : Nat), j + n = T → ∀ (f : hM) (lv : List (Nat × Value)) (H : Heap) (locs : List Loc) (ls : Array Slot), I j f lv → hW G f H → va_S (hFr G) s.heap H locs → lv_has ls nL lv → W p l e R s m args below meth c H locs (c0 + j * dc) (s0 + j * ds) Q (F0 m pc ls []) := by
  intro n
  induction n with
  | zero =>
    intro j hj f lv H locs ls hI hw hS hl
    have e9 : j = T := by omega
    subst e9
    exact exit f lv H locs ls hI hw hS hl
  | succ n ih =>
    intro j hj f lv H locs ls hI hw hS hl
    exact step j f lv H locs ls (by omega) hI hw hS hl (fun f2 lv2 H2 locs2 ls2 h1 h2 h3 h4 => ih (j + 1) (by omega) f2 lv2 H2 locs2 ls2 h1 h2 h3 h4)
end HFORC

def hLen (e : va_E) : Nat := match e with
  | .inl a => a.2.1
  | .inr _ => 0
theorem hneL {f : hM} {a b : Nat} {x y : va_E} (ha : f a = some x) (hb : f b = some y) (h : hLen x ≠ hLen y) : a ≠ b := fun e => by
  rw [e, hb] at ha
  cases ha
  exact h rfl
def hEq (S : List Nat) (f f1 : hM) : Prop := ∀ a, a ∉ S → f1 a = f a
theorem sub_nil {S : List Nat} : ∀ x, x ∈ ([] : List Nat) → x ∈ S := fun _ h => nomatch h
theorem sub_cons {a : Nat} {L S : List Nat} (h : a ∈ S) (t : ∀ x, x ∈ L → x ∈ S) : ∀ x, x ∈ a :: L → x ∈ S := fun x hx => by
  rcases List.mem_cons.mp hx with e | e
  · rw [e]; exact h
  · exact t x e
theorem hEq.rf {S : List Nat} {f : hM} : hEq S f f := fun _ _ => rfl
theorem hEq.tr {S : List Nat} {f f1 f2 : hM} (h : hEq S f f1) (h2 : hEq S f1 f2) : hEq S f f2 := fun a n => (h2 a n).trans (h a n)
theorem hEq.mono {S T : List Nat} {f f1 : hM} (h : hEq S f f1) (hs : ∀ a, a ∈ S → a ∈ T) : hEq T f f1 := fun a n => h a (fun z => n (hs a z))
theorem hEq.up {S : List Nat} {f : hM} {a : Nat} {e : Option va_E} (h : a ∈ S) : hEq S f (va_up f a e) := fun b n => va_up_ne _ _ (fun z => n (by rw [z]; exact h))
theorem hEq.k {S : List Nat} {f f1 : hM} (h : hEq S f f1) : hKeep S f f1 := fun a e q n => (h a n).trans q
theorem px_eq {G : hG} {S T : List Nat} {f f1 : hM} (h : PoolX G T f) (he : hEq S f f1) (hS : ∀ b, b ∈ S → ∃ e0 e1, f b = some e0 ∧ f1 b = some e1 ∧ hTag e0 ≠ 3 ∧ hTag e1 ≠ 3 ∧ hLen e0 ≠ 6) : PoolX G T f1 := by
  intro b k hb hn
  have hb0 : b ∉ S := fun z => by
    obtain ⟨e0, e1, q0, q1, t0, t1, l0⟩ := hS b z
    rw [hb] at q1; cases q1; exact t1 rfl
  rw [he b hb0] at hb
  obtain ⟨x1, x2, x3, v, bh, g, h2, h3, h4⟩ := h b k hb hn
  have hv0 : v ∉ S := fun z => by
    obtain ⟨e0, e1, q0, q1, t0, t1, l0⟩ := hS v z
    rw [h3] at q0; cases q0; exact l0 rfl
  refine ⟨x1, x2, x3, v, bh, g, h2, by rw [he v hv0]; exact h3, ?_⟩
  rcases h4 with h4 | ⟨w, k2, h5, h6⟩
  · exact Or.inl h4
  · have hw0 : w ∉ S := fun z => by
      obtain ⟨e0, e1, q0, q1, t0, t1, l0⟩ := hS w z
      rw [h6] at q0; cases q0; exact t0 rfl
    exact Or.inr ⟨w, k2, h5, by rw [he w hw0]; exact h6⟩
/-- an end, but its wishes and sets: some state, a row of six that it asks for, a row of frames -/
def EF (G : hG) (f : hM) (en nw na nq nr : Nat) (mg : Int32) : Prop := ∃ (st tm sr li lp mi cn : Int32) (gq : Nat → Int32) (hd tl : Value), f en = some (.inr (1, [.ref nw, .ref na, .ref nq, .ref nr, .int mg, .int st, .int tm, .int sr, .int li, .int lp, .int mi])) ∧ f nq = some (.inl (cI G, 6, .inl gq)) ∧ f nr = some (.inr (3, [hd, tl, .int cn])) ∧ FRef f hd ∧ FRef f tl ∧ narrow .boolean (.int lp) = .int lp
set_option maxHeartbeats 4000000 in
set_option maxRecDepth 100000 in
theorem c_X2_initE {l : Launch} (hl : l.stackTraces = false) (G : hG) (f : hM) (fr nv : Nat) (k i x : Int32) (k_fr : f fr = some (.inr (2, [.int 0, .int 0, .int 0, .null, .null]))) : CT l yX2_init (.code yX2_init cX2_init 5 none) 1 13 0 0 G [.ref fr, .int k, .int i, .int x, .ref nv] f (fun v f1 => v = none ∧ f1 = va_up f fr (some (.inr (2, [.int k, .int i, .int x, .ref nv, .null])))) (fun E f1 => False) := by
  refine hp_start hl (own := RX2) (by decide) rfl (Nat.le_of_ble_eq_true rfl) ?_
  intro p e s m args below meth c B0 hr hnm hout hw hS ls hl9
  have hx := B0.1
  have hb := B0.2.1
  have hl9 : lv_has ls 5 [(0, .ref fr), (1, .int k), (2, .int i), (3, .int x), (4, .ref nv)] := hl9
  refine lv_aload_n hx hb dX2_init_0 rfl (lv_at hl9 0 rfl) ?_
  refine W.objInit hx hb B0.2.2.2.1 (B0.2.2.2.2.1 _ qM_X2_1) (B0.2.2.2.2.1 _ qi_obj) (B0.2.2.2.2.1 _ qc_obj) rfl (by rw [B0.2.2.1]; exact hl9.1) rfl dX2_init_1 (Nat.le_of_ble_eq_true rfl) (Nat.le_of_ble_eq_true rfl) ?_
  refine W.eq (g2 := F0 m 4 ls []) rfl ?_
  refine lv_aload_n hx hb dX2_init_4 rfl (lv_at hl9 0 rfl) ?_
  refine lv_iload_n hx hb dX2_init_5 rfl (lv_at hl9 1 rfl) ?_
  refine hp_putF (fs1 := [.int k, .int 0, .int 0, .null, .null]) (ty := .int) B0 hw hS 2 rfl in_X2 tyX2 tyX2_ok nmX2 k_fr 0 (by decide) qF_X2_7 rfl hnm rfl (by decide +kernel) rfl rfl (Nat.le_of_ble_eq_true rfl) rfl dX2_init_6 (fun H locs f1 ef1 hw hS => ?_)
  have h2 : f1 fr = some (.inr (2, [.int k, .int 0, .int 0, .null, .null])) := by rw [ef1, va_up_self]
  refine lv_aload_n hx hb dX2_init_9 rfl (lv_at hl9 0 rfl) ?_
  refine lv_iload_n hx hb dX2_init_10 rfl (lv_at hl9 2 rfl) ?_
  refine hp_putF (fs1 := [.int k, .int i, .int 0, .null, .null]) (ty := .int) B0 hw hS 2 rfl in_X2 tyX2 tyX2_ok nmX2 h2 1 (by decide) qF_X2_13 rfl hnm rfl (by decide +kernel) rfl rfl (Nat.le_of_ble_eq_true rfl) rfl dX2_init_11 (fun H locs f3 ef3 hw hS => ?_)
  have e4 : f3 = va_up f fr (some (.inr (2, [.int k, .int i, .int 0, .null, .null]))) := by rw [ef3, ef1, bx_uu]
  have h5 : f3 fr = some (.inr (2, [.int k, .int i, .int 0, .null, .null])) := by rw [ef3, va_up_self]
  refine lv_aload_n hx hb dX2_init_14 rfl (lv_at hl9 0 rfl) ?_
  refine lv_iload_n hx hb dX2_init_15 rfl (lv_at hl9 3 rfl) ?_
  refine hp_putF (fs1 := [.int k, .int i, .int x, .null, .null]) (ty := .int) B0 hw hS 2 rfl in_X2 tyX2 tyX2_ok nmX2 h5 2 (by decide) qF_X2_16 rfl hnm rfl (by decide +kernel) rfl rfl (Nat.le_of_ble_eq_true rfl) rfl dX2_init_16 (fun H locs f6 ef6 hw hS => ?_)
  have e7 : f6 = va_up f fr (some (.inr (2, [.int k, .int i, .int x, .null, .null]))) := by rw [ef6, e4, bx_uu]
  have h8 : f6 fr = some (.inr (2, [.int k, .int i, .int x, .null, .null])) := by rw [ef6, va_up_self]
  refine lv_aload_n hx hb dX2_init_19 rfl (lv_at hl9 0 rfl) ?_
  refine lv_aload hx hb dX2_init_20 (lv_at hl9 4 rfl) ?_
  refine hp_putF (fs1 := [.int k, .int i, .int x, .ref nv, .null]) (ty := .array .int) B0 hw hS 2 rfl in_X2 tyX2 tyX2_ok nmX2 h8 3 (by decide) qF_X2_19 rfl hnm rfl (by decide +kernel) rfl rfl (Nat.le_of_ble_eq_true rfl) rfl dX2_init_22 (fun H locs f9 ef9 hw hS => ?_)
  have e10 : f9 = va_up f fr (some (.inr (2, [.int k, .int i, .int x, .ref nv, .null]))) := by rw [ef9, e7, bx_uu]
  have h11 : f9 fr = some (.inr (2, [.int k, .int i, .int x, .ref nv, .null])) := by rw [ef9, va_up_self]
  exact hp_vret B0 hw hS hr ⟨Nat.le_of_ble_eq_true rfl, Nat.le_of_ble_eq_true rfl⟩ dX2_init_25 (⟨rfl, e10⟩)

set_option maxHeartbeats 4000000 in
set_option maxRecDepth 100000 in
theorem c_J7_copyE {l : Launch} (hl : l.stackTraces = false) (G : hG) (f : hM) (na : Nat) (gx : Nat → Int32) (k_na : f na = some (.inl (cI G, 6, .inl gx))) : CT l yJ7_copyOf_59c91 (.code yJ7_copyOf_59c91 cJ7_copyOf_59c91 3 (some (.array .int))) 1 14 1 6 G [.ref na, .int 6] f (fun v f1 => ∃ q : Nat, v = some (.ref q) ∧ f q = none ∧ f1 = va_up f q (some (.inl (cI G, 6, .inl gx)))) (fun E f1 => False) := by
  refine hp_start hl (own := RJ7) (by decide) rfl (Nat.le_of_ble_eq_true rfl) ?_
  intro p e s m args below meth c B0 hr hnm hout hw hS ls hl9
  have hx := B0.1
  have hb := B0.2.1
  have hl9 : lv_has ls 3 [(0, .ref na), (1, .int 6)] := hl9
  refine lv_iload_n hx hb dJ7_copyOf_59c91_0 rfl (lv_at hl9 1 rfl) ?_
  refine lv_aload_n hx hb dJ7_copyOf_59c91_1 rfl (lv_at hl9 0 rfl) ?_
  refine hp_alenI B0 hw k_na (v := 6) (by decide) dJ7_copyOf_59c91_2 ?_
  refine lv_icmp_ne (tgt := 14) hx hb dJ7_copyOf_59c91_3 (by decide) (fun c9 => absurd (by decide) c9) (fun _ => ?_)
  refine lv_aload_n hx hb dJ7_copyOf_59c91_6 rfl (lv_at hl9 0 rfl) ?_
  refine hp_cloneI B0 hw hS hl9.1 qM_J7_316 qm_clone qV_clone qi_clone ql_clone oC_arr k_na ⟨⟨Nat.le_of_ble_eq_true rfl, Nat.le_of_ble_eq_true rfl⟩, Nat.le_of_ble_eq_true rfl, Nat.le_of_ble_eq_true rfl⟩ dJ7_copyOf_59c91_7 (fun q1 H f3 w2 ef3 hw hS => ?_)
  have h4 : f3 q1 = some (.inl (cI G, 6, .inl gx)) := by rw [ef3, va_up_self]
  refine hp_castI B0 hw qC_J7_317 h4 dJ7_copyOf_59c91_10 ?_
  exact hp_aret (v := .ref q1) B0 hw hS hr (Or.inr ⟨_, rfl⟩) (Or.inr ⟨_, rfl⟩) ⟨Nat.le_of_ble_eq_true rfl, Nat.le_of_ble_eq_true rfl⟩ dJ7_copyOf_59c91_13 (⟨q1, rfl, w2, ef3⟩)

set_option maxHeartbeats 4000000 in
set_option maxRecDepth 100000 in
theorem c_J7_fillE {l : Launch} (hl : l.stackTraces = false) (G : hG) (f : hM) (na : Nat) (gx : Nat → Int32) (k_na : f na = some (.inl (cI G, 6, .inl gx))) (x : Int32) : CT l yJ7_fill_53178 (.code yJ7_fill_53178 cJ7_fill_53178 4 none) 0 0 0 0 G [.ref na, .int x] f (fun v f1 => v = none ∧ f1 = va_up f na (some (.inl (cI G, 6, .inl (fun j => if j < 6 then x else gx j))))) (fun E f1 => False) := by
  refine hp_start hl (own := RJ7) (by decide) rfl (Nat.le_of_ble_eq_true rfl) ?_
  intro p e s m args below meth c B0 hr hnm hout hw hS ls hl9
  have hx := B0.1
  have hb := B0.2.1
  have hl9 : lv_has ls 4 [(0, .ref na), (1, .int x)] := hl9
  refine lv_iconst (v := 0) hx hb dJ7_fill_53178_0 (by decide) ?_
  refine lv_istore_n (lv' := [(2, .int 0), (0, .ref na), (1, .int x)]) hx hb dJ7_fill_53178_1 rfl hl9 (by decide) rfl (fun ls hl9 => ?_)
  refine lv_aload_n hx hb dJ7_fill_53178_2 rfl (lv_at hl9 1 rfl) ?_
  refine hp_alenI B0 hw k_na (v := 6) (by decide) dJ7_fill_53178_3 ?_
  refine lv_istore_n (lv' := [(3, .int 6), (2, .int 0), (0, .ref na), (1, .int x)]) hx hb dJ7_fill_53178_4 rfl hl9 (by decide) rfl (fun ls hl9 => ?_)
  refine lv_iload_n hx hb dJ7_fill_53178_5 rfl (lv_at hl9 1 rfl) ?_
  refine lv_iload_n hx hb dJ7_fill_53178_6 rfl (lv_at hl9 0 rfl) ?_
  refine lv_icmp_ge (tgt := 20) hx hb dJ7_fill_53178_7 (by decide) (fun c9 => absurd c9 (by decide)) (fun _ => ?_)
  refine lv_aload_n hx hb dJ7_fill_53178_10 rfl (lv_at hl9 2 rfl) ?_
  refine lv_iload_n hx hb dJ7_fill_53178_11 rfl (lv_at hl9 1 rfl) ?_
  refine lv_iload_n hx hb dJ7_fill_53178_12 rfl (lv_at hl9 3 rfl) ?_
  refine hp_iast B0 hw hS k_na (by unfold vp_in; decide) dJ7_fill_53178_13 (fun H locs f1 ef1 hw hS => ?_)
  have h2 : f1 na = some (.inl (cI G, 6, .inl (upd gx (0 : Int32).toNatClampNeg x))) := by rw [ef1, va_up_self]
  refine lv_iinc (v := 1) (lv' := [(2, .int 1), (3, .int 6), (0, .ref na), (1, .int x)]) hx hb dJ7_fill_53178_14 hl9 (k := 1) rfl (by decide) (by decide) rfl (fun ls hl9 => ?_)
  refine lv_goto (tgt := 5) hx hb dJ7_fill_53178_17 (by decide) ?_
  refine lv_iload_n hx hb dJ7_fill_53178_5 rfl (lv_at hl9 0 rfl) ?_
  refine lv_iload_n hx hb dJ7_fill_53178_6 rfl (lv_at hl9 1 rfl) ?_
  refine lv_icmp_ge (tgt := 20) hx hb dJ7_fill_53178_7 (by decide) (fun c9 => absurd c9 (by decide)) (fun _ => ?_)
  refine lv_aload_n hx hb dJ7_fill_53178_10 rfl (lv_at hl9 2 rfl) ?_
  refine lv_iload_n hx hb dJ7_fill_53178_11 rfl (lv_at hl9 0 rfl) ?_
  refine lv_iload_n hx hb dJ7_fill_53178_12 rfl (lv_at hl9 3 rfl) ?_
  refine hp_iast B0 hw hS h2 (by unfold vp_in; decide) dJ7_fill_53178_13 (fun H locs f3 ef3 hw hS => ?_)
  have e4 : f3 = va_up f na (some (.inl (cI G, 6, .inl (upd (upd gx (0 : Int32).toNatClampNeg x) (1 : Int32).toNatClampNeg x)))) := by rw [ef3, ef1, bx_uu]
  have h5 : f3 na = some (.inl (cI G, 6, .inl (upd (upd gx (0 : Int32).toNatClampNeg x) (1 : Int32).toNatClampNeg x))) := by rw [ef3, va_up_self]
  refine lv_iinc (v := 2) (lv' := [(2, .int 2), (3, .int 6), (0, .ref na), (1, .int x)]) hx hb dJ7_fill_53178_14 hl9 (k := 0) rfl (by decide) (by decide) rfl (fun ls hl9 => ?_)
  refine lv_goto (tgt := 5) hx hb dJ7_fill_53178_17 (by decide) ?_
  refine lv_iload_n hx hb dJ7_fill_53178_5 rfl (lv_at hl9 0 rfl) ?_
  refine lv_iload_n hx hb dJ7_fill_53178_6 rfl (lv_at hl9 1 rfl) ?_
  refine lv_icmp_ge (tgt := 20) hx hb dJ7_fill_53178_7 (by decide) (fun c9 => absurd c9 (by decide)) (fun _ => ?_)
  refine lv_aload_n hx hb dJ7_fill_53178_10 rfl (lv_at hl9 2 rfl) ?_
  refine lv_iload_n hx hb dJ7_fill_53178_11 rfl (lv_at hl9 0 rfl) ?_
  refine lv_iload_n hx hb dJ7_fill_53178_12 rfl (lv_at hl9 3 rfl) ?_
  refine hp_iast B0 hw hS h5 (by unfold vp_in; decide) dJ7_fill_53178_13 (fun H locs f6 ef6 hw hS => ?_)
  have e7 : f6 = va_up f na (some (.inl (cI G, 6, .inl (upd (upd (upd gx (0 : Int32).toNatClampNeg x) (1 : Int32).toNatClampNeg x) (2 : Int32).toNatClampNeg x)))) := by rw [ef6, e4, bx_uu]
  have h8 : f6 na = some (.inl (cI G, 6, .inl (upd (upd (upd gx (0 : Int32).toNatClampNeg x) (1 : Int32).toNatClampNeg x) (2 : Int32).toNatClampNeg x))) := by rw [ef6, va_up_self]
  refine lv_iinc (v := 3) (lv' := [(2, .int 3), (3, .int 6), (0, .ref na), (1, .int x)]) hx hb dJ7_fill_53178_14 hl9 (k := 0) rfl (by decide) (by decide) rfl (fun ls hl9 => ?_)
  refine lv_goto (tgt := 5) hx hb dJ7_fill_53178_17 (by decide) ?_
  refine lv_iload_n hx hb dJ7_fill_53178_5 rfl (lv_at hl9 0 rfl) ?_
  refine lv_iload_n hx hb dJ7_fill_53178_6 rfl (lv_at hl9 1 rfl) ?_
  refine lv_icmp_ge (tgt := 20) hx hb dJ7_fill_53178_7 (by decide) (fun c9 => absurd c9 (by decide)) (fun _ => ?_)
  refine lv_aload_n hx hb dJ7_fill_53178_10 rfl (lv_at hl9 2 rfl) ?_
  refine lv_iload_n hx hb dJ7_fill_53178_11 rfl (lv_at hl9 0 rfl) ?_
  refine lv_iload_n hx hb dJ7_fill_53178_12 rfl (lv_at hl9 3 rfl) ?_
  refine hp_iast B0 hw hS h8 (by unfold vp_in; decide) dJ7_fill_53178_13 (fun H locs f9 ef9 hw hS => ?_)
  have e10 : f9 = va_up f na (some (.inl (cI G, 6, .inl (upd (upd (upd (upd gx (0 : Int32).toNatClampNeg x) (1 : Int32).toNatClampNeg x) (2 : Int32).toNatClampNeg x) (3 : Int32).toNatClampNeg x)))) := by rw [ef9, e7, bx_uu]
  have h11 : f9 na = some (.inl (cI G, 6, .inl (upd (upd (upd (upd gx (0 : Int32).toNatClampNeg x) (1 : Int32).toNatClampNeg x) (2 : Int32).toNatClampNeg x) (3 : Int32).toNatClampNeg x))) := by rw [ef9, va_up_self]
  refine lv_iinc (v := 4) (lv' := [(2, .int 4), (3, .int 6), (0, .ref na), (1, .int x)]) hx hb dJ7_fill_53178_14 hl9 (k := 0) rfl (by decide) (by decide) rfl (fun ls hl9 => ?_)
  refine lv_goto (tgt := 5) hx hb dJ7_fill_53178_17 (by decide) ?_
  refine lv_iload_n hx hb dJ7_fill_53178_5 rfl (lv_at hl9 0 rfl) ?_
  refine lv_iload_n hx hb dJ7_fill_53178_6 rfl (lv_at hl9 1 rfl) ?_
  refine lv_icmp_ge (tgt := 20) hx hb dJ7_fill_53178_7 (by decide) (fun c9 => absurd c9 (by decide)) (fun _ => ?_)
  refine lv_aload_n hx hb dJ7_fill_53178_10 rfl (lv_at hl9 2 rfl) ?_
  refine lv_iload_n hx hb dJ7_fill_53178_11 rfl (lv_at hl9 0 rfl) ?_
  refine lv_iload_n hx hb dJ7_fill_53178_12 rfl (lv_at hl9 3 rfl) ?_
  refine hp_iast B0 hw hS h11 (by unfold vp_in; decide) dJ7_fill_53178_13 (fun H locs f12 ef12 hw hS => ?_)
  have e13 : f12 = va_up f na (some (.inl (cI G, 6, .inl (upd (upd (upd (upd (upd gx (0 : Int32).toNatClampNeg x) (1 : Int32).toNatClampNeg x) (2 : Int32).toNatClampNeg x) (3 : Int32).toNatClampNeg x) (4 : Int32).toNatClampNeg x)))) := by rw [ef12, e10, bx_uu]
  have h14 : f12 na = some (.inl (cI G, 6, .inl (upd (upd (upd (upd (upd gx (0 : Int32).toNatClampNeg x) (1 : Int32).toNatClampNeg x) (2 : Int32).toNatClampNeg x) (3 : Int32).toNatClampNeg x) (4 : Int32).toNatClampNeg x))) := by rw [ef12, va_up_self]
  refine lv_iinc (v := 5) (lv' := [(2, .int 5), (3, .int 6), (0, .ref na), (1, .int x)]) hx hb dJ7_fill_53178_14 hl9 (k := 0) rfl (by decide) (by decide) rfl (fun ls hl9 => ?_)
  refine lv_goto (tgt := 5) hx hb dJ7_fill_53178_17 (by decide) ?_
  refine lv_iload_n hx hb dJ7_fill_53178_5 rfl (lv_at hl9 0 rfl) ?_
  refine lv_iload_n hx hb dJ7_fill_53178_6 rfl (lv_at hl9 1 rfl) ?_
  refine lv_icmp_ge (tgt := 20) hx hb dJ7_fill_53178_7 (by decide) (fun c9 => absurd c9 (by decide)) (fun _ => ?_)
  refine lv_aload_n hx hb dJ7_fill_53178_10 rfl (lv_at hl9 2 rfl) ?_
  refine lv_iload_n hx hb dJ7_fill_53178_11 rfl (lv_at hl9 0 rfl) ?_
  refine lv_iload_n hx hb dJ7_fill_53178_12 rfl (lv_at hl9 3 rfl) ?_
  refine hp_iast B0 hw hS h14 (by unfold vp_in; decide) dJ7_fill_53178_13 (fun H locs f15 ef15 hw hS => ?_)
  have e16 : f15 = va_up f na (some (.inl (cI G, 6, .inl (upd (upd (upd (upd (upd (upd gx (0 : Int32).toNatClampNeg x) (1 : Int32).toNatClampNeg x) (2 : Int32).toNatClampNeg x) (3 : Int32).toNatClampNeg x) (4 : Int32).toNatClampNeg x) (5 : Int32).toNatClampNeg x)))) := by rw [ef15, e13, bx_uu]
  have h17 : f15 na = some (.inl (cI G, 6, .inl (upd (upd (upd (upd (upd (upd gx (0 : Int32).toNatClampNeg x) (1 : Int32).toNatClampNeg x) (2 : Int32).toNatClampNeg x) (3 : Int32).toNatClampNeg x) (4 : Int32).toNatClampNeg x) (5 : Int32).toNatClampNeg x))) := by rw [ef15, va_up_self]
  refine lv_iinc (v := 6) (lv' := [(2, .int 6), (3, .int 6), (0, .ref na), (1, .int x)]) hx hb dJ7_fill_53178_14 hl9 (k := 0) rfl (by decide) (by decide) rfl (fun ls hl9 => ?_)
  refine lv_goto (tgt := 5) hx hb dJ7_fill_53178_17 (by decide) ?_
  refine lv_iload_n hx hb dJ7_fill_53178_5 rfl (lv_at hl9 0 rfl) ?_
  refine lv_iload_n hx hb dJ7_fill_53178_6 rfl (lv_at hl9 1 rfl) ?_
  refine lv_icmp_ge (tgt := 20) hx hb dJ7_fill_53178_7 (by decide) (fun _ => ?_) (fun c9 => absurd (by decide) c9)
  exact hp_vret B0 hw hS hr ⟨Nat.le_of_ble_eq_true rfl, Nat.le_of_ble_eq_true rfl⟩ dJ7_fill_53178_20 (⟨rfl, by have h9 := e16; rw [fill6] at h9; exact h9⟩)

/-! Frames and ends as values: what an end does, by the document's words; rows of frames in the heap. -/
/-- a frame: kind, id, the number of the magic number, values -/
abbrev Fr : Type := Int32 × Int32 × Int32 × (Nat → Int32)
/-- an end: state, last id, requests, timer, looped, missed, the number of the magic number, what it asks for, frames under way -/
abbrev ES : Type := Int32 × Int32 × Int32 × Int32 × Int32 × Int32 × Int32 × (Nat → Int32) × List Fr
def num (w : Int32) : Int32 := if w = 0 then 1 else if w = 1 then 2 else if w = 2 then (-2147483648) else if w = 3 then 2147483647 else 0
def mgF (r : Fr) : Int32 := if r.1 = 0 then num r.2.2.1 else 0
def N6 : Nat → Int32 := fun j => if j < 6 then (-1) else 0
abbrev unk (ga v : Nat → Int32) (j : Nat) : Prop := ¬ v j = -1 ∧ ga j = 0
abbrev rfs (ga v : Nat → Int32) (j : Nat) : Prop := ¬ v j = -1 ∧ ¬ ((ga j >>> (v j &&& 31)) &&& 1) = 1
def kFn (ga v : Nat → Int32) : Nat → Nat → Int32 → Int32
  | 0, _, kd => kd
  | n + 1, j, kd => if unk ga v j then 3 else kFn ga v n (j + 1) (if rfs ga v j then 2 else kd)
def kindF (ga v : Nat → Int32) : Int32 := kFn ga v 6 0 1
def lowN (g : Int32) : Nat → Nat → Int32
  | 0, _ => -1
  | n + 1, j => if ((g >>> (nI j &&& 31)) &&& 1) = 1 then nI j else lowN g n (j + 1)
def lowF (g : Int32) : Int32 := lowN g 10 0
def tlF (ga v : Nat → Int32) (kd : Int32) (j : Nat) : Int32 := if kd = 2 ∧ rfs ga v j then lowF (ga j) else if kd = 3 ∧ unk ga v j then v j else -1
def toldN (ga v : Nat → Int32) (kd : Int32) (n : Nat) : Nat → Int32 := fun i => if i < n then tlF ga v kd i else N6 i
def toldF (ga v : Nat → Int32) (kd : Int32) : Nat → Int32 := toldN ga v kd 6
def chgN (gq v : Nat → Int32) (kd : Int32) (n : Nat) : Nat → Int32 := fun i => if i < n ∧ ¬ v i = -1 then (if kd = 2 then v i else -1) else gq i
def chgF (gq v : Nat → Int32) (kd : Int32) : Nat → Int32 := chgN gq v kd 6
def cpyF (gw gq : Nat → Int32) : Nat → Int32 := fun j => if j < 6 then gw j else gq j
/-- asks: the end behind it -/
def begS (S : ES) : ES := if S.2.2.1 < (10 : Int32) then (S.1, S.2.1 + 1, S.2.2.1 + 1, 3, S.2.2.2.2.1, S.2.2.2.2.2.1, S.2.2.2.2.2.2.1, S.2.2.2.2.2.2.2.1, S.2.2.2.2.2.2.2.2 ++ [(0, S.2.1 + 1, S.2.2.2.2.2.2.1, S.2.2.2.2.2.2.2.1)]) else (0, S.2)
def begV (S : ES) : Int32 := if S.2.2.1 < (10 : Int32) then 1 else 0
/-- one frame more -/
def addS (S : ES) (r : Fr) : ES := (S.1, S.2.1, S.2.2.1, S.2.2.2.1, S.2.2.2.2.1, S.2.2.2.2.2.1, S.2.2.2.2.2.2.1, S.2.2.2.2.2.2.2.1, S.2.2.2.2.2.2.2.2 ++ [r])
def stopS (S : ES) : ES := addS S (4, 0, S.2.2.2.2.2.2.1, N6)
/-- the state behind an answer of the kind kd -/
def ansT (st kd : Int32) : Int32 := if kd = 1 then (if st = 1 then 3 else if st = 2 then 4 else st) else (if st = 3 then 1 else st)
def ansS (ga : Nat → Int32) (r : Fr) (S : ES) : ES :=
  addS (ansT S.1 (kindF ga r.2.2.2), S.2) (kindF ga r.2.2.2, r.2.1, S.2.2.2.2.2.2.1, toldF ga r.2.2.2 (kindF ga r.2.2.2))
def lpS (S : ES) (lp : Int32) : ES := (S.1, S.2.1, S.2.2.1, S.2.2.2.1, lp, S.2.2.2.2.2)
def gqS (S : ES) (gq : Nat → Int32) : ES := (S.1, S.2.1, S.2.2.1, S.2.2.2.1, S.2.2.2.2.1, S.2.2.2.2.2.1, S.2.2.2.2.2.2.1, gq, S.2.2.2.2.2.2.2.2)
def tmS (S : ES) (tm : Int32) : ES := (S.1, S.2.1, S.2.2.1, tm, S.2.2.2.2)
def hearQ (ga : Nat → Int32) (r : Fr) (S : ES) : ES :=
  if num r.2.2.1 = num S.2.2.2.2.2.2.1 then lpS S 1
  else if S.1 = 0 then stopS (lpS S 0)
  else if S.1 = 4 then (if S.2.2.1 < (10 : Int32) then ansS ga r (1, (begS (lpS S 0)).2) else (0, (lpS S 0).2))
  else ansS ga r (lpS S 0)
def hearA (r : Fr) (S : ES) : ES :=
  if (S.1 = 1 ∨ S.1 = 3) ∧ r.2.1 = S.2.1 then (if r.1 = 1 then ((if S.1 = 1 then 2 else 4), S.2) else begS (gqS S (chgF S.2.2.2.2.2.2.2.1 r.2.2.2 r.1))) else S
def hearF (ga : Nat → Int32) (r : Fr) (S : ES) : ES := if r.1 = 0 then hearQ ga r S else if r.1 = 4 then (0, S.2) else hearA r S
def tickS (S : ES) : ES := if S.1 = 0 ∨ S.1 = 4 then S else if S.2.2.2.1 - 1 ≤ (0 : Int32) then begS ((if S.1 = 2 then 1 else S.1), (tmS S (S.2.2.2.1 - 1)).2) else tmS S (S.2.2.2.1 - 1)
def tickV (S : ES) : Int32 := if S.1 = 0 ∨ S.1 = 4 then 0 else if S.2.2.2.1 - 1 ≤ (0 : Int32) then begV S else 0
def openS (gw : Nat → Int32) (S : ES) : ES := begS (1, S.2.1, 0, S.2.2.2.1, S.2.2.2.2.1, S.2.2.2.2.2.1, S.2.2.2.2.2.2.1, cpyF gw S.2.2.2.2.2.2.2.1, S.2.2.2.2.2.2.2.2)
def closeS (S : ES) : ES := (0, (stopS S).2)
/-- the first frame is taken -/
def takeS (S : ES) : ES := (S.1, S.2.1, S.2.2.1, S.2.2.2.1, S.2.2.2.2.1, S.2.2.2.2.2.1, S.2.2.2.2.2.2.1, S.2.2.2.2.2.2.2.1, S.2.2.2.2.2.2.2.2.tail)
def missS (S : ES) : ES := (S.1, S.2.1, S.2.2.1, S.2.2.2.1, S.2.2.2.2.1, S.2.2.2.2.2.1 + 1, S.2.2.2.2.2.2)
/-! rows of frames in the heap: Q has each frame's cell and its values' -/
abbrev ws (Q : List (Nat × Nat)) : List Nat := Q.map Prod.fst
def lastV (Q : List (Nat × Nat)) : Value := match Q.getLast? with
  | none => .null
  | some c => .ref c.1
theorem lastV_snoc (Q : List (Nat × Nat)) (c : Nat × Nat) : lastV (Q ++ [c]) = .ref c.1 := by simp [lastV]
theorem lastV_cons (c d : Nat × Nat) (Q : List (Nat × Nat)) : lastV (c :: d :: Q) = lastV (d :: Q) := by simp [lastV, List.getLast?_cons_cons]
theorem snoc_of {α : Type} (Q : List α) : Q = [] ∨ ∃ Q1 c, Q = Q1 ++ [c] := by
  induction Q with
  | nil => exact Or.inl rfl
  | cons a Q ih =>
    rcases ih with h | ⟨Q1, c, h⟩
    · exact Or.inr ⟨[], a, by rw [h]; rfl⟩
    · exact Or.inr ⟨a :: Q1, c, by rw [h]; rfl⟩
def CH (G : hG) (f : hM) : List (Nat × Nat) → List Fr → Value → Prop
  | [], L, v => L = [] ∧ v = .null
  | c :: Q, L, v => ∃ (r : Fr) (L1 : List Fr) (nx : Value), L = r :: L1 ∧ v = .ref c.1 ∧ f c.1 = some (.inr (2, [.int r.1, .int r.2.1, .int (mgF r), .ref c.2, nx])) ∧ f c.2 = some (.inl (cI G, 6, .inl r.2.2.2)) ∧ CH G f Q L1 nx
theorem CH.mem {G : hG} {f : hM} : ∀ {Q : List (Nat × Nat)} {L : List Fr} {v : Value}, CH G f Q L v → ∀ c ∈ Q, ∃ (r : Fr) (nx : Value), f c.1 = some (.inr (2, [.int r.1, .int r.2.1, .int (mgF r), .ref c.2, nx])) ∧ f c.2 = some (.inl (cI G, 6, .inl r.2.2.2)) := by
  intro Q
  induction Q with
  | nil => intro L v h c hc; exact nomatch hc
  | cons d Q ih =>
    intro L v h c hc
    obtain ⟨r, L1, nx, -, -, h1, h2, h3⟩ := h
    rcases List.mem_cons.mp hc with e | e
    · rw [e]; exact ⟨r, nx, h1, h2⟩
    · exact ih h3 c e
theorem CH.len {G : hG} {f : hM} : ∀ {Q : List (Nat × Nat)} {L : List Fr} {v : Value}, CH G f Q L v → Q.length = L.length := by
  intro Q
  induction Q with
  | nil => intro L v h; rw [h.1]
  | cons d Q ih =>
    intro L v h
    obtain ⟨r, L1, nx, e, -, h1, h2, h3⟩ := h
    rw [e, List.length_cons, List.length_cons, ih h3]
theorem CH.fresh {G : hG} {f : hM} {Q : List (Nat × Nat)} {L : List Fr} {v : Value} (h : CH G f Q L v) {w : Nat} (hw : f w = none) : w ∉ ws Q := fun hm => by
  obtain ⟨c, hc, e⟩ := List.mem_map.mp hm
  obtain ⟨r, nx, h1, -⟩ := h.mem c hc
  rw [e, hw] at h1
  cases h1
/-- a cell that is no frame -/
theorem CH.nf {G : hG} {f : hM} {Q : List (Nat × Nat)} {L : List Fr} {v : Value} (h : CH G f Q L v) {w : Nat} {e : va_E} (hw : f w = some e) (ht : hTag e ≠ 3) : w ∉ ws Q := fun hm => by
  obtain ⟨c, hc, e9⟩ := List.mem_map.mp hm
  obtain ⟨r, nx, h1, -⟩ := h.mem c hc
  rw [e9, hw] at h1
  cases h1
  exact ht rfl
/-- the row's last frame, and what may stand behind it -/
theorem CH.split {G : hG} {f : hM} : ∀ {Q : List (Nat × Nat)} {c : Nat × Nat} {L : List Fr} {v : Value}, CH G f (Q ++ [c]) L v → ∃ (L1 : List Fr) (r : Fr), L = L1 ++ [r] ∧ f c.1 = some (.inr (2, [.int r.1, .int r.2.1, .int (mgF r), .ref c.2, .null])) ∧ f c.2 = some (.inl (cI G, 6, .inl r.2.2.2)) ∧
    ∀ f1 : hM, (∀ x ∈ Q, f1 x.1 = f x.1 ∧ f1 x.2 = f x.2) → ∀ (Q2 : List (Nat × Nat)) (L2 : List Fr), CH G f1 (c :: Q2) (r :: L2) (.ref c.1) → CH G f1 (Q ++ c :: Q2) (L1 ++ r :: L2) v := by
  intro Q
  induction Q with
  | nil =>
    intro c L v h
    obtain ⟨r, L1, nx, e, ev, h1, h2, h3, h4⟩ := h
    rw [h4] at h1
    refine ⟨[], r, by rw [e, h3]; rfl, h1, h2, fun f1 _ Q2 L2 h => by rw [ev]; exact h⟩
  | cons d Q ih =>
    intro c L v h
    obtain ⟨r, L1, nx, e, ev, h1, h2, h3⟩ := h
    obtain ⟨L3, r3, e3, g1, g2, g3⟩ := ih h3
    refine ⟨r :: L3, r3, by rw [e, e3]; rfl, g1, g2, fun f1 he Q2 L2 h => ?_⟩
    obtain ⟨hd1, hd2⟩ := he d List.mem_cons_self
    exact ⟨r, L3 ++ r3 :: L2, nx, rfl, ev, by rw [hd1]; exact h1, by rw [hd2]; exact h2, g3 f1 (fun x hx => he x (List.mem_cons_of_mem _ hx)) Q2 L2 h⟩
/-- nothing goes; a cell stays but it is in S, a frame but it is in Q -/
def hK2 (S : List Nat) (Q : List (Nat × Nat)) (f f1 : hM) : Prop := (∀ a, f1 a = none → f a = none) ∧ ∀ a e, f a = some e → a ∉ S → (hTag e = 3 → a ∉ ws Q) → f1 a = some e
theorem hK2.rf {S : List Nat} {Q : List (Nat × Nat)} {f : hM} : hK2 S Q f f := ⟨fun _ h => h, fun _ _ h _ _ => h⟩
theorem hK2.tr {S : List Nat} {Q : List (Nat × Nat)} {f f1 f2 : hM} (h : hK2 S Q f f1) (h2 : hK2 S Q f1 f2) : hK2 S Q f f2 := ⟨fun a q => h.1 a (h2.1 a q), fun a e q n t => h2.2 a e (h.2 a e q n t) n t⟩
theorem hK2.mono {S T : List Nat} {Q : List (Nat × Nat)} {f f1 : hM} (h : hK2 S Q f f1) (hs : ∀ a, a ∈ S → a ∈ T) : hK2 T Q f f1 := ⟨h.1, fun a e q n t => h.2 a e q (fun z => n (hs a z)) t⟩
theorem hK2.monoQ {S : List Nat} {Q Q2 : List (Nat × Nat)} {f f1 : hM} (h : hK2 S Q f f1) (hs : ∀ a, a ∈ ws Q → a ∈ ws Q2) : hK2 S Q2 f f1 := ⟨h.1, fun a e q n t => h.2 a e q n (fun z y => t z (hs a y))⟩
theorem hK2.q0 {S : List Nat} {Q : List (Nat × Nat)} {f f1 : hM} (h : hK2 S [] f f1) : hK2 S Q f f1 := h.monoQ (fun _ z => nomatch z)
theorem hK2.up {S : List Nat} {Q : List (Nat × Nat)} {f : hM} {a : Nat} {e : va_E} (h : a ∈ S) : hK2 S Q f (va_up f a (some e)) := by
  refine ⟨fun b q => ?_, fun b x q n _ => by rw [va_up_ne _ _ (fun z => n (by rw [z]; exact h))]; exact q⟩
  by_cases z : b = a
  · rw [z, va_up_self] at q; cases q
  · rwa [va_up_ne _ _ z] at q
theorem hK2.fr {S : List Nat} {Q : List (Nat × Nat)} {f : hM} {a : Nat} {k0 : List Value} {e : va_E} (ha : f a = some (.inr (2, k0))) (h : a ∈ ws Q) : hK2 S Q f (va_up f a (some e)) := by
  refine ⟨fun b q => ?_, fun b x q n t => ?_⟩
  · by_cases z : b = a
    · rw [z, va_up_self] at q; cases q
    · rwa [va_up_ne _ _ z] at q
  · rw [va_up_ne _ _ (fun z => by rw [z, ha] at q; cases q; exact t rfl (by rw [z]; exact h))]; exact q
theorem hK2.new {S : List Nat} {Q : List (Nat × Nat)} {f : hM} {q : Nat} {e : va_E} (hq : f q = none) : hK2 S Q f (va_up f q (some e)) := by
  refine ⟨fun b z => ?_, fun b x h _ _ => by rw [va_up_ne _ _ (fun z => by rw [z, hq] at h; cases h)]; exact h⟩
  by_cases y : b = q
  · rw [y]; exact hq
  · rwa [va_up_ne _ _ y] at z
theorem hK2.trn {S : List Nat} {Q : List (Nat × Nat)} {f f2 : hM} {q : Nat} (hq : f q = none) (h2 : hK2 (q :: S) Q f f2) : hK2 S Q f f2 := ⟨h2.1, fun a e h n t => h2.2 a e h (ninc (fun z => by rw [z, hq] at h; cases h) n) t⟩
theorem hK2.trq {S : List Nat} {Q N : List (Nat × Nat)} {f f1 f2 : hM} (h : hK2 S Q f f1) (h2 : hK2 S (Q ++ N) f1 f2) (hn : ∀ c ∈ N, f c.1 = none) : hK2 S Q f f2 :=
  ⟨fun a q => h.1 a (h2.1 a q), fun a e q n t => h2.2 a e (h.2 a e q n t) n (fun z y => by
    rw [ws, List.map_append] at y
    rcases List.mem_append.mp y with y | y
    · exact t z y
    · obtain ⟨c, hc, e9⟩ := List.mem_map.mp y
      have := hn c hc
      rw [e9, q] at this
      cases this)⟩
theorem hK2.of {S : List Nat} {Q : List (Nat × Nat)} {f f1 : hM} (h : hEq S f f1) (hs : ∀ a, a ∈ S → ∃ e, f1 a = some e) : hK2 S Q f f1 := by
  refine ⟨fun a q => ?_, fun a e q n _ => (h a n).trans q⟩
  by_cases z : a ∈ S
  · obtain ⟨e, h9⟩ := hs a z
    rw [h9] at q; cases q
  · rw [← h a z]; exact q
theorem CH.kp {G : hG} {f f1 : hM} {S : List Nat} {Q2 : List (Nat × Nat)} (hk : hK2 S Q2 f f1) : ∀ {Q : List (Nat × Nat)} {L : List Fr} {v : Value}, CH G f Q L v → (∀ c ∈ Q, c.1 ∉ ws Q2 ∧ c.2 ∉ S) → (∀ a ∈ S, ∀ k, f a ≠ some (.inr (2, k))) → CH G f1 Q L v := by
  intro Q
  induction Q with
  | nil => intro L v h _ _; exact h
  | cons d Q ih =>
    intro L v h hq hs
    obtain ⟨r, L1, nx, e, ev, h1, h2, h3⟩ := h
    obtain ⟨q1, q2⟩ := hq d List.mem_cons_self
    exact ⟨r, L1, nx, e, ev, hk.2 _ _ h1 (fun z => hs _ z _ h1) (fun _ => q1), hk.2 _ _ h2 q2 (fun t => absurd t (Nat.ne_of_beq_eq_false rfl)), ih h3 (fun c hc => hq c (List.mem_cons_of_mem _ hc)) hs⟩
theorem nws {Q : List (Nat × Nat)} {N : List (Nat × Nat)} {a : Nat} (h : a ∉ ws Q) (h2 : a ∉ ws N) : a ∉ ws (Q ++ N) := fun z => by
  rw [ws, List.map_append] at z
  rcases List.mem_append.mp z with z | z
  · exact h z
  · exact h2 z
theorem nws1 {a w u : Nat} (h : a ≠ w) : a ∉ ws [(w, u)] := fun z => h (List.mem_singleton.mp z)
theorem nwsN {f : hM} {N : List (Nat × Nat)} {a : Nat} {e : va_E} (ha : f a = some e) (hn : ∀ c ∈ N, f c.1 = none ∧ f c.2 = none) : a ∉ ws N := fun z => by
  obtain ⟨c, hc, e9⟩ := List.mem_map.mp z
  have := (hn c hc).1
  rw [e9, ha] at this
  cases this
theorem nd_snoc {Q : List (Nat × Nat)} {w u : Nat} (h : (ws Q).Nodup) (hw : w ∉ ws Q) : (ws (Q ++ [(w, u)])).Nodup := by
  rw [ws, List.map_append]
  exact List.nodup_append.mpr ⟨h, by simp, fun a ha b hb => by
    rw [List.mem_singleton.mp hb]
    exact fun z => hw (by rw [← z]; exact ha)⟩
/-- a row of frames -/
def RX (G : hG) (f : hM) (nr : Nat) (Q : List (Nat × Nat)) (L : List Fr) : Prop := ∃ hd : Value, f nr = some (.inr (3, [hd, lastV Q, .int (nI Q.length)])) ∧ CH G f Q L hd
/-- an end of the class: S is its state, Q its frames' cells -/
def EX (G : hG) (f : hM) (en nw na nq nr : Nat) (S : ES) (Q : List (Nat × Nat)) : Prop :=
  f en = some (.inr (1, [.ref nw, .ref na, .ref nq, .ref nr, .int (num S.2.2.2.2.2.2.1), .int S.1, .int S.2.2.2.1, .int S.2.2.1, .int S.2.1, .int S.2.2.2.2.1, .int S.2.2.2.2.2.1])) ∧ f nq = some (.inl (cI G, 6, .inl S.2.2.2.2.2.2.2.1)) ∧
  (∃ hd : Value, f nr = some (.inr (3, [hd, lastV Q, .int (nI Q.length)])) ∧ CH G f Q S.2.2.2.2.2.2.2.2 hd) ∧ (ws Q).Nodup ∧ (∀ c ∈ Q, c.2 ≠ nq) ∧ narrow .boolean (.int S.2.2.2.2.1) = .int S.2.2.2.2.1
theorem EX.cu {G : hG} {f : hM} {en nw na nq nr : Nat} {S : ES} {Q : List (Nat × Nat)} (h : EX G f en nw na nq nr S Q) : ∀ c ∈ Q, c.1 ∉ ws [] ∧ c.2 ∉ [en, nq, nr] := by
  obtain ⟨h1, h2, ⟨hd, h3, h4⟩, h5, h6, h7⟩ := h
  intro c hc
  obtain ⟨r, nx, g1, g2⟩ := h4.mem c hc
  exact ⟨fun z => nomatch z, ninc (hne g2 h1 (Nat.ne_of_beq_eq_false rfl)) (ninc (h6 c hc) (ninc (hne g2 h3 (Nat.ne_of_beq_eq_false rfl)) nin0))⟩
theorem EX.sf {G : hG} {f : hM} {en nw na nq nr : Nat} {S : ES} {Q : List (Nat × Nat)} (h : EX G f en nw na nq nr S Q) : ∀ a ∈ [en, nq, nr], ∀ k, f a ≠ some (.inr (2, k)) := by
  obtain ⟨h1, h2, ⟨hd, h3, h4⟩, h5, h6, h7⟩ := h
  intro a ha k hk
  simp only [List.mem_cons, List.not_mem_nil, or_false] at ha
  rcases ha with e | e | e
  · rw [e, h1] at hk; cases hk
  · rw [e, h2] at hk; cases hk
  · rw [e, h3] at hk; cases hk
/-- the end behind a method: frames more, nothing else touched but its own -/
def XP (G : hG) (f f1 : hM) (en nw na nq nr : Nat) (Q : List (Nat × Nat)) (S1 : ES) : Prop := ∃ N : List (Nat × Nat), (∀ c ∈ N, f c.1 = none ∧ f c.2 = none) ∧ EX G f1 en nw na nq nr S1 (Q ++ N) ∧ hK2 [en, nq, nr] Q f f1
theorem XP.tr {G : hG} {f f1 f2 : hM} {en nw na nq nr : Nat} {Q N : List (Nat × Nat)} {S2 : ES} (hn : ∀ c ∈ N, f c.1 = none ∧ f c.2 = none) (hk : hK2 [en, nq, nr] Q f f1) (h2 : XP G f1 f2 en nw na nq nr (Q ++ N) S2) : XP G f f2 en nw na nq nr Q S2 := by
  obtain ⟨N2, m1, m2, m3⟩ := h2
  refine ⟨N ++ N2, fun c hc => ?_, by rw [← List.append_assoc]; exact m2, hk.trq m3 (fun c hc => (hn c hc).1)⟩
  rcases List.mem_append.mp hc with hc | hc
  · exact hn c hc
  · exact ⟨hk.1 _ (m1 c hc).1, hk.1 _ (m1 c hc).2⟩
theorem XP.zero {G : hG} {f f1 : hM} {en nw na nq nr : Nat} {Q : List (Nat × Nat)} {S1 : ES} (h : EX G f1 en nw na nq nr S1 Q) (hk : hK2 [en, nq, nr] Q f f1) : XP G f f1 en nw na nq nr Q S1 := ⟨[], fun c hc => nomatch hc, by rw [List.append_nil]; exact h, hk⟩
theorem nuN {f : hM} {N Q : List (Nat × Nat)} {b : Nat} {e : va_E} (h : ∀ c ∈ Q, c.2 ≠ b) (hb : f b = some e) (hn : ∀ c ∈ N, f c.1 = none ∧ f c.2 = none) : ∀ c ∈ Q ++ N, c.2 ≠ b := fun c hc => by
  rcases List.mem_append.mp hc with hc | hc
  · exact h c hc
  · exact fun z => by have := (hn c hc).2; rw [z, hb] at this; cases this

set_option maxHeartbeats 4000000 in
set_option maxRecDepth 100000 in
theorem c_X1_tellX {l : Launch} (hl : l.stackTraces = false) (G : hG) (f : hM)  : CT l yX1_tellNothing (.code yX1_tellNothing cX1_tellNothing 1 (some (.array .int))) 1 23 1 6 G [] f (fun v f1 => ∃ q : Nat, v = some (.ref q) ∧ f q = none ∧ f1 = va_up f q (some (.inl (cI G, 6, .inl N6)))) (fun E f1 => False) := by
  refine hp_start hl (own := RX1) (by decide) rfl (Nat.le_of_ble_eq_true rfl) ?_
  intro p e s m args below meth c B0 hr hnm hout hw hS ls hl9
  have hx := B0.1
  have hb := B0.2.1
  have hl9 : lv_has ls 1 [] := hl9
  refine lv_bipush (v := 6) hx hb dX1_tellNothing_0 (by decide) ?_
  refine hp_newaI (N' := 6) B0 hw hS qA_int (by decide) (by decide) (Nat.le_of_ble_eq_true rfl) (Nat.le_of_ble_eq_true rfl) (Nat.le_of_ble_eq_true rfl) dX1_tellNothing_2 (fun q1 H f3 w2 ef3 hw hS => ?_)
  have h4 : f3 q1 = some (.inl (cI G, 6, .inl (fun _ => 0))) := by rw [ef3, va_up_self]
  refine lv_astore_n (lv' := [(0, .ref q1)]) hx hb dX1_tellNothing_4 rfl hl9 (by decide) rfl (fun ls hl9 => ?_)
  refine lv_aload_n hx hb dX1_tellNothing_5 rfl (lv_at hl9 0 rfl) ?_
  refine lv_iconst (v := (-1)) hx hb dX1_tellNothing_6 (by decide) ?_
  refine hp_S (As := [.ref q1, .int (-1)]) (rest := []) B0 hw hS (c_J7_fillE hl G f3 q1 (fun _ => 0) h4 (-1)) mS_J7_fill_53178 qM_X1_51 rfl rfl hl9.1 (Nat.le_of_ble_eq_true rfl) ⟨⟨Nat.le_of_ble_eq_true rfl, Nat.le_of_ble_eq_true rfl⟩, Nat.le_of_ble_eq_true rfl, Nat.le_of_ble_eq_true rfl⟩ dX1_tellNothing_7 (fun E ce q9 f5 H locs hPX hw hS hce hcv hcl => ?_) (fun v f5 H locs hP hw hS => ?_)
  · exact hPX.elim
  · obtain ⟨ev9, e6⟩ := hP
    subst ev9
    have e7 : f5 = va_up f q1 (some (.inl (cI G, 6, .inl (fun j => if j < 6 then (-1) else (fun _ => 0) j)))) := by rw [e6, ef3, bx_uu]
    have h8 : f5 q1 = some (.inl (cI G, 6, .inl (fun j => if j < 6 then (-1) else (fun _ => 0) j))) := by rw [e6, va_up_self]
    refine W.eq (g2 := F0 m 10 ls []) rfl ?_
    refine lv_aload_n hx hb dX1_tellNothing_10 rfl (lv_at hl9 0 rfl) ?_
    exact hp_aret (v := .ref q1) B0 hw hS hr (Or.inr ⟨_, rfl⟩) (Or.inr ⟨_, rfl⟩) ⟨Nat.le_of_ble_eq_true rfl, Nat.le_of_ble_eq_true rfl⟩ dX1_tellNothing_11 (⟨q1, rfl, w2, e7⟩)

theorem nd_ne {Q1 : List (Nat × Nat)} {w u : Nat} (h : (ws (Q1 ++ [(w, u)])).Nodup) {x : Nat × Nat} (hx : x ∈ Q1) : x.1 ≠ w := by
  rw [ws, List.map_append] at h
  exact (List.nodup_append.mp h).2.2 x.1 (List.mem_map_of_mem hx) w (by simp)
theorem CH.kp1 {G : hG} {f f1 : hM} {nr : Nat} {k9 : List Value} (hk : hK2 [nr] [] f f1) (hr : f nr = some (.inr (3, k9))) {Q : List (Nat × Nat)} {L : List Fr} {v : Value} (h : CH G f Q L v) : CH G f1 Q L v := by
  refine CH.kp hk h (fun c hc => ?_) (fun a ha k hk9 => ?_)
  · obtain ⟨r, nx, g1, g2⟩ := h.mem c hc
    exact ⟨fun z => nomatch z, ninc (hne g2 hr (Nat.ne_of_beq_eq_false rfl)) nin0⟩
  · rw [List.mem_singleton.mp ha, hr] at hk9; cases hk9
set_option maxHeartbeats 4000000 in
set_option maxRecDepth 100000 in
theorem c_X3_putX {l : Launch} (hl : l.stackTraces = false) (G : hG) (f : hM) (nr fr u : Nat) (r : Fr) (Q : List (Nat × Nat)) (L : List Fr) (hR : RX G f nr Q L) (k_fr : f fr = some (.inr (2, [.int r.1, .int r.2.1, .int (mgF r), .ref u, .null]))) (k_u : f u = some (.inl (cI G, 6, .inl r.2.2.2))) (hfr : fr ∉ ws Q) (hnd : (ws Q).Nodup) (hn : Q.length < 4096) : CT l yX3_put (.code yX3_put cX3_put 2 none) 0 0 0 0 G [.ref nr, .ref fr] f (fun v f1 => v = none ∧ RX G f1 nr (Q ++ [(fr, u)]) (L ++ [r]) ∧ hK2 [nr] Q f f1) (fun E f1 => False) := by
  refine hp_start hl (own := RX3) (by decide) rfl (Nat.le_of_ble_eq_true rfl) ?_
  intro p e s m args below meth c B0 hr hnm hout hw hS ls hl9
  have hx := B0.1
  have hb := B0.2.1
  have hl9 : lv_has ls 2 [(0, .ref nr), (1, .ref fr)] := hl9
  obtain ⟨hd, k_nr, hch⟩ := hR
  rcases snoc_of Q with eQ | ⟨Q1, c1, eQ⟩
  · subst eQ
    obtain ⟨eL, ehd⟩ := hch
    subst eL
    subst ehd
    have k_nr : f nr = some (.inr (3, [.null, .null, .int (nI 0)])) := k_nr
    refine lv_aload_n hx hb dX3_put_0 rfl (lv_at hl9 0 rfl) ?_
    refine hp_get B0 hw 3 rfl in_X3 k_nr 2 (by decide) qF_X3_9 rfl dX3_put_1 ?_
    refine lv_sipush (v := 4096) hx hb dX3_put_4 (by decide) ?_
    refine lv_icmp_lt (tgt := 11) hx hb dX3_put_7 (by decide) (fun _ => ?_) (fun c9 => absurd (by decide) c9)
    refine lv_aload_n hx hb dX3_put_11 rfl (lv_at hl9 0 rfl) ?_
    refine hp_get B0 hw 3 rfl in_X3 k_nr 1 (by decide) qF_X3_15 rfl dX3_put_12 ?_
    refine lv_ifnonnullN hx hb dX3_put_15 ?_
    refine lv_aload_n hx hb dX3_put_18 rfl (lv_at hl9 0 rfl) ?_
    refine lv_aload_n hx hb dX3_put_19 rfl (lv_at hl9 1 rfl) ?_
    refine hp_put (fs1 := [.ref fr, .null, .int (nI 0)]) (ty := .object "OptionLine$Frame") B0 hw hS 3 rfl in_X3 tyX3 tyX3_ok nmX3 k_nr 0 (by decide) qF_X3_19 rfl (by decide +kernel) rfl rfl (Nat.le_of_ble_eq_true rfl) rfl dX3_put_20 (fun H locs f1 ef1 hw hS => ?_)
    have h2 : f1 nr = some (.inr (3, [.ref fr, .null, .int (nI 0)])) := by rw [ef1, va_up_self]
    refine lv_goto (tgt := 34) hx hb dX3_put_23 (by decide) ?_
    refine lv_aload_n hx hb dX3_put_34 rfl (lv_at hl9 0 rfl) ?_
    refine lv_aload_n hx hb dX3_put_35 rfl (lv_at hl9 1 rfl) ?_
    refine hp_put (fs1 := [.ref fr, .ref fr, .int (nI 0)]) (ty := .object "OptionLine$Frame") B0 hw hS 3 rfl in_X3 tyX3 tyX3_ok nmX3 h2 1 (by decide) qF_X3_15 rfl (by decide +kernel) rfl rfl (Nat.le_of_ble_eq_true rfl) rfl dX3_put_36 (fun H locs f3 ef3 hw hS => ?_)
    have e4 : f3 = va_up f nr (some (.inr (3, [.ref fr, .ref fr, .int (nI 0)]))) := by rw [ef3, ef1, bx_uu]
    have h5 : f3 nr = some (.inr (3, [.ref fr, .ref fr, .int (nI 0)])) := by rw [ef3, va_up_self]
    refine lv_aload_n hx hb dX3_put_39 rfl (lv_at hl9 0 rfl) ?_
    refine lv_dup hx hb dX3_put_40 rfl ?_
    refine hp_get B0 hw 3 rfl in_X3 h5 2 (by decide) qF_X3_9 rfl dX3_put_41 ?_
    refine lv_iconst (v := 1) hx hb dX3_put_44 (by decide) ?_
    refine lv_iadd hx hb dX3_put_45 ?_
    refine hp_c (v := (nI (0 + 1))) (nI_1 _) ?_
    refine hp_put (fs1 := [.ref fr, .ref fr, .int (nI (0 + 1))]) (ty := .int) B0 hw hS 3 rfl in_X3 tyX3 tyX3_ok nmX3 h5 2 (by decide) qF_X3_9 rfl (by decide +kernel) rfl rfl (Nat.le_of_ble_eq_true rfl) rfl dX3_put_46 (fun H locs f6 ef6 hw hS => ?_)
    have e7 : f6 = va_up f nr (some (.inr (3, [.ref fr, .ref fr, .int (nI (0 + 1))]))) := by rw [ef6, e4, bx_uu]
    have h8 : f6 nr = some (.inr (3, [.ref fr, .ref fr, .int (nI (0 + 1))])) := by rw [ef6, va_up_self]
    have n10 : fr ≠ nr := hne k_fr k_nr (Nat.ne_of_beq_eq_false rfl)
    have h9 : f6 fr = some (.inr (2, [.int r.1, .int r.2.1, .int (mgF r), .ref u, .null])) := by rw [e7, va_up_ne _ _ n10]; exact k_fr
    have n12 : u ≠ nr := hne k_u k_nr (Nat.ne_of_beq_eq_false rfl)
    have h11 : f6 u = some (.inl (cI G, 6, .inl r.2.2.2)) := by rw [e7, va_up_ne _ _ n12]; exact k_u
    exact hp_vret B0 hw hS hr ⟨Nat.le_of_ble_eq_true rfl, Nat.le_of_ble_eq_true rfl⟩ dX3_put_49 (⟨rfl, ⟨_, h8, r, [], .null, rfl, rfl, h9, h11, rfl, rfl⟩, (show hK2 [nr] [] f f6 from (by rw [e7]; exact hK2.up List.mem_cons_self))⟩)
  · subst eQ
    obtain ⟨wl, ul⟩ := c1
    obtain ⟨L1, r1, eL, k_wl, k_ul, hsp⟩ := CH.split hch
    subst eL
    have k_wl : f wl = some (.inr (2, [.int r1.1, .int r1.2.1, .int (mgF r1), .ref ul, .null])) := k_wl
    have k_ul : f ul = some (.inl (cI G, 6, .inl r1.2.2.2)) := k_ul
    have k_nr : f nr = some (.inr (3, [hd, .ref wl, .int (nI (Q1 ++ [(wl, ul)]).length)])) := by rw [lastV_snoc] at k_nr; exact k_nr
    have hfw : fr ≠ wl := fun z => hfr (by rw [z]; simp [ws])
    refine lv_aload_n hx hb dX3_put_0 rfl (lv_at hl9 0 rfl) ?_
    refine hp_get B0 hw 3 rfl in_X3 k_nr 2 (by decide) qF_X3_9 rfl dX3_put_1 ?_
    refine lv_sipush (v := 4096) hx hb dX3_put_4 (by decide) ?_
    refine lv_icmp_lt (tgt := 11) hx hb dX3_put_7 (by decide) (fun _ => ?_) (fun c9 => absurd (show nI _ < nI 4096 from nI_lt hn (by decide)) c9)
    refine lv_aload_n hx hb dX3_put_11 rfl (lv_at hl9 0 rfl) ?_
    refine hp_get B0 hw 3 rfl in_X3 k_nr 1 (by decide) qF_X3_15 rfl dX3_put_12 ?_
    refine lv_ifnonnull (tgt := 26) hx hb dX3_put_15 (by decide) ?_
    refine lv_aload_n hx hb dX3_put_26 rfl (lv_at hl9 0 rfl) ?_
    refine hp_get B0 hw 3 rfl in_X3 k_nr 1 (by decide) qF_X3_15 rfl dX3_put_27 ?_
    refine lv_aload_n hx hb dX3_put_30 rfl (lv_at hl9 1 rfl) ?_
    refine hp_put (fs1 := [.int r1.1, .int r1.2.1, .int (mgF r1), .ref ul, .ref fr]) (ty := .object "OptionLine$Frame") B0 hw hS 2 rfl in_X2 tyX2 tyX2_ok nmX2 k_wl 4 (by decide) qF_X3_22 rfl (by decide +kernel) rfl rfl (Nat.le_of_ble_eq_true rfl) rfl dX3_put_31 (fun H locs f13 ef13 hw hS => ?_)
    have h14 : f13 wl = some (.inr (2, [.int r1.1, .int r1.2.1, .int (mgF r1), .ref ul, .ref fr])) := by rw [ef13, va_up_self]
    refine lv_aload_n hx hb dX3_put_34 rfl (lv_at hl9 0 rfl) ?_
    refine lv_aload_n hx hb dX3_put_35 rfl (lv_at hl9 1 rfl) ?_
    have n16 : nr ≠ wl := hne k_nr k_wl (Nat.ne_of_beq_eq_false rfl)
    have h15 : f13 nr = some (.inr (3, [hd, .ref wl, .int (nI (Q1 ++ [(wl, ul)]).length)])) := by rw [ef13, va_up_ne _ _ n16]; exact k_nr
    refine hp_put (fs1 := [hd, .ref fr, .int (nI (Q1 ++ [(wl, ul)]).length)]) (ty := .object "OptionLine$Frame") B0 hw hS 3 rfl in_X3 tyX3 tyX3_ok nmX3 h15 1 (by decide) qF_X3_15 rfl (by decide +kernel) rfl rfl (Nat.le_of_ble_eq_true rfl) rfl dX3_put_36 (fun H locs f17 ef17 hw hS => ?_)
    have h18 : f17 nr = some (.inr (3, [hd, .ref fr, .int (nI (Q1 ++ [(wl, ul)]).length)])) := by rw [ef17, va_up_self]
    refine lv_aload_n hx hb dX3_put_39 rfl (lv_at hl9 0 rfl) ?_
    refine lv_dup hx hb dX3_put_40 rfl ?_
    refine hp_get B0 hw 3 rfl in_X3 h18 2 (by decide) qF_X3_9 rfl dX3_put_41 ?_
    refine lv_iconst (v := 1) hx hb dX3_put_44 (by decide) ?_
    refine lv_iadd hx hb dX3_put_45 ?_
    refine hp_c (v := (nI ((Q1 ++ [(wl, ul)]).length + 1))) (nI_1 _) ?_
    refine hp_put (fs1 := [hd, .ref fr, .int (nI ((Q1 ++ [(wl, ul)]).length + 1))]) (ty := .int) B0 hw hS 3 rfl in_X3 tyX3 tyX3_ok nmX3 h18 2 (by decide) qF_X3_9 rfl (by decide +kernel) rfl rfl (Nat.le_of_ble_eq_true rfl) rfl dX3_put_46 (fun H locs f19 ef19 hw hS => ?_)
    have e20 : f19 = va_up f13 nr (some (.inr (3, [hd, .ref fr, .int (nI ((Q1 ++ [(wl, ul)]).length + 1))]))) := by rw [ef19, ef17, bx_uu]
    have h21 : f19 nr = some (.inr (3, [hd, .ref fr, .int (nI ((Q1 ++ [(wl, ul)]).length + 1))])) := by rw [ef19, va_up_self]
    have h22 : f13 fr = some (.inr (2, [.int r.1, .int r.2.1, .int (mgF r), .ref u, .null])) := by rw [ef13, va_up_ne _ _ hfw]; exact k_fr
    have n24 : fr ≠ nr := hne k_fr k_nr (Nat.ne_of_beq_eq_false rfl)
    have h23 : f19 fr = some (.inr (2, [.int r.1, .int r.2.1, .int (mgF r), .ref u, .null])) := by rw [e20, va_up_ne _ _ n24]; exact h22
    have n26 : u ≠ wl := hne k_u k_wl (Nat.ne_of_beq_eq_false rfl)
    have h25 : f13 u = some (.inl (cI G, 6, .inl r.2.2.2)) := by rw [ef13, va_up_ne _ _ n26]; exact k_u
    have n28 : u ≠ nr := hne k_u k_nr (Nat.ne_of_beq_eq_false rfl)
    have h27 : f19 u = some (.inl (cI G, 6, .inl r.2.2.2)) := by rw [e20, va_up_ne _ _ n28]; exact h25
    have h29 : f19 wl = some (.inr (2, [.int r1.1, .int r1.2.1, .int (mgF r1), .ref ul, .ref fr])) := by rw [e20, va_up_ne _ _ (Ne.symm n16)]; exact h14
    have n31 : ul ≠ wl := hne k_ul k_wl (Nat.ne_of_beq_eq_false rfl)
    have h30 : f13 ul = some (.inl (cI G, 6, .inl r1.2.2.2)) := by rw [ef13, va_up_ne _ _ n31]; exact k_ul
    have n33 : ul ≠ nr := hne k_ul k_nr (Nat.ne_of_beq_eq_false rfl)
    have h32 : f19 ul = some (.inl (cI G, 6, .inl r1.2.2.2)) := by rw [e20, va_up_ne _ _ n33]; exact h30
    exact hp_vret B0 hw hS hr ⟨Nat.le_of_ble_eq_true rfl, Nat.le_of_ble_eq_true rfl⟩ dX3_put_49 (⟨rfl, ⟨hd, (by rw [lastV_snoc, List.length_append]; exact h21), (by rw [List.append_assoc, List.append_assoc]; exact hsp _ (fun x hx => by obtain ⟨r9, nx9, g1, g2⟩ := hch.mem x (List.mem_append_left _ hx); exact ⟨(((show hK2 [nr, wl] [] f f13 from (by rw [ef13]; exact hK2.up (List.mem_cons_of_mem _ List.mem_cons_self))).tr (show hK2 [nr, wl] [] f13 f19 from (by rw [e20]; exact hK2.up List.mem_cons_self))).2 _ _ g1 (ninc (hne g1 k_nr (Nat.ne_of_beq_eq_false rfl)) (ninc (nd_ne hnd hx) nin0)) (fun _ z => nomatch z)).trans g1.symm, (((show hK2 [nr, wl] [] f f13 from (by rw [ef13]; exact hK2.up (List.mem_cons_of_mem _ List.mem_cons_self))).tr (show hK2 [nr, wl] [] f13 f19 from (by rw [e20]; exact hK2.up List.mem_cons_self))).2 _ _ g2 (ninc (hne g2 k_nr (Nat.ne_of_beq_eq_false rfl)) (ninc (hne g2 k_wl (Nat.ne_of_beq_eq_false rfl)) nin0)) (fun _ z => nomatch z)).trans g2.symm⟩) [(fr, u)] [r] ⟨r1, [r], .ref fr, rfl, rfl, h29, h32, ⟨r, [], .null, rfl, rfl, h23, h27, rfl, rfl⟩⟩)⟩, ((show hK2 [nr] (Q1 ++ [(wl, ul)]) f f13 from (by rw [ef13]; exact hK2.fr k_wl (by simp [ws]))).tr (show hK2 [nr] (Q1 ++ [(wl, ul)]) f13 f19 from (by rw [e20]; exact hK2.up List.mem_cons_self)))⟩)

set_option maxHeartbeats 4000000 in
set_option maxRecDepth 100000 in
theorem c_X3_takeX {l : Launch} (hl : l.stackTraces = false) (G : hG) (f : hM) (nr : Nat) (Q : List (Nat × Nat)) (L : List Fr) (hR : RX G f nr Q L) : CT l yX3_takeFirst (.code yX3_takeFirst cX3_takeFirst 2 (some (.object "OptionLine$Frame"))) 0 0 0 0 G [.ref nr] f (fun v f1 => (Q = [] ∧ v = some .null ∧ f1 = f) ∨ (∃ (c : Nat × Nat) (Q1 : List (Nat × Nat)) (r : Fr) (L1 : List Fr), Q = c :: Q1 ∧ L = r :: L1 ∧ v = some (.ref c.1) ∧ RX G f1 nr Q1 L1 ∧ hK2 [nr] [] f f1)) (fun E f1 => False) := by
  refine hp_start hl (own := RX3) (by decide) rfl (Nat.le_of_ble_eq_true rfl) ?_
  intro p e s m args below meth c B0 hr hnm hout hw hS ls hl9
  have hx := B0.1
  have hb := B0.2.1
  have hl9 : lv_has ls 2 [(0, .ref nr)] := hl9
  obtain ⟨hd, k_nr, hch⟩ := hR
  rcases Q with _ | ⟨⟨w, u⟩, Q1⟩
  · obtain ⟨eL, ehd⟩ := hch
    subst eL
    subst ehd
    have k_nr : f nr = some (.inr (3, [.null, .null, .int (nI 0)])) := k_nr
    refine lv_aload_n hx hb dX3_takeFirst_0 rfl (lv_at hl9 0 rfl) ?_
    refine hp_get B0 hw 3 rfl in_X3 k_nr 0 (by decide) qF_X3_19 rfl dX3_takeFirst_1 ?_
    refine lv_astore_nN (lv' := [(1, .null), (0, .ref nr)]) hx hb dX3_takeFirst_4 rfl hl9 (by decide) rfl (fun ls hl9 => ?_)
    refine lv_aload_nN hx hb dX3_takeFirst_5 rfl (lv_at hl9 0 rfl) ?_
    refine lv_ifnonnullN hx hb dX3_takeFirst_6 ?_
    refine lv_null hx hb dX3_takeFirst_9 ?_
    exact hp_aret (v := .null) B0 hw hS hr (Or.inl ⟨_, rfl⟩) (Or.inl rfl) ⟨Nat.le_of_ble_eq_true rfl, Nat.le_of_ble_eq_true rfl⟩ dX3_takeFirst_10 ((Or.inl ⟨rfl, rfl, rfl⟩))
  · obtain ⟨r, L1, nx, eL, ehd, k_w, k_u, ht⟩ := hch
    subst eL
    subst ehd
    rcases Q1 with _ | ⟨d, Q2⟩
    · have ht9 := ht
      obtain ⟨eL, enx⟩ := ht
      subst eL
      subst enx
      have k_nr : f nr = some (.inr (3, [.ref w, .ref w, .int (nI (0 + 1))])) := k_nr
      have k_w : f w = some (.inr (2, [.int r.1, .int r.2.1, .int (mgF r), .ref u, .null])) := k_w
      refine lv_aload_n hx hb dX3_takeFirst_0 rfl (lv_at hl9 0 rfl) ?_
      refine hp_get B0 hw 3 rfl in_X3 k_nr 0 (by decide) qF_X3_19 rfl dX3_takeFirst_1 ?_
      refine lv_astore_n (lv' := [(1, .ref w), (0, .ref nr)]) hx hb dX3_takeFirst_4 rfl hl9 (by decide) rfl (fun ls hl9 => ?_)
      refine lv_aload_n hx hb dX3_takeFirst_5 rfl (lv_at hl9 0 rfl) ?_
      refine lv_ifnonnull (tgt := 11) hx hb dX3_takeFirst_6 (by decide) ?_
      refine lv_aload_n hx hb dX3_takeFirst_11 rfl (lv_at hl9 1 rfl) ?_
      refine lv_aload_n hx hb dX3_takeFirst_12 rfl (lv_at hl9 0 rfl) ?_
      refine hp_get B0 hw 2 rfl in_X2 k_w 4 (by decide) qF_X3_22 rfl dX3_takeFirst_13 ?_
      refine hp_put (fs1 := [.null, .ref w, .int (nI (0 + 1))]) (ty := .object "OptionLine$Frame") B0 hw hS 3 rfl in_X3 tyX3 tyX3_ok nmX3 k_nr 0 (by decide) qF_X3_19 rfl (by decide +kernel) rfl rfl (Nat.le_of_ble_eq_true rfl) rfl dX3_takeFirst_16 (fun H locs f1 ef1 hw hS => ?_)
      have h2 : f1 nr = some (.inr (3, [.null, .ref w, .int (nI (0 + 1))])) := by rw [ef1, va_up_self]
      refine lv_aload_n hx hb dX3_takeFirst_19 rfl (lv_at hl9 1 rfl) ?_
      refine hp_get B0 hw 3 rfl in_X3 h2 0 (by decide) qF_X3_19 rfl dX3_takeFirst_20 ?_
      refine lv_ifnonnullN hx hb dX3_takeFirst_23 ?_
      refine lv_aload_n hx hb dX3_takeFirst_26 rfl (lv_at hl9 1 rfl) ?_
      refine lv_null hx hb dX3_takeFirst_27 ?_
      refine hp_put (fs1 := [.null, .null, .int (nI (0 + 1))]) (ty := .object "OptionLine$Frame") B0 hw hS 3 rfl in_X3 tyX3 tyX3_ok nmX3 h2 1 (by decide) qF_X3_15 rfl (by decide +kernel) rfl rfl (Nat.le_of_ble_eq_true rfl) rfl dX3_takeFirst_28 (fun H locs f3 ef3 hw hS => ?_)
      have e4 : f3 = va_up f nr (some (.inr (3, [.null, .null, .int (nI (0 + 1))]))) := by rw [ef3, ef1, bx_uu]
      have h5 : f3 nr = some (.inr (3, [.null, .null, .int (nI (0 + 1))])) := by rw [ef3, va_up_self]
      refine lv_aload_n hx hb dX3_takeFirst_31 rfl (lv_at hl9 1 rfl) ?_
      refine lv_dup hx hb dX3_takeFirst_32 rfl ?_
      refine hp_get B0 hw 3 rfl in_X3 h5 2 (by decide) qF_X3_9 rfl dX3_takeFirst_33 ?_
      refine lv_iconst (v := 1) hx hb dX3_takeFirst_36 (by decide) ?_
      refine lv_isub hx hb dX3_takeFirst_37 ?_
      refine hp_c (v := (nI 0)) (nI_pred _) ?_
      refine hp_put (fs1 := [.null, .null, .int (nI 0)]) (ty := .int) B0 hw hS 3 rfl in_X3 tyX3 tyX3_ok nmX3 h5 2 (by decide) qF_X3_9 rfl (by decide +kernel) rfl rfl (Nat.le_of_ble_eq_true rfl) rfl dX3_takeFirst_38 (fun H locs f6 ef6 hw hS => ?_)
      have e7 : f6 = va_up f nr (some (.inr (3, [.null, .null, .int (nI 0)]))) := by rw [ef6, e4, bx_uu]
      have h8 : f6 nr = some (.inr (3, [.null, .null, .int (nI 0)])) := by rw [ef6, va_up_self]
      refine lv_aload_n hx hb dX3_takeFirst_41 rfl (lv_at hl9 0 rfl) ?_
      exact hp_aret (v := .ref w) B0 hw hS hr (Or.inl ⟨_, rfl⟩) (Or.inr ⟨_, rfl⟩) ⟨Nat.le_of_ble_eq_true rfl, Nat.le_of_ble_eq_true rfl⟩ dX3_takeFirst_42 ((Or.inr ⟨(w, u), [], r, _, rfl, rfl, rfl, ⟨_, h8, CH.kp1 (show hK2 [nr] [] f f6 from (by rw [e7]; exact hK2.up List.mem_cons_self)) k_nr ht9⟩, (show hK2 [nr] [] f f6 from (by rw [e7]; exact hK2.up List.mem_cons_self))⟩))
    · have ht9 := ht
      obtain ⟨r2, L2, nx2, eL, enx, k_w2, k_u2, ht2⟩ := ht
      subst eL
      subst enx
      have k_nr : f nr = some (.inr (3, [.ref w, (lastV (d :: Q2)), .int (nI ((d :: Q2).length + 1))])) := by rw [lastV_cons] at k_nr; exact k_nr
      have k_w : f w = some (.inr (2, [.int r.1, .int r.2.1, .int (mgF r), .ref u, .ref d.1])) := k_w
      refine lv_aload_n hx hb dX3_takeFirst_0 rfl (lv_at hl9 0 rfl) ?_
      refine hp_get B0 hw 3 rfl in_X3 k_nr 0 (by decide) qF_X3_19 rfl dX3_takeFirst_1 ?_
      refine lv_astore_n (lv' := [(1, .ref w), (0, .ref nr)]) hx hb dX3_takeFirst_4 rfl hl9 (by decide) rfl (fun ls hl9 => ?_)
      refine lv_aload_n hx hb dX3_takeFirst_5 rfl (lv_at hl9 0 rfl) ?_
      refine lv_ifnonnull (tgt := 11) hx hb dX3_takeFirst_6 (by decide) ?_
      refine lv_aload_n hx hb dX3_takeFirst_11 rfl (lv_at hl9 1 rfl) ?_
      refine lv_aload_n hx hb dX3_takeFirst_12 rfl (lv_at hl9 0 rfl) ?_
      refine hp_get B0 hw 2 rfl in_X2 k_w 4 (by decide) qF_X3_22 rfl dX3_takeFirst_13 ?_
      refine hp_put (fs1 := [.ref d.1, (lastV (d :: Q2)), .int (nI ((d :: Q2).length + 1))]) (ty := .object "OptionLine$Frame") B0 hw hS 3 rfl in_X3 tyX3 tyX3_ok nmX3 k_nr 0 (by decide) qF_X3_19 rfl (by decide +kernel) rfl rfl (Nat.le_of_ble_eq_true rfl) rfl dX3_takeFirst_16 (fun H locs f9 ef9 hw hS => ?_)
      have h10 : f9 nr = some (.inr (3, [.ref d.1, (lastV (d :: Q2)), .int (nI ((d :: Q2).length + 1))])) := by rw [ef9, va_up_self]
      refine lv_aload_n hx hb dX3_takeFirst_19 rfl (lv_at hl9 1 rfl) ?_
      refine hp_get B0 hw 3 rfl in_X3 h10 0 (by decide) qF_X3_19 rfl dX3_takeFirst_20 ?_
      refine lv_ifnonnull (tgt := 31) hx hb dX3_takeFirst_23 (by decide) ?_
      refine lv_aload_n hx hb dX3_takeFirst_31 rfl (lv_at hl9 1 rfl) ?_
      refine lv_dup hx hb dX3_takeFirst_32 rfl ?_
      refine hp_get B0 hw 3 rfl in_X3 h10 2 (by decide) qF_X3_9 rfl dX3_takeFirst_33 ?_
      refine lv_iconst (v := 1) hx hb dX3_takeFirst_36 (by decide) ?_
      refine lv_isub hx hb dX3_takeFirst_37 ?_
      refine hp_c (v := (nI (d :: Q2).length)) (nI_pred _) ?_
      refine hp_put (fs1 := [.ref d.1, (lastV (d :: Q2)), .int (nI (d :: Q2).length)]) (ty := .int) B0 hw hS 3 rfl in_X3 tyX3 tyX3_ok nmX3 h10 2 (by decide) qF_X3_9 rfl (by decide +kernel) rfl rfl (Nat.le_of_ble_eq_true rfl) rfl dX3_takeFirst_38 (fun H locs f11 ef11 hw hS => ?_)
      have e12 : f11 = va_up f nr (some (.inr (3, [.ref d.1, (lastV (d :: Q2)), .int (nI (d :: Q2).length)]))) := by rw [ef11, ef9, bx_uu]
      have h13 : f11 nr = some (.inr (3, [.ref d.1, (lastV (d :: Q2)), .int (nI (d :: Q2).length)])) := by rw [ef11, va_up_self]
      refine lv_aload_n hx hb dX3_takeFirst_41 rfl (lv_at hl9 0 rfl) ?_
      exact hp_aret (v := .ref w) B0 hw hS hr (Or.inl ⟨_, rfl⟩) (Or.inr ⟨_, rfl⟩) ⟨Nat.le_of_ble_eq_true rfl, Nat.le_of_ble_eq_true rfl⟩ dX3_takeFirst_42 ((Or.inr ⟨(w, u), (d :: Q2), r, _, rfl, rfl, rfl, ⟨_, h13, CH.kp1 (show hK2 [nr] [] f f11 from (by rw [e12]; exact hK2.up List.mem_cons_self)) k_nr ht9⟩, (show hK2 [nr] [] f f11 from (by rw [e12]; exact hK2.up List.mem_cons_self))⟩))

set_option maxHeartbeats 4000000 in
set_option maxRecDepth 100000 in
theorem c_X1_askX {l : Launch} (hl : l.stackTraces = false) (G : hG) (f : hM) (en nw na nq nr : Nat) (st li sr tm lp mi ix : Int32) (gq : Nat → Int32) (L : List Fr) (Q : List (Nat × Nat)) (hE : EX G f en nw na nq nr (st, li, sr, tm, lp, mi, ix, gq, L) Q) (hn : Q.length < 4000) : CT l yX1_ask (.code yX1_ask cX1_ask 1 (some .boolean)) 2 37 2 11 G [.ref en] f (fun v f1 => (sr < 10 ∧ v = some (.int 1) ∧ ∃ w u : Nat, f w = none ∧ f u = none ∧ EX G f1 en nw na nq nr (st, li + 1, sr + 1, 3, lp, mi, ix, gq, L ++ [(0, li + 1, ix, gq)]) (Q ++ [(w, u)]) ∧ hK2 [en, nr] Q f f1) ∨ (¬ sr < 10 ∧ v = some (.int 0) ∧ EX G f1 en nw na nq nr (0, li, sr, tm, lp, mi, ix, gq, L) Q ∧ hK2 [en, nr] Q f f1)) (fun E f1 => False) := by
  refine hp_start hl (own := RX1) (by decide) rfl (Nat.le_of_ble_eq_true rfl) ?_
  intro p e s m args below meth c B0 hr hnm hout hw hS ls hl9
  have hx := B0.1
  have hb := B0.2.1
  have hl9 : lv_has ls 1 [(0, .ref en)] := hl9
  have ke1 : f en = some (.inr (1, [.ref nw, .ref na, .ref nq, .ref nr, .int (num ix), .int st, .int tm, .int sr, .int li, .int lp, .int mi])) := (hE).1
  have kq2 : f nq = some (.inl (cI G, 6, .inl gq)) := (hE).2.1
  obtain ⟨hd4, kr3, hc5⟩ := (hE).2.2.1
  refine lv_aload_n hx hb dX1_ask_0 rfl (lv_at hl9 0 rfl) ?_
  refine hp_get B0 hw 1 rfl in_X1 ke1 7 (by decide) qF_X1_35 rfl dX1_ask_1 ?_
  refine lv_bipush (v := 10) hx hb dX1_ask_4 (by decide) ?_
  refine lv_icmp_lt (tgt := 16) hx hb dX1_ask_6 (by decide) (fun c6 => ?_) (fun c6 => ?_)
  · refine lv_aload_n hx hb dX1_ask_16 rfl (lv_at hl9 0 rfl) ?_
    refine lv_dup hx hb dX1_ask_17 rfl ?_
    refine hp_get B0 hw 1 rfl in_X1 ke1 7 (by decide) qF_X1_35 rfl dX1_ask_18 ?_
    refine lv_iconst (v := 1) hx hb dX1_ask_21 (by decide) ?_
    refine lv_iadd hx hb dX1_ask_22 ?_
    refine hp_put (fs1 := [.ref nw, .ref na, .ref nq, .ref nr, .int (num ix), .int st, .int tm, .int (sr + 1), .int li, .int lp, .int mi]) (ty := .int) B0 hw hS 1 rfl in_X1 tyX1 tyX1_ok nmX1 ke1 7 (by decide) qF_X1_35 rfl (by decide +kernel) rfl rfl (Nat.le_of_ble_eq_true rfl) rfl dX1_ask_23 (fun H locs f7 ef7 hw hS => ?_)
    have h8 : f7 en = some (.inr (1, [.ref nw, .ref na, .ref nq, .ref nr, .int (num ix), .int st, .int tm, .int (sr + 1), .int li, .int lp, .int mi])) := by rw [ef7, va_up_self]
    refine lv_aload_n hx hb dX1_ask_26 rfl (lv_at hl9 0 rfl) ?_
    refine lv_dup hx hb dX1_ask_27 rfl ?_
    refine hp_get B0 hw 1 rfl in_X1 h8 8 (by decide) qF_X1_38 rfl dX1_ask_28 ?_
    refine lv_iconst (v := 1) hx hb dX1_ask_31 (by decide) ?_
    refine lv_iadd hx hb dX1_ask_32 ?_
    refine hp_put (fs1 := [.ref nw, .ref na, .ref nq, .ref nr, .int (num ix), .int st, .int tm, .int (sr + 1), .int (li + 1), .int lp, .int mi]) (ty := .int) B0 hw hS 1 rfl in_X1 tyX1 tyX1_ok nmX1 h8 8 (by decide) qF_X1_38 rfl (by decide +kernel) rfl rfl (Nat.le_of_ble_eq_true rfl) rfl dX1_ask_33 (fun H locs f9 ef9 hw hS => ?_)
    have e10 : f9 = va_up f en (some (.inr (1, [.ref nw, .ref na, .ref nq, .ref nr, .int (num ix), .int st, .int tm, .int (sr + 1), .int (li + 1), .int lp, .int mi]))) := by rw [ef9, ef7, bx_uu]
    have h11 : f9 en = some (.inr (1, [.ref nw, .ref na, .ref nq, .ref nr, .int (num ix), .int st, .int tm, .int (sr + 1), .int (li + 1), .int lp, .int mi])) := by rw [ef9, va_up_self]
    refine lv_aload_n hx hb dX1_ask_36 rfl (lv_at hl9 0 rfl) ?_
    refine lv_iconst (v := 3) hx hb dX1_ask_37 (by decide) ?_
    refine hp_put (fs1 := [.ref nw, .ref na, .ref nq, .ref nr, .int (num ix), .int st, .int 3, .int (sr + 1), .int (li + 1), .int lp, .int mi]) (ty := .int) B0 hw hS 1 rfl in_X1 tyX1 tyX1_ok nmX1 h11 6 (by decide) qF_X1_32 rfl (by decide +kernel) rfl rfl (Nat.le_of_ble_eq_true rfl) rfl dX1_ask_38 (fun H locs f12 ef12 hw hS => ?_)
    have e13 : f12 = va_up f en (some (.inr (1, [.ref nw, .ref na, .ref nq, .ref nr, .int (num ix), .int st, .int 3, .int (sr + 1), .int (li + 1), .int lp, .int mi]))) := by rw [ef12, e10, bx_uu]
    have h14 : f12 en = some (.inr (1, [.ref nw, .ref na, .ref nq, .ref nr, .int (num ix), .int st, .int 3, .int (sr + 1), .int (li + 1), .int lp, .int mi])) := by rw [ef12, va_up_self]
    refine lv_aload_n hx hb dX1_ask_41 rfl (lv_at hl9 0 rfl) ?_
    refine hp_get B0 hw 1 rfl in_X1 h14 3 (by decide) qF_X1_24 rfl dX1_ask_42 ?_
    refine hp_new (fs := [.int 0, .int 0, .int 0, .null, .null]) B0 hw hS 2 rfl in_X2 tyX2 tyX2_ok qC_X1_71 qI_X2 qN_X2 (fun j hj => by rcases (show j = 0 ∨ j = 1 ∨ j = 2 ∨ j = 3 ∨ j = 4 by omega) with rfl | rfl | rfl | rfl | rfl <;> rfl) (Nat.le_of_ble_eq_true rfl) (Nat.le_of_ble_eq_true rfl) dX1_ask_45 (fun q15 H f17 w16 ef17 hw hS => ?_)
    have h18 : f17 q15 = some (.inr (2, [.int 0, .int 0, .int 0, .null, .null])) := by rw [ef17, va_up_self]
    refine lv_dup hx hb dX1_ask_48 rfl ?_
    refine lv_iconst (v := 0) hx hb dX1_ask_49 (by decide) ?_
    refine lv_aload_n hx hb dX1_ask_50 rfl (lv_at hl9 0 rfl) ?_
    have h19 : f17 en = some (.inr (1, [.ref nw, .ref na, .ref nq, .ref nr, .int (num ix), .int st, .int 3, .int (sr + 1), .int (li + 1), .int lp, .int mi])) := by rw [ef17, va_up_ne _ _ (hnew h14 w16)]; exact h14
    refine hp_get B0 hw 1 rfl in_X1 h19 8 (by decide) qF_X1_38 rfl dX1_ask_51 ?_
    refine lv_aload_n hx hb dX1_ask_54 rfl (lv_at hl9 0 rfl) ?_
    refine hp_get B0 hw 1 rfl in_X1 h19 4 (by decide) qF_X1_48 rfl dX1_ask_55 ?_
    refine lv_aload_n hx hb dX1_ask_58 rfl (lv_at hl9 0 rfl) ?_
    refine hp_get B0 hw 1 rfl in_X1 h19 2 (by decide) qF_X1_18 rfl dX1_ask_59 ?_
    refine lv_bipush (v := 6) hx hb dX1_ask_62 (by decide) ?_
    have n21 : nq ≠ en := hne kq2 ke1 (Nat.ne_of_beq_eq_false rfl)
    have h20 : f12 nq = some (.inl (cI G, 6, .inl gq)) := by rw [e13, va_up_ne _ _ n21]; exact kq2
    have h22 : f17 nq = some (.inl (cI G, 6, .inl gq)) := by rw [ef17, va_up_ne _ _ (hnew h20 w16)]; exact h20
    refine hp_S (As := [.ref nq, .int 6]) (rest := [.int (num ix), .int (li + 1), .int 0, .ref q15, .ref q15, .ref nr]) B0 hw hS (c_J7_copyE hl G f17 nq gq h22) mS_J7_copyOf_59c91 qM_X1_95 rfl rfl hl9.1 (Nat.le_of_ble_eq_true rfl) ⟨⟨Nat.le_of_ble_eq_true rfl, Nat.le_of_ble_eq_true rfl⟩, Nat.le_of_ble_eq_true rfl, Nat.le_of_ble_eq_true rfl⟩ dX1_ask_64 (fun E ce q9 f23 H locs hPX hw hS hce hcv hcl => ?_) (fun v f23 H locs hP hw hS => ?_)
    · exact hPX.elim
    · obtain ⟨q24, ev9, w25, e26⟩ := hP
      subst ev9
      have h28 : f23 q24 = some (.inl (cI G, 6, .inl gq)) := by rw [e26, va_up_self]
      refine W.eq (g2 := F0 m 67 ls [.ref q24, .int (num ix), .int (li + 1), .int 0, .ref q15, .ref q15, .ref nr]) rfl ?_
      have h29 : f23 q15 = some (.inr (2, [.int 0, .int 0, .int 0, .null, .null])) := by rw [e26, va_up_ne _ _ (hnew h18 w25)]; exact h18
      refine hp_I (As := [.int 0, .int (li + 1), .int (num ix), .ref q24]) (rest := [.ref q15, .ref nr]) (b := q15) B0 hw hS (c_X2_initE hl G f23 q15 q24 0 (li + 1) (num ix) h29) mI_X2_init qM_X1_99 rfl rfl hl9.1 (Nat.le_of_ble_eq_true rfl) ⟨⟨Nat.le_of_ble_eq_true rfl, Nat.le_of_ble_eq_true rfl⟩, Nat.le_of_ble_eq_true rfl, Nat.le_of_ble_eq_true rfl⟩ dX1_ask_67 (fun E ce q9 f30 H locs hPX hw hS hce hcv hcl => ?_) (fun v f30 H locs hP hw hS => ?_)
      · exact hPX.elim
      · obtain ⟨ev9, e31⟩ := hP
        subst ev9
        have h32 : f30 q15 = some (.inr (2, [.int 0, .int (li + 1), .int (num ix), .ref q24, .null])) := by rw [e31, va_up_self]
        refine W.eq (g2 := F0 m 70 ls [.ref q15, .ref nr]) rfl ?_
        have n34 : q15 ≠ q24 := hnew h18 w25
        have h33 : f30 q24 = some (.inl (cI G, 6, .inl gq)) := by rw [e31, va_up_ne _ _ (Ne.symm n34)]; exact h28
        have n36 : nr ≠ en := hne kr3 ke1 (Nat.ne_of_beq_eq_false rfl)
        have h35 : f12 nr = some (.inr (3, [hd4, (lastV Q), .int (nI (Q).length)])) := by rw [e13, va_up_ne _ _ n36]; exact kr3
        have h37 : f17 nr = some (.inr (3, [hd4, (lastV Q), .int (nI (Q).length)])) := by rw [ef17, va_up_ne _ _ (hnew h35 w16)]; exact h35
        have h38 : f23 nr = some (.inr (3, [hd4, (lastV Q), .int (nI (Q).length)])) := by rw [e26, va_up_ne _ _ (hnew h37 w25)]; exact h37
        have n40 : nr ≠ q15 := hnew h35 w16
        have h39 : f30 nr = some (.inr (3, [hd4, (lastV Q), .int (nI (Q).length)])) := by rw [e31, va_up_ne _ _ n40]; exact h38
        have k41 : f30 q15 = some (.inr (2, [.int 0, .int (li + 1), .int (mgF (0, li + 1, ix, gq)), .ref q24, .null])) := by rw [show mgF (0, li + 1, ix, gq) = (num ix) from if_pos rfl]; exact h32
        have hN42 : ∀ c9 ∈ [(q15, q24)], f c9.1 = none ∧ f c9.2 = none := fun c9 hc9 => by rw [List.mem_singleton.mp hc9]; exact ⟨((show hK2 [en] [] f f12 from (by rw [e13]; exact hK2.up List.mem_cons_self)).1 _ w16), (((show hK2 [en] [] f f12 from (by rw [e13]; exact hK2.up List.mem_cons_self)).tr (hK2.trn w16 (show hK2 [q15, en] [] f12 f17 from (by rw [ef17]; exact hK2.new w16)))).1 _ w25)⟩
        refine hp_V (ci := 3) (As := [.ref q15]) (rest := []) B0 hw hS (c_X3_putX hl G f30 nr q15 q24 (0, li + 1, ix, gq) Q L ⟨_, h39, (CH.kp ((show hK2 [en, nq, nr] [] f f12 from (by rw [e13]; exact hK2.up List.mem_cons_self)).tr (hK2.trn w16 ((show hK2 [q15, en, nq, nr] [] f12 f17 from (by rw [ef17]; exact hK2.new w16)).tr (hK2.trn w25 ((show hK2 [q24, q15, en, nq, nr] [] f17 f23 from (by rw [e26]; exact hK2.new w25)).tr (show hK2 [q24, q15, en, nq, nr] [] f23 f30 from (by rw [e31]; exact hK2.up (List.mem_cons_of_mem _ List.mem_cons_self)))))))) hc5 (EX.cu (hE)) (EX.sf (hE)))⟩ k41 h33 (CH.fresh hc5 (hN42 (q15, q24) (List.mem_singleton.mpr rfl)).1) (hE).2.2.2.1 (Nat.lt_trans hn (by decide))) mV_X3_put qM_X1_102 rfl h39 rfl rfl hl9.1 (Nat.le_of_ble_eq_true rfl) ⟨⟨Nat.le_of_ble_eq_true rfl, Nat.le_of_ble_eq_true rfl⟩, Nat.le_of_ble_eq_true rfl, Nat.le_of_ble_eq_true rfl⟩ dX1_ask_70 (fun E ce q9 f43 H locs hPX hw hS hce hcv hcl => ?_) (fun v f43 H locs hP hw hS => ?_)
        · exact hPX.elim
        · obtain ⟨ev9, hR44, k45⟩ := hP
          subst ev9
          have h46 : f23 en = some (.inr (1, [.ref nw, .ref na, .ref nq, .ref nr, .int (num ix), .int st, .int 3, .int (sr + 1), .int (li + 1), .int lp, .int mi])) := by rw [e26, va_up_ne _ _ (hnew h19 w25)]; exact h19
          have n48 : en ≠ q15 := hnew h14 w16
          have h47 : f30 en = some (.inr (1, [.ref nw, .ref na, .ref nq, .ref nr, .int (num ix), .int st, .int 3, .int (sr + 1), .int (li + 1), .int lp, .int mi])) := by rw [e31, va_up_ne _ _ n48]; exact h46
          have h49 : f23 nq = some (.inl (cI G, 6, .inl gq)) := by rw [e26, va_up_ne _ _ (hnew h22 w25)]; exact h22
          have n51 : nq ≠ q15 := hnew h20 w16
          have h50 : f30 nq = some (.inl (cI G, 6, .inl gq)) := by rw [e31, va_up_ne _ _ n51]; exact h49
          have h52 : f43 en = some (.inr (1, [.ref nw, .ref na, .ref nq, .ref nr, .int (num ix), .int st, .int 3, .int (sr + 1), .int (li + 1), .int lp, .int mi])) := k45.2 _ _ h47 (ninc (Ne.symm n36) nin0) (fun t9 => absurd t9 (Nat.ne_of_beq_eq_false rfl))
          have n53 : nq ≠ nr := hne kq2 kr3 (Nat.ne_of_beq_eq_false rfl)
          have h54 : f43 nq = some (.inl (cI G, 6, .inl gq)) := k45.2 _ _ h50 (ninc n53 nin0) (fun t9 => absurd t9 (Nat.ne_of_beq_eq_false rfl))
          have hE55 : EX G f43 en nw na nq nr (st, (li + 1), (sr + 1), 3, lp, mi, ix, gq, (L ++ [(0, li + 1, ix, gq)])) (Q ++ [(q15, q24)]) := ⟨h52, h54, hR44, nd_snoc (hE).2.2.2.1 (CH.fresh hc5 (hN42 (q15, q24) (List.mem_singleton.mpr rfl)).1), nuN (hE).2.2.2.2.1 kq2 hN42, (hE).2.2.2.2.2⟩
          have ke56 : f43 en = some (.inr (1, [.ref nw, .ref na, .ref nq, .ref nr, .int (num ix), .int st, .int 3, .int (sr + 1), .int (li + 1), .int lp, .int mi])) := (hE55).1
          have kq57 : f43 nq = some (.inl (cI G, 6, .inl gq)) := (hE55).2.1
          obtain ⟨hd59, kr58, hc60⟩ := (hE55).2.2.1
          refine W.eq (g2 := F0 m 73 ls []) rfl ?_
          refine lv_iconst (v := 1) hx hb dX1_ask_73 (by decide) ?_
          exact hp_zret (v := 1) B0 hw hS hr ⟨Nat.le_of_ble_eq_true rfl, Nat.le_of_ble_eq_true rfl⟩ (rfl) dX1_ask_74 ((Or.inl ⟨c6, rfl, q15, q24, (hN42 _ (List.mem_singleton.mpr rfl)).1, (hN42 _ (List.mem_singleton.mpr rfl)).2, (show EX G f43 en nw na nq nr (st, (li + 1), (sr + 1), 3, lp, mi, ix, gq, (L ++ [(0, li + 1, ix, gq)])) (Q ++ [(q15, q24)]) from ⟨ke56, kq57, ⟨_, kr58, hc60⟩, (hE55).2.2.2.1, (hE55).2.2.2.2.1, (hE).2.2.2.2.2⟩), ((show hK2 [en, nr] Q f f12 from (by rw [e13]; exact hK2.up List.mem_cons_self)).tr (hK2.trn w16 ((show hK2 [q15, en, nr] Q f12 f17 from (by rw [ef17]; exact hK2.new w16)).tr (hK2.trn w25 ((show hK2 [q24, q15, en, nr] Q f17 f23 from (by rw [e26]; exact hK2.new w25)).tr ((show hK2 [q24, q15, en, nr] Q f23 f30 from (by rw [e31]; exact hK2.up (List.mem_cons_of_mem _ List.mem_cons_self))).tr (show hK2 [q24, q15, en, nr] Q f30 f43 from (k45.mono (sub_cons (List.mem_cons_of_mem _ (List.mem_cons_of_mem _ (List.mem_cons_of_mem _ List.mem_cons_self))) sub_nil)))))))))⟩))
  · refine lv_aload_n hx hb dX1_ask_9 rfl (lv_at hl9 0 rfl) ?_
    refine lv_iconst (v := 0) hx hb dX1_ask_10 (by decide) ?_
    refine hp_put (fs1 := [.ref nw, .ref na, .ref nq, .ref nr, .int (num ix), .int 0, .int tm, .int sr, .int li, .int lp, .int mi]) (ty := .int) B0 hw hS 1 rfl in_X1 tyX1 tyX1_ok nmX1 ke1 5 (by decide) qF_X1_28 rfl (by decide +kernel) rfl rfl (Nat.le_of_ble_eq_true rfl) rfl dX1_ask_11 (fun H locs f61 ef61 hw hS => ?_)
    have h62 : f61 en = some (.inr (1, [.ref nw, .ref na, .ref nq, .ref nr, .int (num ix), .int 0, .int tm, .int sr, .int li, .int lp, .int mi])) := by rw [ef61, va_up_self]
    refine lv_iconst (v := 0) hx hb dX1_ask_14 (by decide) ?_
    have n64 : nq ≠ en := hne kq2 ke1 (Nat.ne_of_beq_eq_false rfl)
    have h63 : f61 nq = some (.inl (cI G, 6, .inl gq)) := by rw [ef61, va_up_ne _ _ n64]; exact kq2
    have n66 : nr ≠ en := hne kr3 ke1 (Nat.ne_of_beq_eq_false rfl)
    have h65 : f61 nr = some (.inr (3, [hd4, (lastV Q), .int (nI (Q).length)])) := by rw [ef61, va_up_ne _ _ n66]; exact kr3
    exact hp_zret (v := 0) B0 hw hS hr ⟨Nat.le_of_ble_eq_true rfl, Nat.le_of_ble_eq_true rfl⟩ (rfl) dX1_ask_15 ((Or.inr ⟨c6, rfl, (show EX G f61 en nw na nq nr (0, li, sr, tm, lp, mi, ix, gq, L) Q from ⟨h62, h63, ⟨_, h65, (CH.kp (show hK2 [en, nq, nr] [] f f61 from (by rw [ef61]; exact hK2.up List.mem_cons_self)) hc5 (EX.cu (hE)) (EX.sf (hE)))⟩, (hE).2.2.2.1, (hE).2.2.2.2.1, (hE).2.2.2.2.2⟩), (show hK2 [en, nr] Q f f61 from (by rw [ef61]; exact hK2.up List.mem_cons_self))⟩))

set_option maxHeartbeats 4000000 in
set_option maxRecDepth 100000 in
theorem c_X1_sendStopX {l : Launch} (hl : l.stackTraces = false) (G : hG) (f : hM) (en nw na nq nr : Nat) (st li sr tm lp mi ix : Int32) (gq : Nat → Int32) (L : List Fr) (Q : List (Nat × Nat)) (hE : EX G f en nw na nq nr (st, li, sr, tm, lp, mi, ix, gq, L) Q) (hn : Q.length < 4000) : CT l yX1_sendStop (.code yX1_sendStop cX1_sendStop 1 none) 2 43 2 11 G [.ref en] f (fun v f1 => v = none ∧ ∃ w u : Nat, f w = none ∧ f u = none ∧ EX G f1 en nw na nq nr (st, li, sr, tm, lp, mi, ix, gq, L ++ [(4, 0, ix, N6)]) (Q ++ [(w, u)]) ∧ hK2 [en, nr] Q f f1) (fun E f1 => False) := by
  refine hp_start hl (own := RX1) (by decide) rfl (Nat.le_of_ble_eq_true rfl) ?_
  intro p e s m args below meth c B0 hr hnm hout hw hS ls hl9
  have hx := B0.1
  have hb := B0.2.1
  have hl9 : lv_has ls 1 [(0, .ref en)] := hl9
  have ke1 : f en = some (.inr (1, [.ref nw, .ref na, .ref nq, .ref nr, .int (num ix), .int st, .int tm, .int sr, .int li, .int lp, .int mi])) := (hE).1
  have kq2 : f nq = some (.inl (cI G, 6, .inl gq)) := (hE).2.1
  obtain ⟨hd4, kr3, hc5⟩ := (hE).2.2.1
  refine lv_aload_n hx hb dX1_sendStop_0 rfl (lv_at hl9 0 rfl) ?_
  refine hp_get B0 hw 1 rfl in_X1 ke1 3 (by decide) qF_X1_24 rfl dX1_sendStop_1 ?_
  refine hp_new (fs := [.int 0, .int 0, .int 0, .null, .null]) B0 hw hS 2 rfl in_X2 tyX2 tyX2_ok qC_X1_71 qI_X2 qN_X2 (fun j hj => by rcases (show j = 0 ∨ j = 1 ∨ j = 2 ∨ j = 3 ∨ j = 4 by omega) with rfl | rfl | rfl | rfl | rfl <;> rfl) (Nat.le_of_ble_eq_true rfl) (Nat.le_of_ble_eq_true rfl) dX1_sendStop_4 (fun q6 H f8 w7 ef8 hw hS => ?_)
  have h9 : f8 q6 = some (.inr (2, [.int 0, .int 0, .int 0, .null, .null])) := by rw [ef8, va_up_self]
  refine lv_dup hx hb dX1_sendStop_7 rfl ?_
  refine lv_iconst (v := 4) hx hb dX1_sendStop_8 (by decide) ?_
  refine lv_iconst (v := 0) hx hb dX1_sendStop_9 (by decide) ?_
  refine lv_iconst (v := 0) hx hb dX1_sendStop_10 (by decide) ?_
  refine hp_S (As := []) (rest := [.int 0, .int 0, .int 4, .ref q6, .ref q6, .ref nr]) B0 hw hS (c_X1_tellX hl G f8 ) mS_X1_tellNothing qM_X1_105 rfl rfl hl9.1 (Nat.le_of_ble_eq_true rfl) ⟨⟨Nat.le_of_ble_eq_true rfl, Nat.le_of_ble_eq_true rfl⟩, Nat.le_of_ble_eq_true rfl, Nat.le_of_ble_eq_true rfl⟩ dX1_sendStop_11 (fun E ce q9 f10 H locs hPX hw hS hce hcv hcl => ?_) (fun v f10 H locs hP hw hS => ?_)
  · exact hPX.elim
  · obtain ⟨q11, ev9, w12, e13⟩ := hP
    subst ev9
    have h14 : f10 q11 = some (.inl (cI G, 6, .inl N6)) := by rw [e13, va_up_self]
    refine W.eq (g2 := F0 m 14 ls [.ref q11, .int 0, .int 0, .int 4, .ref q6, .ref q6, .ref nr]) rfl ?_
    have h15 : f10 q6 = some (.inr (2, [.int 0, .int 0, .int 0, .null, .null])) := by rw [e13, va_up_ne _ _ (hnew h9 w12)]; exact h9
    refine hp_I (As := [.int 4, .int 0, .int 0, .ref q11]) (rest := [.ref q6, .ref nr]) (b := q6) B0 hw hS (c_X2_initE hl G f10 q6 q11 4 0 0 h15) mI_X2_init qM_X1_99 rfl rfl hl9.1 (Nat.le_of_ble_eq_true rfl) ⟨⟨Nat.le_of_ble_eq_true rfl, Nat.le_of_ble_eq_true rfl⟩, Nat.le_of_ble_eq_true rfl, Nat.le_of_ble_eq_true rfl⟩ dX1_sendStop_14 (fun E ce q9 f16 H locs hPX hw hS hce hcv hcl => ?_) (fun v f16 H locs hP hw hS => ?_)
    · exact hPX.elim
    · obtain ⟨ev9, e17⟩ := hP
      subst ev9
      have h18 : f16 q6 = some (.inr (2, [.int 4, .int 0, .int 0, .ref q11, .null])) := by rw [e17, va_up_self]
      refine W.eq (g2 := F0 m 17 ls [.ref q6, .ref nr]) rfl ?_
      have n20 : q6 ≠ q11 := hnew h9 w12
      have h19 : f16 q11 = some (.inl (cI G, 6, .inl N6)) := by rw [e17, va_up_ne _ _ (Ne.symm n20)]; exact h14
      have h21 : f8 nr = some (.inr (3, [hd4, (lastV Q), .int (nI (Q).length)])) := by rw [ef8, va_up_ne _ _ (hnew kr3 w7)]; exact kr3
      have h22 : f10 nr = some (.inr (3, [hd4, (lastV Q), .int (nI (Q).length)])) := by rw [e13, va_up_ne _ _ (hnew h21 w12)]; exact h21
      have n24 : nr ≠ q6 := hnew kr3 w7
      have h23 : f16 nr = some (.inr (3, [hd4, (lastV Q), .int (nI (Q).length)])) := by rw [e17, va_up_ne _ _ n24]; exact h22
      have k25 : f16 q6 = some (.inr (2, [.int 4, .int 0, .int (mgF (4, 0, ix, N6)), .ref q11, .null])) := by rw [show mgF (4, 0, ix, N6) = 0 from if_neg (show ¬ (4 : Int32) = 0 by decide)]; exact h18
      have hN26 : ∀ c9 ∈ [(q6, q11)], f c9.1 = none ∧ f c9.2 = none := fun c9 hc9 => by rw [List.mem_singleton.mp hc9]; exact ⟨((fun _ h9 => h9) _ w7), ((hK2.trn w7 (show hK2 [q6] [] f f8 from (by rw [ef8]; exact hK2.new w7))).1 _ w12)⟩
      refine hp_V (ci := 3) (As := [.ref q6]) (rest := []) B0 hw hS (c_X3_putX hl G f16 nr q6 q11 (4, 0, ix, N6) Q L ⟨_, h23, (CH.kp (hK2.trn w7 ((show hK2 [q6, en, nq, nr] [] f f8 from (by rw [ef8]; exact hK2.new w7)).tr (hK2.trn w12 ((show hK2 [q11, q6, en, nq, nr] [] f8 f10 from (by rw [e13]; exact hK2.new w12)).tr (show hK2 [q11, q6, en, nq, nr] [] f10 f16 from (by rw [e17]; exact hK2.up (List.mem_cons_of_mem _ List.mem_cons_self))))))) hc5 (EX.cu (hE)) (EX.sf (hE)))⟩ k25 h19 (CH.fresh hc5 (hN26 (q6, q11) (List.mem_singleton.mpr rfl)).1) (hE).2.2.2.1 (Nat.lt_trans hn (by decide))) mV_X3_put qM_X1_102 rfl h23 rfl rfl hl9.1 (Nat.le_of_ble_eq_true rfl) ⟨⟨Nat.le_of_ble_eq_true rfl, Nat.le_of_ble_eq_true rfl⟩, Nat.le_of_ble_eq_true rfl, Nat.le_of_ble_eq_true rfl⟩ dX1_sendStop_17 (fun E ce q9 f27 H locs hPX hw hS hce hcv hcl => ?_) (fun v f27 H locs hP hw hS => ?_)
      · exact hPX.elim
      · obtain ⟨ev9, hR28, k29⟩ := hP
        subst ev9
        have h30 : f8 en = some (.inr (1, [.ref nw, .ref na, .ref nq, .ref nr, .int (num ix), .int st, .int tm, .int sr, .int li, .int lp, .int mi])) := by rw [ef8, va_up_ne _ _ (hnew ke1 w7)]; exact ke1
        have h31 : f10 en = some (.inr (1, [.ref nw, .ref na, .ref nq, .ref nr, .int (num ix), .int st, .int tm, .int sr, .int li, .int lp, .int mi])) := by rw [e13, va_up_ne _ _ (hnew h30 w12)]; exact h30
        have n33 : en ≠ q6 := hnew ke1 w7
        have h32 : f16 en = some (.inr (1, [.ref nw, .ref na, .ref nq, .ref nr, .int (num ix), .int st, .int tm, .int sr, .int li, .int lp, .int mi])) := by rw [e17, va_up_ne _ _ n33]; exact h31
        have h34 : f8 nq = some (.inl (cI G, 6, .inl gq)) := by rw [ef8, va_up_ne _ _ (hnew kq2 w7)]; exact kq2
        have h35 : f10 nq = some (.inl (cI G, 6, .inl gq)) := by rw [e13, va_up_ne _ _ (hnew h34 w12)]; exact h34
        have n37 : nq ≠ q6 := hnew kq2 w7
        have h36 : f16 nq = some (.inl (cI G, 6, .inl gq)) := by rw [e17, va_up_ne _ _ n37]; exact h35
        have n38 : en ≠ nr := hne ke1 kr3 (Nat.ne_of_beq_eq_false rfl)
        have h39 : f27 en = some (.inr (1, [.ref nw, .ref na, .ref nq, .ref nr, .int (num ix), .int st, .int tm, .int sr, .int li, .int lp, .int mi])) := k29.2 _ _ h32 (ninc n38 nin0) (fun t9 => absurd t9 (Nat.ne_of_beq_eq_false rfl))
        have n40 : nq ≠ nr := hne kq2 kr3 (Nat.ne_of_beq_eq_false rfl)
        have h41 : f27 nq = some (.inl (cI G, 6, .inl gq)) := k29.2 _ _ h36 (ninc n40 nin0) (fun t9 => absurd t9 (Nat.ne_of_beq_eq_false rfl))
        have hE42 : EX G f27 en nw na nq nr (st, li, sr, tm, lp, mi, ix, gq, (L ++ [(4, 0, ix, N6)])) (Q ++ [(q6, q11)]) := ⟨h39, h41, hR28, nd_snoc (hE).2.2.2.1 (CH.fresh hc5 (hN26 (q6, q11) (List.mem_singleton.mpr rfl)).1), nuN (hE).2.2.2.2.1 kq2 hN26, (hE).2.2.2.2.2⟩
        have ke43 : f27 en = some (.inr (1, [.ref nw, .ref na, .ref nq, .ref nr, .int (num ix), .int st, .int tm, .int sr, .int li, .int lp, .int mi])) := (hE42).1
        have kq44 : f27 nq = some (.inl (cI G, 6, .inl gq)) := (hE42).2.1
        obtain ⟨hd46, kr45, hc47⟩ := (hE42).2.2.1
        refine W.eq (g2 := F0 m 20 ls []) rfl ?_
        exact hp_vret B0 hw hS hr ⟨Nat.le_of_ble_eq_true rfl, Nat.le_of_ble_eq_true rfl⟩ dX1_sendStop_20 (⟨rfl, q6, q11, (hN26 _ (List.mem_singleton.mpr rfl)).1, (hN26 _ (List.mem_singleton.mpr rfl)).2, (show EX G f27 en nw na nq nr (st, li, sr, tm, lp, mi, ix, gq, (L ++ [(4, 0, ix, N6)])) (Q ++ [(q6, q11)]) from ⟨ke43, kq44, ⟨_, kr45, hc47⟩, (hE42).2.2.2.1, (hE42).2.2.2.2.1, (hE).2.2.2.2.2⟩), (hK2.trn w7 ((show hK2 [q6, en, nr] Q f f8 from (by rw [ef8]; exact hK2.new w7)).tr (hK2.trn w12 ((show hK2 [q11, q6, en, nr] Q f8 f10 from (by rw [e13]; exact hK2.new w12)).tr ((show hK2 [q11, q6, en, nr] Q f10 f16 from (by rw [e17]; exact hK2.up (List.mem_cons_of_mem _ List.mem_cons_self))).tr (show hK2 [q11, q6, en, nr] Q f16 f27 from (k29.mono (sub_cons (List.mem_cons_of_mem _ (List.mem_cons_of_mem _ (List.mem_cons_of_mem _ List.mem_cons_self))) sub_nil))))))))⟩)

set_option maxHeartbeats 4000000 in
set_option maxRecDepth 100000 in
theorem c_X1_finishX {l : Launch} (hl : l.stackTraces = false) (G : hG) (f : hM) (en nw na nq nr : Nat) (st li sr tm lp mi ix : Int32) (gq : Nat → Int32) (L : List Fr) (Q : List (Nat × Nat)) (hE : EX G f en nw na nq nr (st, li, sr, tm, lp, mi, ix, gq, L) Q) (hn : Q.length < 3900) : CT l yX1_finish (.code yX1_finish cX1_finish 2 (some .int)) 3 63 2 11 G [.ref en] f (fun v f1 => v = some (.int st) ∧ XP G f f1 en nw na nq nr Q (closeS (st, li, sr, tm, lp, mi, ix, gq, L))) (fun E f1 => False) := by
  refine hp_start hl (own := RX1) (by decide) rfl (Nat.le_of_ble_eq_true rfl) ?_
  intro p e s m args below meth c B0 hr hnm hout hw hS ls hl9
  have hx := B0.1
  have hb := B0.2.1
  have hl9 : lv_has ls 2 [(0, .ref en)] := hl9
  have ke1 : f en = some (.inr (1, [.ref nw, .ref na, .ref nq, .ref nr, .int (num ix), .int st, .int tm, .int sr, .int li, .int lp, .int mi])) := (hE).1
  have kq2 : f nq = some (.inl (cI G, 6, .inl gq)) := (hE).2.1
  obtain ⟨hd4, kr3, hc5⟩ := (hE).2.2.1
  refine lv_aload_n hx hb dX1_finish_0 rfl (lv_at hl9 0 rfl) ?_
  refine hp_get B0 hw 1 rfl in_X1 ke1 5 (by decide) qF_X1_28 rfl dX1_finish_1 ?_
  refine lv_istore_n (lv' := [(1, .int st), (0, .ref en)]) hx hb dX1_finish_4 rfl hl9 (by decide) rfl (fun ls hl9 => ?_)
  refine lv_aload_n hx hb dX1_finish_5 rfl (lv_at hl9 1 rfl) ?_
  refine hp_V (ci := 1) (As := []) (rest := []) B0 hw hS (c_X1_sendStopX hl G f en nw na nq nr st li sr tm lp mi ix gq L Q (show EX G f en nw na nq nr (st, li, sr, tm, lp, mi, ix, gq, L) Q from ⟨ke1, kq2, ⟨_, kr3, hc5⟩, (hE).2.2.2.1, (hE).2.2.2.2.1, (hE).2.2.2.2.2⟩) (Nat.lt_trans hn (by decide))) mV_X1_sendStop qM_X1_67 rfl ke1 rfl rfl hl9.1 (Nat.le_of_ble_eq_true rfl) ⟨⟨Nat.le_of_ble_eq_true rfl, Nat.le_of_ble_eq_true rfl⟩, Nat.le_of_ble_eq_true rfl, Nat.le_of_ble_eq_true rfl⟩ dX1_finish_6 (fun E ce q9 f6 H locs hPX hw hS hce hcv hcl => ?_) (fun v f6 H locs hP hw hS => ?_)
  · exact hPX.elim
  · obtain ⟨ev9, w7, u8, hw9, hu10, hE11, k12⟩ := hP
    subst ev9
    have hN13 : ∀ c9 ∈ [(w7, u8)], f c9.1 = none ∧ f c9.2 = none := fun c9 hc9 => by rw [List.mem_singleton.mp hc9]; exact ⟨hw9, hu10⟩
    have ke14 : f6 en = some (.inr (1, [.ref nw, .ref na, .ref nq, .ref nr, .int (num ix), .int st, .int tm, .int sr, .int li, .int lp, .int mi])) := (hE11).1
    have kq15 : f6 nq = some (.inl (cI G, 6, .inl gq)) := (hE11).2.1
    obtain ⟨hd17, kr16, hc18⟩ := (hE11).2.2.1
    refine W.eq (g2 := F0 m 9 ls []) rfl ?_
    refine lv_aload_n hx hb dX1_finish_9 rfl (lv_at hl9 1 rfl) ?_
    refine lv_iconst (v := 0) hx hb dX1_finish_10 (by decide) ?_
    refine hp_put (fs1 := [.ref nw, .ref na, .ref nq, .ref nr, .int (num ix), .int 0, .int tm, .int sr, .int li, .int lp, .int mi]) (ty := .int) B0 hw hS 1 rfl in_X1 tyX1 tyX1_ok nmX1 ke14 5 (by decide) qF_X1_28 rfl (by decide +kernel) rfl rfl (Nat.le_of_ble_eq_true rfl) rfl dX1_finish_11 (fun H locs f19 ef19 hw hS => ?_)
    have h20 : f19 en = some (.inr (1, [.ref nw, .ref na, .ref nq, .ref nr, .int (num ix), .int 0, .int tm, .int sr, .int li, .int lp, .int mi])) := by rw [ef19, va_up_self]
    refine lv_iload_n hx hb dX1_finish_14 rfl (lv_at hl9 0 rfl) ?_
    have n22 : nq ≠ en := hne kq2 ke1 (Nat.ne_of_beq_eq_false rfl)
    have h21 : f19 nq = some (.inl (cI G, 6, .inl gq)) := by rw [ef19, va_up_ne _ _ n22]; exact kq15
    have n24 : nr ≠ en := hne kr3 ke1 (Nat.ne_of_beq_eq_false rfl)
    have h23 : f19 nr = some (.inr (3, [hd17, (lastV (Q ++ [(w7, u8)])), .int (nI ((Q ++ [(w7, u8)])).length)])) := by rw [ef19, va_up_ne _ _ n24]; exact kr16
    exact hp_iret (v := st) B0 hw hS hr ⟨Nat.le_of_ble_eq_true rfl, Nat.le_of_ble_eq_true rfl⟩ dX1_finish_15 (⟨rfl, ⟨_, hN13, (by rw [show closeS (st, li, sr, tm, lp, mi, ix, gq, L) = (0, li, sr, tm, lp, mi, ix, gq, (L ++ [(4, 0, ix, N6)])) from rfl]; exact (show EX G f19 en nw na nq nr (0, li, sr, tm, lp, mi, ix, gq, (L ++ [(4, 0, ix, N6)])) (Q ++ [(w7, u8)]) from ⟨h20, h21, ⟨_, h23, (CH.kp (show hK2 [en, nq, nr] [] f6 f19 from (by rw [ef19]; exact hK2.up List.mem_cons_self)) hc18 (EX.cu (hE11)) (EX.sf (hE11)))⟩, (hE11).2.2.2.1, (hE11).2.2.2.2.1, (hE).2.2.2.2.2⟩)), ((show hK2 [en, nq, nr] Q f f6 from (k12.mono (sub_cons List.mem_cons_self (sub_cons (List.mem_cons_of_mem _ (List.mem_cons_of_mem _ List.mem_cons_self)) sub_nil)))).trq (show hK2 [en, nq, nr] (Q ++ [(w7, u8)]) f6 f19 from (by rw [ef19]; exact hK2.up List.mem_cons_self)) (fun c9 h9 => (hN13 c9 h9).1))⟩⟩)

theorem cpy_eq {gw gq : Nat → Int32} : va_cpy gw gq (0 : Int32).toNatClampNeg (0 : Int32).toNatClampNeg (6 : Int32).toNatClampNeg = cpyF gw gq := by
  funext j
  rw [cl0, cl6]
  unfold cpyF
  by_cases h : j < 6
  · rw [pk_cpy_in (Nat.zero_le _) (by omega), if_pos h]; congr 1; omega
  · rw [pk_cpy_out (Or.inr (by omega)), if_neg h]
set_option maxHeartbeats 4000000 in
set_option maxRecDepth 100000 in
theorem c_X1_beginX {l : Launch} (hl : l.stackTraces = false) (G : hG) (f : hM) (en nw na nq nr : Nat) (st li sr tm lp mi ix : Int32) (gq : Nat → Int32) (L : List Fr) (Q : List (Nat × Nat)) (hE : EX G f en nw na nq nr (st, li, sr, tm, lp, mi, ix, gq, L) Q) (hn : Q.length < 3900) (gw : Nat → Int32) (k_nw : f nw = some (.inl (cI G, 6, .inl gw))) (hwq : nw ≠ nq) : CT l yX1_begin (.code yX1_begin cX1_begin 1 (some .int)) 3 57 2 11 G [.ref en] f (fun v f1 => v = some (.int (li + 1)) ∧ XP G f f1 en nw na nq nr Q (openS gw (st, li, sr, tm, lp, mi, ix, gq, L))) (fun E f1 => False) := by
  refine hp_start hl (own := RX1) (by decide) rfl (Nat.le_of_ble_eq_true rfl) ?_
  intro p e s m args below meth c B0 hr hnm hout hw hS ls hl9
  have hx := B0.1
  have hb := B0.2.1
  have hl9 : lv_has ls 1 [(0, .ref en)] := hl9
  have ke1 : f en = some (.inr (1, [.ref nw, .ref na, .ref nq, .ref nr, .int (num ix), .int st, .int tm, .int sr, .int li, .int lp, .int mi])) := (hE).1
  have kq2 : f nq = some (.inl (cI G, 6, .inl gq)) := (hE).2.1
  obtain ⟨hd4, kr3, hc5⟩ := (hE).2.2.1
  refine lv_aload_n hx hb dX1_begin_0 rfl (lv_at hl9 0 rfl) ?_
  refine hp_get B0 hw 1 rfl in_X1 ke1 0 (by decide) qF_X1_9 rfl dX1_begin_1 ?_
  refine lv_iconst (v := 0) hx hb dX1_begin_4 (by decide) ?_
  refine lv_aload_n hx hb dX1_begin_5 rfl (lv_at hl9 0 rfl) ?_
  refine hp_get B0 hw 1 rfl in_X1 ke1 2 (by decide) qF_X1_18 rfl dX1_begin_6 ?_
  refine lv_iconst (v := 0) hx hb dX1_begin_9 (by decide) ?_
  refine lv_bipush (v := 6) hx hb dX1_begin_10 (by decide) ?_
  refine hp_copyI (rest := []) B0 hw hS hl9.1 qM_X1_57 qV_arraycopy qs_arraycopy qN_java_lang_System k_nw kq2 (by decide) (by decide) (by decide) (by decide) (by decide) ⟨Nat.le_of_ble_eq_true rfl, Nat.le_of_ble_eq_true rfl⟩ dX1_begin_12 (fun H locs f6 ef6 hw hS => ?_)
  rw [show va_cpy gw gq (0 : Int32).toNatClampNeg (0 : Int32).toNatClampNeg (6 : Int32).toNatClampNeg = cpyF gw gq from cpy_eq] at ef6
  have h7 : f6 nq = some (.inl (cI G, 6, .inl (cpyF gw gq))) := by rw [ef6, va_up_self]
  refine lv_aload_n hx hb dX1_begin_15 rfl (lv_at hl9 0 rfl) ?_
  refine lv_iconst (v := 0) hx hb dX1_begin_16 (by decide) ?_
  have n9 : en ≠ nq := hne ke1 kq2 (Nat.ne_of_beq_eq_false rfl)
  have h8 : f6 en = some (.inr (1, [.ref nw, .ref na, .ref nq, .ref nr, .int (num ix), .int st, .int tm, .int sr, .int li, .int lp, .int mi])) := by rw [ef6, va_up_ne _ _ n9]; exact ke1
  refine hp_put (fs1 := [.ref nw, .ref na, .ref nq, .ref nr, .int (num ix), .int st, .int tm, .int 0, .int li, .int lp, .int mi]) (ty := .int) B0 hw hS 1 rfl in_X1 tyX1 tyX1_ok nmX1 h8 7 (by decide) qF_X1_35 rfl (by decide +kernel) rfl rfl (Nat.le_of_ble_eq_true rfl) rfl dX1_begin_17 (fun H locs f10 ef10 hw hS => ?_)
  have h11 : f10 en = some (.inr (1, [.ref nw, .ref na, .ref nq, .ref nr, .int (num ix), .int st, .int tm, .int 0, .int li, .int lp, .int mi])) := by rw [ef10, va_up_self]
  refine lv_aload_n hx hb dX1_begin_20 rfl (lv_at hl9 0 rfl) ?_
  refine lv_iconst (v := 1) hx hb dX1_begin_21 (by decide) ?_
  refine hp_put (fs1 := [.ref nw, .ref na, .ref nq, .ref nr, .int (num ix), .int 1, .int tm, .int 0, .int li, .int lp, .int mi]) (ty := .int) B0 hw hS 1 rfl in_X1 tyX1 tyX1_ok nmX1 h11 5 (by decide) qF_X1_28 rfl (by decide +kernel) rfl rfl (Nat.le_of_ble_eq_true rfl) rfl dX1_begin_22 (fun H locs f12 ef12 hw hS => ?_)
  have e13 : f12 = va_up f6 en (some (.inr (1, [.ref nw, .ref na, .ref nq, .ref nr, .int (num ix), .int 1, .int tm, .int 0, .int li, .int lp, .int mi]))) := by rw [ef12, ef10, bx_uu]
  have h14 : f12 en = some (.inr (1, [.ref nw, .ref na, .ref nq, .ref nr, .int (num ix), .int 1, .int tm, .int 0, .int li, .int lp, .int mi])) := by rw [ef12, va_up_self]
  refine lv_aload_n hx hb dX1_begin_25 rfl (lv_at hl9 0 rfl) ?_
  have h15 : f12 nq = some (.inl (cI G, 6, .inl (cpyF gw gq))) := by rw [e13, va_up_ne _ _ (Ne.symm n9)]; exact h7
  have n17 : nr ≠ nq := hne kr3 kq2 (Nat.ne_of_beq_eq_false rfl)
  have h16 : f6 nr = some (.inr (3, [hd4, (lastV Q), .int (nI (Q).length)])) := by rw [ef6, va_up_ne _ _ n17]; exact kr3
  have n19 : nr ≠ en := hne kr3 ke1 (Nat.ne_of_beq_eq_false rfl)
  have h18 : f12 nr = some (.inr (3, [hd4, (lastV Q), .int (nI (Q).length)])) := by rw [e13, va_up_ne _ _ n19]; exact h16
  refine hp_V (ci := 1) (As := []) (rest := []) B0 hw hS (c_X1_askX hl G f12 en nw na nq nr 1 li 0 tm lp mi ix (cpyF gw gq) L Q (show EX G f12 en nw na nq nr (1, li, 0, tm, lp, mi, ix, (cpyF gw gq), L) Q from ⟨h14, h15, ⟨_, h18, (CH.kp ((show hK2 [en, nq, nr] [] f f6 from (by rw [ef6]; exact hK2.up (List.mem_cons_of_mem _ List.mem_cons_self))).tr (show hK2 [en, nq, nr] [] f6 f12 from (by rw [e13]; exact hK2.up List.mem_cons_self))) hc5 (EX.cu (hE)) (EX.sf (hE)))⟩, (hE).2.2.2.1, (hE).2.2.2.2.1, (hE).2.2.2.2.2⟩) (Nat.lt_trans hn (by decide))) mV_X1_ask qM_X1_63 rfl h14 rfl rfl hl9.1 (Nat.le_of_ble_eq_true rfl) ⟨⟨Nat.le_of_ble_eq_true rfl, Nat.le_of_ble_eq_true rfl⟩, Nat.le_of_ble_eq_true rfl, Nat.le_of_ble_eq_true rfl⟩ dX1_begin_26 (fun E ce q9 f20 H locs hPX hw hS hce hcv hcl => ?_) (fun v f20 H locs hP hw hS => ?_)
  · exact hPX.elim
  · rcases hP with ⟨c21, ev9, w22, u23, hw24, hu25, hE26, k27⟩ | ⟨c21, ev9, hE26, k27⟩
    · subst ev9
      have hN28 : ∀ c9 ∈ [(w22, u23)], f12 c9.1 = none ∧ f12 c9.2 = none := fun c9 hc9 => by rw [List.mem_singleton.mp hc9]; exact ⟨hw24, hu25⟩
      have ke29 : f20 en = some (.inr (1, [.ref nw, .ref na, .ref nq, .ref nr, .int (num ix), .int 1, .int 3, .int (0 + 1), .int (li + 1), .int lp, .int mi])) := (hE26).1
      have kq30 : f20 nq = some (.inl (cI G, 6, .inl (cpyF gw gq))) := (hE26).2.1
      obtain ⟨hd32, kr31, hc33⟩ := (hE26).2.2.1
      refine W.eq (g2 := F0 m 29 ls [.int 1]) rfl ?_
      refine lv_pop hx hb dX1_begin_29 rfl ?_
      refine lv_aload_n hx hb dX1_begin_30 rfl (lv_at hl9 0 rfl) ?_
      refine hp_get B0 hw 1 rfl in_X1 ke29 8 (by decide) qF_X1_38 rfl dX1_begin_31 ?_
      exact hp_iret (v := (li + 1)) B0 hw hS hr ⟨Nat.le_of_ble_eq_true rfl, Nat.le_of_ble_eq_true rfl⟩ dX1_begin_34 (⟨rfl, ⟨_, (fun c9 h9 => ⟨((show hK2 [nq, en] [] f f6 from (by rw [ef6]; exact hK2.up List.mem_cons_self)).tr (show hK2 [nq, en] [] f6 f12 from (by rw [e13]; exact hK2.up (List.mem_cons_of_mem _ List.mem_cons_self)))).1 _ (hN28 c9 h9).1, ((show hK2 [nq, en] [] f f6 from (by rw [ef6]; exact hK2.up List.mem_cons_self)).tr (show hK2 [nq, en] [] f6 f12 from (by rw [e13]; exact hK2.up (List.mem_cons_of_mem _ List.mem_cons_self)))).1 _ (hN28 c9 h9).2⟩), (by rw [show openS gw (st, li, sr, tm, lp, mi, ix, gq, L) = (1, (li + 1), (0 + 1), 3, lp, mi, ix, (cpyF gw gq), (L ++ [(0, li + 1, ix, (cpyF gw gq))])) from if_pos c21]; exact (show EX G f20 en nw na nq nr (1, (li + 1), (0 + 1), 3, lp, mi, ix, (cpyF gw gq), (L ++ [(0, li + 1, ix, (cpyF gw gq))])) (Q ++ [(w22, u23)]) from ⟨ke29, kq30, ⟨_, kr31, hc33⟩, (hE26).2.2.2.1, (hE26).2.2.2.2.1, (hE).2.2.2.2.2⟩)), ((show hK2 [en, nq, nr] Q f f6 from (by rw [ef6]; exact hK2.up (List.mem_cons_of_mem _ List.mem_cons_self))).tr ((show hK2 [en, nq, nr] Q f6 f12 from (by rw [e13]; exact hK2.up List.mem_cons_self)).tr (show hK2 [en, nq, nr] Q f12 f20 from (k27.mono (sub_cons List.mem_cons_self (sub_cons (List.mem_cons_of_mem _ (List.mem_cons_of_mem _ List.mem_cons_self)) sub_nil))))))⟩⟩)
    · exact absurd (by decide) c21

set_option maxHeartbeats 4000000 in
set_option maxRecDepth 100000 in
theorem c_X1_tickX {l : Launch} (hl : l.stackTraces = false) (G : hG) (f : hM) (en nw na nq nr : Nat) (st li sr tm lp mi ix : Int32) (gq : Nat → Int32) (L : List Fr) (Q : List (Nat × Nat)) (hE : EX G f en nw na nq nr (st, li, sr, tm, lp, mi, ix, gq, L) Q) (hn : Q.length < 3900) : CT l yX1_tick (.code yX1_tick cX1_tick 1 (some .boolean)) 3 57 2 11 G [.ref en] f (fun v f1 => v = some (.int (tickV (st, li, sr, tm, lp, mi, ix, gq, L))) ∧ XP G f f1 en nw na nq nr Q (tickS (st, li, sr, tm, lp, mi, ix, gq, L))) (fun E f1 => False) := by
  refine hp_start hl (own := RX1) (by decide) rfl (Nat.le_of_ble_eq_true rfl) ?_
  intro p e s m args below meth c B0 hr hnm hout hw hS ls hl9
  have hx := B0.1
  have hb := B0.2.1
  have hl9 : lv_has ls 1 [(0, .ref en)] := hl9
  have ke1 : f en = some (.inr (1, [.ref nw, .ref na, .ref nq, .ref nr, .int (num ix), .int st, .int tm, .int sr, .int li, .int lp, .int mi])) := (hE).1
  have kq2 : f nq = some (.inl (cI G, 6, .inl gq)) := (hE).2.1
  obtain ⟨hd4, kr3, hc5⟩ := (hE).2.2.1
  refine lv_aload_n hx hb dX1_tick_0 rfl (lv_at hl9 0 rfl) ?_
  refine hp_get B0 hw 1 rfl in_X1 ke1 5 (by decide) qF_X1_28 rfl dX1_tick_1 ?_
  refine lv_if_eq (tgt := 15) hx hb dX1_tick_4 (by decide) (fun c6 => ?_) (fun c6 => ?_)
  · refine lv_iconst (v := 0) hx hb dX1_tick_15 (by decide) ?_
    exact hp_zret (v := 0) B0 hw hS hr ⟨Nat.le_of_ble_eq_true rfl, Nat.le_of_ble_eq_true rfl⟩ (rfl) dX1_tick_16 (⟨(by rw [(show tickV (st, li, sr, tm, lp, mi, ix, gq, L) = 0 from if_pos (Or.inl c6))]), (XP.zero (by rw [show tickS (st, li, sr, tm, lp, mi, ix, gq, L) = (st, li, sr, tm, lp, mi, ix, gq, L) from if_pos (Or.inl c6)]; exact (show EX G f en nw na nq nr (st, li, sr, tm, lp, mi, ix, gq, L) Q from ⟨ke1, kq2, ⟨_, kr3, hc5⟩, (hE).2.2.2.1, (hE).2.2.2.2.1, (hE).2.2.2.2.2⟩)) hK2.rf)⟩)
  · refine lv_aload_n hx hb dX1_tick_7 rfl (lv_at hl9 0 rfl) ?_
    refine hp_get B0 hw 1 rfl in_X1 ke1 5 (by decide) qF_X1_28 rfl dX1_tick_8 ?_
    refine lv_iconst (v := 4) hx hb dX1_tick_11 (by decide) ?_
    refine lv_icmp_ne (tgt := 17) hx hb dX1_tick_12 (by decide) (fun c7 => ?_) (fun c7 => ?_)
    · refine lv_aload_n hx hb dX1_tick_17 rfl (lv_at hl9 0 rfl) ?_
      refine lv_dup hx hb dX1_tick_18 rfl ?_
      refine hp_get B0 hw 1 rfl in_X1 ke1 6 (by decide) qF_X1_32 rfl dX1_tick_19 ?_
      refine lv_iconst (v := 1) hx hb dX1_tick_22 (by decide) ?_
      refine lv_isub hx hb dX1_tick_23 ?_
      refine hp_put (fs1 := [.ref nw, .ref na, .ref nq, .ref nr, .int (num ix), .int st, .int (tm - 1), .int sr, .int li, .int lp, .int mi]) (ty := .int) B0 hw hS 1 rfl in_X1 tyX1 tyX1_ok nmX1 ke1 6 (by decide) qF_X1_32 rfl (by decide +kernel) rfl rfl (Nat.le_of_ble_eq_true rfl) rfl dX1_tick_24 (fun H locs f8 ef8 hw hS => ?_)
      have h9 : f8 en = some (.inr (1, [.ref nw, .ref na, .ref nq, .ref nr, .int (num ix), .int st, .int (tm - 1), .int sr, .int li, .int lp, .int mi])) := by rw [ef8, va_up_self]
      refine lv_aload_n hx hb dX1_tick_27 rfl (lv_at hl9 0 rfl) ?_
      refine hp_get B0 hw 1 rfl in_X1 h9 6 (by decide) qF_X1_32 rfl dX1_tick_28 ?_
      refine lv_if_le (tgt := 36) hx hb dX1_tick_31 (by decide) (fun c10 => ?_) (fun c10 => ?_)
      · refine lv_aload_n hx hb dX1_tick_36 rfl (lv_at hl9 0 rfl) ?_
        refine hp_get B0 hw 1 rfl in_X1 h9 5 (by decide) qF_X1_28 rfl dX1_tick_37 ?_
        refine lv_iconst (v := 2) hx hb dX1_tick_40 (by decide) ?_
        refine lv_icmp_ne (tgt := 49) hx hb dX1_tick_41 (by decide) (fun c11 => ?_) (fun c11 => ?_)
        · refine lv_aload_n hx hb dX1_tick_49 rfl (lv_at hl9 0 rfl) ?_
          have n13 : nq ≠ en := hne kq2 ke1 (Nat.ne_of_beq_eq_false rfl)
          have h12 : f8 nq = some (.inl (cI G, 6, .inl gq)) := by rw [ef8, va_up_ne _ _ n13]; exact kq2
          have n15 : nr ≠ en := hne kr3 ke1 (Nat.ne_of_beq_eq_false rfl)
          have h14 : f8 nr = some (.inr (3, [hd4, (lastV Q), .int (nI (Q).length)])) := by rw [ef8, va_up_ne _ _ n15]; exact kr3
          refine hp_V (ci := 1) (As := []) (rest := []) B0 hw hS (c_X1_askX hl G f8 en nw na nq nr st li sr (tm - 1) lp mi ix gq L Q (show EX G f8 en nw na nq nr (st, li, sr, (tm - 1), lp, mi, ix, gq, L) Q from ⟨h9, h12, ⟨_, h14, (CH.kp (show hK2 [en, nq, nr] [] f f8 from (by rw [ef8]; exact hK2.up List.mem_cons_self)) hc5 (EX.cu (hE)) (EX.sf (hE)))⟩, (hE).2.2.2.1, (hE).2.2.2.2.1, (hE).2.2.2.2.2⟩) (Nat.lt_trans hn (by decide))) mV_X1_ask qM_X1_63 rfl h9 rfl rfl hl9.1 (Nat.le_of_ble_eq_true rfl) ⟨⟨Nat.le_of_ble_eq_true rfl, Nat.le_of_ble_eq_true rfl⟩, Nat.le_of_ble_eq_true rfl, Nat.le_of_ble_eq_true rfl⟩ dX1_tick_50 (fun E ce q9 f16 H locs hPX hw hS hce hcv hcl => ?_) (fun v f16 H locs hP hw hS => ?_)
          · exact hPX.elim
          · rcases hP with ⟨c17, ev9, w18, u19, hw20, hu21, hE22, k23⟩ | ⟨c17, ev9, hE22, k23⟩
            · subst ev9
              have hN24 : ∀ c9 ∈ [(w18, u19)], f8 c9.1 = none ∧ f8 c9.2 = none := fun c9 hc9 => by rw [List.mem_singleton.mp hc9]; exact ⟨hw20, hu21⟩
              have ke25 : f16 en = some (.inr (1, [.ref nw, .ref na, .ref nq, .ref nr, .int (num ix), .int st, .int 3, .int (sr + 1), .int (li + 1), .int lp, .int mi])) := (hE22).1
              have kq26 : f16 nq = some (.inl (cI G, 6, .inl gq)) := (hE22).2.1
              obtain ⟨hd28, kr27, hc29⟩ := (hE22).2.2.1
              refine W.eq (g2 := F0 m 53 ls [.int 1]) rfl ?_
              exact hp_zret (v := 1) B0 hw hS hr ⟨Nat.le_of_ble_eq_true rfl, Nat.le_of_ble_eq_true rfl⟩ (rfl) dX1_tick_53 (⟨(by rw [(show tickV (st, li, sr, tm, lp, mi, ix, gq, L) = 1 from ((if_neg (fun h9 => h9.elim c6 c7)).trans (if_pos c10)).trans (if_pos c17))]), ⟨_, (fun c9 h9 => ⟨(show hK2 [en] [] f f8 from (by rw [ef8]; exact hK2.up List.mem_cons_self)).1 _ (hN24 c9 h9).1, (show hK2 [en] [] f f8 from (by rw [ef8]; exact hK2.up List.mem_cons_self)).1 _ (hN24 c9 h9).2⟩), (by rw [show tickS (st, li, sr, tm, lp, mi, ix, gq, L) = (st, (li + 1), (sr + 1), 3, lp, mi, ix, gq, (L ++ [(0, li + 1, ix, gq)])) from ((if_neg (fun h9 => h9.elim c6 c7)).trans (if_pos c10)).trans (by rw [if_neg c11]; exact if_pos c17)]; exact (show EX G f16 en nw na nq nr (st, (li + 1), (sr + 1), 3, lp, mi, ix, gq, (L ++ [(0, li + 1, ix, gq)])) (Q ++ [(w18, u19)]) from ⟨ke25, kq26, ⟨_, kr27, hc29⟩, (hE22).2.2.2.1, (hE22).2.2.2.2.1, (hE).2.2.2.2.2⟩)), ((show hK2 [en, nq, nr] Q f f8 from (by rw [ef8]; exact hK2.up List.mem_cons_self)).tr (show hK2 [en, nq, nr] Q f8 f16 from (k23.mono (sub_cons List.mem_cons_self (sub_cons (List.mem_cons_of_mem _ (List.mem_cons_of_mem _ List.mem_cons_self)) sub_nil)))))⟩⟩)
            · subst ev9
              have ke30 : f16 en = some (.inr (1, [.ref nw, .ref na, .ref nq, .ref nr, .int (num ix), .int 0, .int (tm - 1), .int sr, .int li, .int lp, .int mi])) := (hE22).1
              have kq31 : f16 nq = some (.inl (cI G, 6, .inl gq)) := (hE22).2.1
              obtain ⟨hd33, kr32, hc34⟩ := (hE22).2.2.1
              refine W.eq (g2 := F0 m 53 ls [.int 0]) rfl ?_
              exact hp_zret (v := 0) B0 hw hS hr ⟨Nat.le_of_ble_eq_true rfl, Nat.le_of_ble_eq_true rfl⟩ (rfl) dX1_tick_53 (⟨(by rw [(show tickV (st, li, sr, tm, lp, mi, ix, gq, L) = 0 from ((if_neg (fun h9 => h9.elim c6 c7)).trans (if_pos c10)).trans (if_neg c17))]), (XP.zero (by rw [show tickS (st, li, sr, tm, lp, mi, ix, gq, L) = (0, li, sr, (tm - 1), lp, mi, ix, gq, L) from ((if_neg (fun h9 => h9.elim c6 c7)).trans (if_pos c10)).trans (by rw [if_neg c11]; exact if_neg c17)]; exact (show EX G f16 en nw na nq nr (0, li, sr, (tm - 1), lp, mi, ix, gq, L) Q from ⟨ke30, kq31, ⟨_, kr32, hc34⟩, (hE22).2.2.2.1, (hE22).2.2.2.2.1, (hE).2.2.2.2.2⟩)) ((show hK2 [en, nq, nr] Q f f8 from (by rw [ef8]; exact hK2.up List.mem_cons_self)).tr (show hK2 [en, nq, nr] Q f8 f16 from (k23.mono (sub_cons List.mem_cons_self (sub_cons (List.mem_cons_of_mem _ (List.mem_cons_of_mem _ List.mem_cons_self)) sub_nil))))))⟩)
        · refine lv_aload_n hx hb dX1_tick_44 rfl (lv_at hl9 0 rfl) ?_
          refine lv_iconst (v := 1) hx hb dX1_tick_45 (by decide) ?_
          refine hp_put (fs1 := [.ref nw, .ref na, .ref nq, .ref nr, .int (num ix), .int 1, .int (tm - 1), .int sr, .int li, .int lp, .int mi]) (ty := .int) B0 hw hS 1 rfl in_X1 tyX1 tyX1_ok nmX1 h9 5 (by decide) qF_X1_28 rfl (by decide +kernel) rfl rfl (Nat.le_of_ble_eq_true rfl) rfl dX1_tick_46 (fun H locs f35 ef35 hw hS => ?_)
          have e36 : f35 = va_up f en (some (.inr (1, [.ref nw, .ref na, .ref nq, .ref nr, .int (num ix), .int 1, .int (tm - 1), .int sr, .int li, .int lp, .int mi]))) := by rw [ef35, ef8, bx_uu]
          have h37 : f35 en = some (.inr (1, [.ref nw, .ref na, .ref nq, .ref nr, .int (num ix), .int 1, .int (tm - 1), .int sr, .int li, .int lp, .int mi])) := by rw [ef35, va_up_self]
          refine lv_aload_n hx hb dX1_tick_49 rfl (lv_at hl9 0 rfl) ?_
          have n39 : nq ≠ en := hne kq2 ke1 (Nat.ne_of_beq_eq_false rfl)
          have h38 : f35 nq = some (.inl (cI G, 6, .inl gq)) := by rw [e36, va_up_ne _ _ n39]; exact kq2
          have n41 : nr ≠ en := hne kr3 ke1 (Nat.ne_of_beq_eq_false rfl)
          have h40 : f35 nr = some (.inr (3, [hd4, (lastV Q), .int (nI (Q).length)])) := by rw [e36, va_up_ne _ _ n41]; exact kr3
          refine hp_V (ci := 1) (As := []) (rest := []) B0 hw hS (c_X1_askX hl G f35 en nw na nq nr 1 li sr (tm - 1) lp mi ix gq L Q (show EX G f35 en nw na nq nr (1, li, sr, (tm - 1), lp, mi, ix, gq, L) Q from ⟨h37, h38, ⟨_, h40, (CH.kp (show hK2 [en, nq, nr] [] f f35 from (by rw [e36]; exact hK2.up List.mem_cons_self)) hc5 (EX.cu (hE)) (EX.sf (hE)))⟩, (hE).2.2.2.1, (hE).2.2.2.2.1, (hE).2.2.2.2.2⟩) (Nat.lt_trans hn (by decide))) mV_X1_ask qM_X1_63 rfl h37 rfl rfl hl9.1 (Nat.le_of_ble_eq_true rfl) ⟨⟨Nat.le_of_ble_eq_true rfl, Nat.le_of_ble_eq_true rfl⟩, Nat.le_of_ble_eq_true rfl, Nat.le_of_ble_eq_true rfl⟩ dX1_tick_50 (fun E ce q9 f42 H locs hPX hw hS hce hcv hcl => ?_) (fun v f42 H locs hP hw hS => ?_)
          · exact hPX.elim
          · rcases hP with ⟨c43, ev9, w44, u45, hw46, hu47, hE48, k49⟩ | ⟨c43, ev9, hE48, k49⟩
            · subst ev9
              have hN50 : ∀ c9 ∈ [(w44, u45)], f35 c9.1 = none ∧ f35 c9.2 = none := fun c9 hc9 => by rw [List.mem_singleton.mp hc9]; exact ⟨hw46, hu47⟩
              have ke51 : f42 en = some (.inr (1, [.ref nw, .ref na, .ref nq, .ref nr, .int (num ix), .int 1, .int 3, .int (sr + 1), .int (li + 1), .int lp, .int mi])) := (hE48).1
              have kq52 : f42 nq = some (.inl (cI G, 6, .inl gq)) := (hE48).2.1
              obtain ⟨hd54, kr53, hc55⟩ := (hE48).2.2.1
              refine W.eq (g2 := F0 m 53 ls [.int 1]) rfl ?_
              exact hp_zret (v := 1) B0 hw hS hr ⟨Nat.le_of_ble_eq_true rfl, Nat.le_of_ble_eq_true rfl⟩ (rfl) dX1_tick_53 (⟨(by rw [(show tickV (st, li, sr, tm, lp, mi, ix, gq, L) = 1 from ((if_neg (fun h9 => h9.elim c6 c7)).trans (if_pos c10)).trans (if_pos c43))]), ⟨_, (fun c9 h9 => ⟨(show hK2 [en] [] f f35 from (by rw [e36]; exact hK2.up List.mem_cons_self)).1 _ (hN50 c9 h9).1, (show hK2 [en] [] f f35 from (by rw [e36]; exact hK2.up List.mem_cons_self)).1 _ (hN50 c9 h9).2⟩), (by rw [show tickS (st, li, sr, tm, lp, mi, ix, gq, L) = (1, (li + 1), (sr + 1), 3, lp, mi, ix, gq, (L ++ [(0, li + 1, ix, gq)])) from ((if_neg (fun h9 => h9.elim c6 c7)).trans (if_pos c10)).trans (by rw [if_pos c11]; exact if_pos c43)]; exact (show EX G f42 en nw na nq nr (1, (li + 1), (sr + 1), 3, lp, mi, ix, gq, (L ++ [(0, li + 1, ix, gq)])) (Q ++ [(w44, u45)]) from ⟨ke51, kq52, ⟨_, kr53, hc55⟩, (hE48).2.2.2.1, (hE48).2.2.2.2.1, (hE).2.2.2.2.2⟩)), ((show hK2 [en, nq, nr] Q f f35 from (by rw [e36]; exact hK2.up List.mem_cons_self)).tr (show hK2 [en, nq, nr] Q f35 f42 from (k49.mono (sub_cons List.mem_cons_self (sub_cons (List.mem_cons_of_mem _ (List.mem_cons_of_mem _ List.mem_cons_self)) sub_nil)))))⟩⟩)
            · subst ev9
              have ke56 : f42 en = some (.inr (1, [.ref nw, .ref na, .ref nq, .ref nr, .int (num ix), .int 0, .int (tm - 1), .int sr, .int li, .int lp, .int mi])) := (hE48).1
              have kq57 : f42 nq = some (.inl (cI G, 6, .inl gq)) := (hE48).2.1
              obtain ⟨hd59, kr58, hc60⟩ := (hE48).2.2.1
              refine W.eq (g2 := F0 m 53 ls [.int 0]) rfl ?_
              exact hp_zret (v := 0) B0 hw hS hr ⟨Nat.le_of_ble_eq_true rfl, Nat.le_of_ble_eq_true rfl⟩ (rfl) dX1_tick_53 (⟨(by rw [(show tickV (st, li, sr, tm, lp, mi, ix, gq, L) = 0 from ((if_neg (fun h9 => h9.elim c6 c7)).trans (if_pos c10)).trans (if_neg c43))]), (XP.zero (by rw [show tickS (st, li, sr, tm, lp, mi, ix, gq, L) = (0, li, sr, (tm - 1), lp, mi, ix, gq, L) from ((if_neg (fun h9 => h9.elim c6 c7)).trans (if_pos c10)).trans (by rw [if_pos c11]; exact if_neg c43)]; exact (show EX G f42 en nw na nq nr (0, li, sr, (tm - 1), lp, mi, ix, gq, L) Q from ⟨ke56, kq57, ⟨_, kr58, hc60⟩, (hE48).2.2.2.1, (hE48).2.2.2.2.1, (hE).2.2.2.2.2⟩)) ((show hK2 [en, nq, nr] Q f f35 from (by rw [e36]; exact hK2.up List.mem_cons_self)).tr (show hK2 [en, nq, nr] Q f35 f42 from (k49.mono (sub_cons List.mem_cons_self (sub_cons (List.mem_cons_of_mem _ (List.mem_cons_of_mem _ List.mem_cons_self)) sub_nil))))))⟩)
      · refine lv_iconst (v := 0) hx hb dX1_tick_34 (by decide) ?_
        have n62 : nq ≠ en := hne kq2 ke1 (Nat.ne_of_beq_eq_false rfl)
        have h61 : f8 nq = some (.inl (cI G, 6, .inl gq)) := by rw [ef8, va_up_ne _ _ n62]; exact kq2
        have n64 : nr ≠ en := hne kr3 ke1 (Nat.ne_of_beq_eq_false rfl)
        have h63 : f8 nr = some (.inr (3, [hd4, (lastV Q), .int (nI (Q).length)])) := by rw [ef8, va_up_ne _ _ n64]; exact kr3
        exact hp_zret (v := 0) B0 hw hS hr ⟨Nat.le_of_ble_eq_true rfl, Nat.le_of_ble_eq_true rfl⟩ (rfl) dX1_tick_35 (⟨(by rw [(show tickV (st, li, sr, tm, lp, mi, ix, gq, L) = 0 from (if_neg (fun h9 => h9.elim c6 c7)).trans (if_neg c10))]), (XP.zero (by rw [show tickS (st, li, sr, tm, lp, mi, ix, gq, L) = (st, li, sr, (tm - 1), lp, mi, ix, gq, L) from (if_neg (fun h9 => h9.elim c6 c7)).trans (if_neg c10)]; exact (show EX G f8 en nw na nq nr (st, li, sr, (tm - 1), lp, mi, ix, gq, L) Q from ⟨h9, h61, ⟨_, h63, (CH.kp (show hK2 [en, nq, nr] [] f f8 from (by rw [ef8]; exact hK2.up List.mem_cons_self)) hc5 (EX.cu (hE)) (EX.sf (hE)))⟩, (hE).2.2.2.1, (hE).2.2.2.2.1, (hE).2.2.2.2.2⟩)) (show hK2 [en, nq, nr] Q f f8 from (by rw [ef8]; exact hK2.up List.mem_cons_self)))⟩)
    · refine lv_iconst (v := 0) hx hb dX1_tick_15 (by decide) ?_
      exact hp_zret (v := 0) B0 hw hS hr ⟨Nat.le_of_ble_eq_true rfl, Nat.le_of_ble_eq_true rfl⟩ (rfl) dX1_tick_16 (⟨(by rw [(show tickV (st, li, sr, tm, lp, mi, ix, gq, L) = 0 from if_pos (Or.inr c7))]), (XP.zero (by rw [show tickS (st, li, sr, tm, lp, mi, ix, gq, L) = (st, li, sr, tm, lp, mi, ix, gq, L) from if_pos (Or.inr c7)]; exact (show EX G f en nw na nq nr (st, li, sr, tm, lp, mi, ix, gq, L) Q from ⟨ke1, kq2, ⟨_, kr3, hc5⟩, (hE).2.2.2.1, (hE).2.2.2.2.1, (hE).2.2.2.2.2⟩)) hK2.rf)⟩)
end
section
theorem vin6j {j : Nat} (h : j < 6) : vp_in (nI j) 6 := vp_in_nI h (by decide)
theorem va_up_id {f : hM} {a : Nat} {e : Option va_E} (h : f a = e) : f = va_up f a e := by
  funext b
  by_cases z : b = a
  · rw [z, va_up_self, h]
  · rw [va_up_ne _ _ z]
theorem kFn_3 {ga v : Nat → Int32} {n j : Nat} {kd : Int32} (h : unk ga v j) : kFn ga v (n + 1) j kd = 3 := if_pos h
theorem kFn_2 {ga v : Nat → Int32} {n j : Nat} {kd : Int32} (h : ¬ unk ga v j) (h2 : rfs ga v j) : kFn ga v (n + 1) j kd = kFn ga v n (j + 1) 2 := by
  show (if unk ga v j then 3 else kFn ga v n (j + 1) (if rfs ga v j then 2 else kd)) = _
  rw [if_neg h, if_pos h2]
theorem kFn_1 {ga v : Nat → Int32} {n j : Nat} {kd : Int32} (h : ¬ unk ga v j) (h2 : ¬ rfs ga v j) : kFn ga v (n + 1) j kd = kFn ga v n (j + 1) kd := by
  show (if unk ga v j then 3 else kFn ga v n (j + 1) (if rfs ga v j then 2 else kd)) = _
  rw [if_neg h, if_neg h2]
theorem kFn_val (ga v : Nat → Int32) : ∀ (n j : Nat) (kd : Int32), (kd = 1 ∨ kd = 2) → kFn ga v n j kd = 1 ∨ kFn ga v n j kd = 2 ∨ kFn ga v n j kd = 3 := by
  intro n
  induction n with
  | zero => intro j kd h; exact h.elim Or.inl (fun h => Or.inr (Or.inl h))
  | succ n ih =>
    intro j kd h
    by_cases h3 : unk ga v j
    · exact Or.inr (Or.inr (kFn_3 h3))
    · by_cases h2 : rfs ga v j
      · rw [kFn_2 h3 h2]; exact ih _ _ (Or.inr rfl)
      · rw [kFn_1 h3 h2]; exact ih _ _ h
theorem kindF_val (ga v : Nat → Int32) : kindF ga v = 1 ∨ kindF ga v = 2 ∨ kindF ga v = 3 := kFn_val ga v 6 0 1 (Or.inl rfl)
theorem kindF_ne0 (ga v : Nat → Int32) : ¬ kindF ga v = 0 := by
  rcases kindF_val ga v with h | h | h <;> (rw [h]; decide)
theorem lowN_1 {g : Int32} {n j : Nat} (h : ((g >>> (nI j &&& 31)) &&& 1) = 1) : lowN g (n + 1) j = nI j := if_pos h
theorem lowN_0 {g : Int32} {n j : Nat} (h : ¬ ((g >>> (nI j &&& 31)) &&& 1) = 1) : lowN g (n + 1) j = lowN g n (j + 1) := if_neg h
theorem toldN_0 (ga v : Nat → Int32) (kd : Int32) : toldN ga v kd 0 = N6 := by
  funext i
  exact if_neg (Nat.not_lt_zero _)
theorem toldN_s {ga v : Nat → Int32} {kd x : Int32} {j k : Nat} (hk : k = j) (h : tlF ga v kd j = x) : upd (toldN ga v kd j) k x = toldN ga v kd (j + 1) := by
  subst hk
  funext i
  simp only [upd, toldN]
  by_cases e : i = k
  · rw [if_pos e, if_pos (by omega), e, h]
  · rw [if_neg e]
    by_cases l : i < k
    · rw [if_pos l, if_pos (by omega)]
    · rw [if_neg l, if_neg (by omega)]
theorem toldN_k {ga v : Nat → Int32} {kd : Int32} {j : Nat} (hj : j < 6) (h : tlF ga v kd j = -1) : toldN ga v kd j = toldN ga v kd (j + 1) := by
  funext i
  simp only [toldN]
  by_cases e : i = j
  · rw [if_neg (by omega), if_pos (by omega), e, h]
    exact if_pos hj
  · by_cases l : i < j
    · rw [if_pos l, if_pos (by omega)]
    · rw [if_neg l, if_neg (by omega)]
theorem chgN_0 (gq v : Nat → Int32) (kd : Int32) : chgN gq v kd 0 = gq := by
  funext i
  exact if_neg (fun h => Nat.not_lt_zero _ h.1)
theorem chgN_s {gq v : Nat → Int32} {kd x : Int32} {j k : Nat} (hk : k = j) (h : ¬ v j = -1) (hx : (if kd = 2 then v j else -1) = x) : upd (chgN gq v kd j) k x = chgN gq v kd (j + 1) := by
  subst hk
  funext i
  simp only [upd, chgN]
  by_cases e : i = k
  · rw [if_pos e, if_pos ⟨by omega, by rw [e]; exact h⟩, e, hx]
  · rw [if_neg e]
    by_cases l : i < k ∧ ¬ v i = -1
    · rw [if_pos l, if_pos ⟨by omega, l.2⟩]
    · rw [if_neg l, if_neg (fun h9 => l ⟨by omega, h9.2⟩)]
theorem chgN_k {gq v : Nat → Int32} {kd : Int32} {j : Nat} (h : v j = -1) : chgN gq v kd j = chgN gq v kd (j + 1) := by
  funext i
  simp only [chgN]
  by_cases l : i < j ∧ ¬ v i = -1
  · rw [if_pos l, if_pos ⟨by omega, l.2⟩]
  · rw [if_neg l, if_neg (fun h9 => l ⟨by
      have := h9.1
      by_cases e : i = j
      · exact absurd (by rw [e]; exact h) h9.2
      · omega, h9.2⟩)]
theorem i32_of {x : Int32} {k : Int} (y : Int32) (h : x.toInt = k) (hy : y.toInt = k) : x = y := Int32.toInt_inj.mp (h.trans hy.symm)
set_option maxHeartbeats 4000000 in
set_option maxRecDepth 100000 in
theorem c_X1_allowsX {l : Launch} (hl : l.stackTraces = false) (G : hG) (f : hM) (en nw na nq nr : Nat) (mg st tm sr li lp mi : Int32) (ga : Nat → Int32) (k_en : f en = some (.inr (1, [.ref nw, .ref na, .ref nq, .ref nr, .int mg, .int st, .int tm, .int sr, .int li, .int lp, .int mi]))) (k_na : f na = some (.inl (cI G, 6, .inl ga))) (j : Nat) (hj : j < 6) (x : Int32) : CT l yX1_allows (.code yX1_allows cX1_allows 3 (some .boolean)) 0 0 0 0 G [.ref en, .int (nI j), .int x] f (fun v f1 => f1 = f ∧ ((v = some (.int 1) ∧ ((ga j >>> (x &&& 31)) &&& 1) = 1) ∨ (v = some (.int 0) ∧ ¬ (((ga j >>> (x &&& 31)) &&& 1) = 1)))) (fun E f1 => False) := by
  refine hp_start hl (own := RX1) (by decide) rfl (Nat.le_of_ble_eq_true rfl) ?_
  intro p e s m args below meth c B0 hr hnm hout hw hS ls hl9
  have hx := B0.1
  have hb := B0.2.1
  have hl9 : lv_has ls 3 [(0, .ref en), (1, .int (nI j)), (2, .int x)] := hl9
  refine lv_aload_n hx hb dX1_allows_0 rfl (lv_at hl9 0 rfl) ?_
  refine hp_get B0 hw 1 rfl in_X1 k_en 1 (by decide) qF_X1_15 rfl dX1_allows_1 ?_
  refine lv_iload_n hx hb dX1_allows_4 rfl (lv_at hl9 1 rfl) ?_
  refine hp_iald B0 hw k_na (vin6j hj) dX1_allows_5 ?_
  refine hp_c (v := (ga j)) (congrArg ga (nI_clamp (by omega))) ?_
  refine lv_iload_n hx hb dX1_allows_6 rfl (lv_at hl9 2 rfl) ?_
  refine lv_ishr hx hb dX1_allows_7 ?_
  refine lv_iconst (v := 1) hx hb dX1_allows_8 (by decide) ?_
  refine lv_iand hx hb dX1_allows_9 ?_
  refine lv_iconst (v := 1) hx hb dX1_allows_10 (by decide) ?_
  refine lv_icmp_ne (tgt := 18) hx hb dX1_allows_11 (by decide) (fun c1 => ?_) (fun c1 => ?_)
  · refine lv_iconst (v := 0) hx hb dX1_allows_18 (by decide) ?_
    exact hp_zret (v := 0) B0 hw hS hr ⟨Nat.le_of_ble_eq_true rfl, Nat.le_of_ble_eq_true rfl⟩ (rfl) dX1_allows_19 (⟨rfl, Or.inr ⟨rfl, c1⟩⟩)
  · refine lv_iconst (v := 1) hx hb dX1_allows_14 (by decide) ?_
    refine lv_goto (tgt := 19) hx hb dX1_allows_15 (by decide) ?_
    exact hp_zret (v := 1) B0 hw hS hr ⟨Nat.le_of_ble_eq_true rfl, Nat.le_of_ble_eq_true rfl⟩ (rfl) dX1_allows_19 (⟨rfl, Or.inl ⟨rfl, c1⟩⟩)

set_option maxHeartbeats 4000000 in
set_option maxRecDepth 100000 in
theorem c_X1_unkX {l : Launch} (hl : l.stackTraces = false) (G : hG) (f : hM) (en nw na nq nr : Nat) (mg st tm sr li lp mi : Int32) (ga : Nat → Int32) (k_en : f en = some (.inr (1, [.ref nw, .ref na, .ref nq, .ref nr, .int mg, .int st, .int tm, .int sr, .int li, .int lp, .int mi]))) (k_na : f na = some (.inl (cI G, 6, .inl ga))) (j : Nat) (hj : j < 6) (x : Int32) : CT l yX1_isUnknown (.code yX1_isUnknown cX1_isUnknown 3 (some .boolean)) 0 0 0 0 G [.ref en, .int (nI j), .int x] f (fun v f1 => f1 = f ∧ ((v = some (.int 1) ∧ ¬ x = -1 ∧ ga j = 0) ∨ (v = some (.int 0) ∧ ¬ (¬ x = -1 ∧ ga j = 0)))) (fun E f1 => False) := by
  refine hp_start hl (own := RX1) (by decide) rfl (Nat.le_of_ble_eq_true rfl) ?_
  intro p e s m args below meth c B0 hr hnm hout hw hS ls hl9
  have hx := B0.1
  have hb := B0.2.1
  have hl9 : lv_has ls 3 [(0, .ref en), (1, .int (nI j)), (2, .int x)] := hl9
  refine lv_iload_n hx hb dX1_isUnknown_0 rfl (lv_at hl9 2 rfl) ?_
  refine lv_iconst (v := (-1)) hx hb dX1_isUnknown_1 (by decide) ?_
  refine lv_icmp_eq (tgt := 18) hx hb dX1_isUnknown_2 (by decide) (fun c1 => ?_) (fun c1 => ?_)
  · refine lv_iconst (v := 0) hx hb dX1_isUnknown_18 (by decide) ?_
    exact hp_zret (v := 0) B0 hw hS hr ⟨Nat.le_of_ble_eq_true rfl, Nat.le_of_ble_eq_true rfl⟩ (rfl) dX1_isUnknown_19 (⟨rfl, Or.inr ⟨rfl, fun h9 => h9.1 c1⟩⟩)
  · refine lv_aload_n hx hb dX1_isUnknown_5 rfl (lv_at hl9 0 rfl) ?_
    refine hp_get B0 hw 1 rfl in_X1 k_en 1 (by decide) qF_X1_15 rfl dX1_isUnknown_6 ?_
    refine lv_iload_n hx hb dX1_isUnknown_9 rfl (lv_at hl9 1 rfl) ?_
    refine hp_iald B0 hw k_na (vin6j hj) dX1_isUnknown_10 ?_
    refine hp_c (v := (ga j)) (congrArg ga (nI_clamp (by omega))) ?_
    refine lv_if_ne (tgt := 18) hx hb dX1_isUnknown_11 (by decide) (fun c2 => ?_) (fun c2 => ?_)
    · refine lv_iconst (v := 0) hx hb dX1_isUnknown_18 (by decide) ?_
      exact hp_zret (v := 0) B0 hw hS hr ⟨Nat.le_of_ble_eq_true rfl, Nat.le_of_ble_eq_true rfl⟩ (rfl) dX1_isUnknown_19 (⟨rfl, Or.inr ⟨rfl, fun h9 => c2 h9.2⟩⟩)
    · refine lv_iconst (v := 1) hx hb dX1_isUnknown_14 (by decide) ?_
      refine lv_goto (tgt := 19) hx hb dX1_isUnknown_15 (by decide) ?_
      exact hp_zret (v := 1) B0 hw hS hr ⟨Nat.le_of_ble_eq_true rfl, Nat.le_of_ble_eq_true rfl⟩ (rfl) dX1_isUnknown_19 (⟨rfl, Or.inl ⟨rfl, ⟨c1, c2⟩⟩⟩)

set_option maxHeartbeats 4000000 in
set_option maxRecDepth 100000 in
theorem c_X1_rfsX {l : Launch} (hl : l.stackTraces = false) (G : hG) (f : hM) (en nw na nq nr : Nat) (mg st tm sr li lp mi : Int32) (ga : Nat → Int32) (k_en : f en = some (.inr (1, [.ref nw, .ref na, .ref nq, .ref nr, .int mg, .int st, .int tm, .int sr, .int li, .int lp, .int mi]))) (k_na : f na = some (.inl (cI G, 6, .inl ga))) (j : Nat) (hj : j < 6) (x : Int32) : CT l yX1_isRefused (.code yX1_isRefused cX1_isRefused 3 (some .boolean)) 1 22 0 0 G [.ref en, .int (nI j), .int x] f (fun v f1 => f1 = f ∧ ((v = some (.int 1) ∧ ¬ x = -1 ∧ ¬ ((ga j >>> (x &&& 31)) &&& 1) = 1) ∨ (v = some (.int 0) ∧ ¬ (¬ x = -1 ∧ ¬ ((ga j >>> (x &&& 31)) &&& 1) = 1)))) (fun E f1 => False) := by
  refine hp_start hl (own := RX1) (by decide) rfl (Nat.le_of_ble_eq_true rfl) ?_
  intro p e s m args below meth c B0 hr hnm hout hw hS ls hl9
  have hx := B0.1
  have hb := B0.2.1
  have hl9 : lv_has ls 3 [(0, .ref en), (1, .int (nI j)), (2, .int x)] := hl9
  refine lv_iload_n hx hb dX1_isRefused_0 rfl (lv_at hl9 2 rfl) ?_
  refine lv_iconst (v := (-1)) hx hb dX1_isRefused_1 (by decide) ?_
  refine lv_icmp_eq (tgt := 18) hx hb dX1_isRefused_2 (by decide) (fun c1 => ?_) (fun c1 => ?_)
  · refine lv_iconst (v := 0) hx hb dX1_isRefused_18 (by decide) ?_
    exact hp_zret (v := 0) B0 hw hS hr ⟨Nat.le_of_ble_eq_true rfl, Nat.le_of_ble_eq_true rfl⟩ (rfl) dX1_isRefused_19 (⟨rfl, Or.inr ⟨rfl, fun h9 => h9.1 c1⟩⟩)
  · refine lv_aload_n hx hb dX1_isRefused_5 rfl (lv_at hl9 0 rfl) ?_
    refine lv_iload_n hx hb dX1_isRefused_6 rfl (lv_at hl9 1 rfl) ?_
    refine lv_iload_n hx hb dX1_isRefused_7 rfl (lv_at hl9 2 rfl) ?_
    refine hp_V (ci := 1) (As := [.int (nI j), .int x]) (rest := []) B0 hw hS (c_X1_allowsX hl G f en nw na nq nr mg st tm sr li lp mi ga k_en k_na j hj x) mV_X1_allows qM_X1_128 rfl k_en rfl rfl hl9.1 (Nat.le_of_ble_eq_true rfl) ⟨⟨Nat.le_of_ble_eq_true rfl, Nat.le_of_ble_eq_true rfl⟩, Nat.le_of_ble_eq_true rfl, Nat.le_of_ble_eq_true rfl⟩ dX1_isRefused_8 (fun E ce q9 f2 H locs hPX hw hS hce hcv hcl => ?_) (fun v f2 H locs hP hw hS => ?_)
    · exact hPX.elim
    · obtain ⟨ef9, hv9⟩ := hP
      rw [ef9] at hw
      rcases hv9 with ⟨ev9, c3⟩ | ⟨ev9, c3⟩
      · subst ev9
        refine W.eq (g2 := F0 m 11 ls [.int 1]) rfl ?_
        refine lv_if_ne (tgt := 18) hx hb dX1_isRefused_11 (by decide) (fun _ => ?_) (fun c9 => absurd c9 (by decide))
        refine lv_iconst (v := 0) hx hb dX1_isRefused_18 (by decide) ?_
        exact hp_zret (v := 0) B0 hw hS hr ⟨Nat.le_of_ble_eq_true rfl, Nat.le_of_ble_eq_true rfl⟩ (rfl) dX1_isRefused_19 (⟨rfl, Or.inr ⟨rfl, fun h9 => h9.2 c3⟩⟩)
      · subst ev9
        refine W.eq (g2 := F0 m 11 ls [.int 0]) rfl ?_
        refine lv_if_ne (tgt := 18) hx hb dX1_isRefused_11 (by decide) (fun c9 => absurd (by decide) c9) (fun _ => ?_)
        refine lv_iconst (v := 1) hx hb dX1_isRefused_14 (by decide) ?_
        refine lv_goto (tgt := 19) hx hb dX1_isRefused_15 (by decide) ?_
        exact hp_zret (v := 1) B0 hw hS hr ⟨Nat.le_of_ble_eq_true rfl, Nat.le_of_ble_eq_true rfl⟩ (rfl) dX1_isRefused_19 (⟨rfl, Or.inl ⟨rfl, ⟨c1, c3⟩⟩⟩)

set_option maxHeartbeats 4000000 in
set_option maxRecDepth 100000 in
theorem c_X1_lowX {l : Launch} (hl : l.stackTraces = false) (G : hG) (f : hM) (en nw na nq nr : Nat) (mg st tm sr li lp mi : Int32) (ga : Nat → Int32) (k_en : f en = some (.inr (1, [.ref nw, .ref na, .ref nq, .ref nr, .int mg, .int st, .int tm, .int sr, .int li, .int lp, .int mi]))) (k_na : f na = some (.inl (cI G, 6, .inl ga))) (j : Nat) (hj : j < 6) : CT l yX1_lowestAllowed (.code yX1_lowestAllowed cX1_lowestAllowed 3 (some .int)) 1 22 0 0 G [.ref en, .int (nI j)] f (fun v f1 => f1 = f ∧ v = some (.int (lowF (ga j)))) (fun E f1 => False) := by
  refine hp_start hl (own := RX1) (by decide) rfl (Nat.le_of_ble_eq_true rfl) ?_
  intro p e s m args below meth c B0 hr hnm hout hw hS ls hl9
  have hx := B0.1
  have hb := B0.2.1
  have hl9 : lv_has ls 3 [(0, .ref en), (1, .int (nI j))] := hl9
  refine lv_iconst (v := 0) hx hb dX1_lowestAllowed_0 (by decide) ?_
  refine lv_istore_n (lv' := [(2, .int 0), (0, .ref en), (1, .int (nI j))]) hx hb dX1_lowestAllowed_1 rfl hl9 (by decide) rfl (fun ls hl9 => ?_)
  refine hp_for (nL := 3) (pc := 2) (fun k f9 lv9 => f9 = f ∧  lowN (ga j) (10 - k) k = lowF (ga j) ∧ lv9 = [(2, .int (nI k)), (0, .ref en), (1, .int (nI j))]) 10 (fun k f9 lv9 H locs ls hk hI hw hS hl9 ih => ?_) (fun f9 lv9 H locs ls hI hw hS hl9 => ?_) 10 0 (by decide) f _ _ _ ls ⟨rfl, rfl, rfl⟩ hw hS (lv_sub hl9 [0, 1, 2] rfl)
  · obtain ⟨ef9, hv9, el9⟩ := hI
    rw [ef9] at hw
    rw [el9] at hl9
    refine lv_iload_n hx hb dX1_lowestAllowed_2 rfl (lv_at hl9 0 rfl) ?_
    refine lv_bipush (v := 9) hx hb dX1_lowestAllowed_3 (by decide) ?_
    refine lv_icmp_gt (tgt := 25) hx hb dX1_lowestAllowed_5 (by decide) (fun c9 => absurd c9 (by rw [show (9 : Int32) = nI 9 from rfl]; exact nI_nlt (by omega) (by omega))) (fun _ => ?_)
    refine lv_aload_n hx hb dX1_lowestAllowed_8 rfl (lv_at hl9 1 rfl) ?_
    refine lv_iload_n hx hb dX1_lowestAllowed_9 rfl (lv_at hl9 2 rfl) ?_
    refine lv_iload_n hx hb dX1_lowestAllowed_10 rfl (lv_at hl9 0 rfl) ?_
    refine hp_V (ci := 1) (As := [.int (nI j), .int (nI k)]) (rest := []) B0 hw hS (c_X1_allowsX hl G f en nw na nq nr mg st tm sr li lp mi ga k_en k_na j hj (nI k)) mV_X1_allows qM_X1_128 rfl k_en rfl rfl hl9.1 (Nat.le_of_ble_eq_true rfl) ⟨⟨Nat.le_of_ble_eq_true rfl, Nat.le_of_ble_eq_true rfl⟩, Nat.le_of_ble_eq_true rfl, Nat.le_of_ble_eq_true rfl⟩ dX1_lowestAllowed_11 (fun E ce q9 f1 H locs hPX hw hS hce hcv hcl => ?_) (fun v f1 H locs hP hw hS => ?_)
    · exact hPX.elim
    · obtain ⟨ef9, hv9⟩ := hP
      rw [ef9] at hw
      rcases hv9 with ⟨ev9, c2⟩ | ⟨ev9, c2⟩
      · subst ev9
        refine W.eq (g2 := F0 m 14 ls [.int 1]) rfl ?_
        refine lv_if_eq (tgt := 19) hx hb dX1_lowestAllowed_14 (by decide) (fun c9 => absurd c9 (by decide)) (fun _ => ?_)
        refine lv_iload_n hx hb dX1_lowestAllowed_17 rfl (lv_at hl9 0 rfl) ?_
        exact hp_iret (v := (nI k)) B0 hw hS hr ⟨Nat.le_of_ble_eq_true rfl, Nat.le_of_ble_eq_true rfl⟩ dX1_lowestAllowed_18 (⟨rfl, congrArg (fun z9 => some (Value.int z9)) (by rw [← hv9, show 10 - k = (10 - (k + 1)) + 1 by omega, lowN_1 c2])⟩)
      · subst ev9
        refine W.eq (g2 := F0 m 14 ls [.int 0]) rfl ?_
        refine lv_if_eq (tgt := 19) hx hb dX1_lowestAllowed_14 (by decide) (fun _ => ?_) (fun c9 => absurd (by decide) c9)
        refine lv_iinc (v := (nI (k + 1))) (lv' := [(2, .int (nI (k + 1))), (0, .ref en), (1, .int (nI j))]) hx hb dX1_lowestAllowed_19 hl9 (k := 0) rfl (nI_1 k) (by decide) rfl (fun ls hl9 => ?_)
        refine lv_goto (tgt := 2) hx hb dX1_lowestAllowed_22 (by decide) ?_
        exact ih _ _ H locs ls ⟨rfl, (by rw [← hv9, show 10 - k = (10 - (k + 1)) + 1 by omega, lowN_0 c2]), rfl⟩ hw hS (lv_sub hl9 [0, 1, 2] rfl)
  · obtain ⟨ef9, hv9, el9⟩ := hI
    rw [ef9] at hw
    rw [el9] at hl9
    refine lv_iload_n hx hb dX1_lowestAllowed_2 rfl (lv_at hl9 0 rfl) ?_
    refine lv_bipush (v := 9) hx hb dX1_lowestAllowed_3 (by decide) ?_
    refine lv_icmp_gt (tgt := 25) hx hb dX1_lowestAllowed_5 (by decide) (fun _ => ?_) (fun c9 => absurd (by decide) c9)
    refine lv_iconst (v := (-1)) hx hb dX1_lowestAllowed_25 (by decide) ?_
    exact hp_iret (v := (-1)) B0 hw hS hr ⟨Nat.le_of_ble_eq_true rfl, Nat.le_of_ble_eq_true rfl⟩ dX1_lowestAllowed_26 (⟨rfl, congrArg (fun z9 => some (Value.int z9)) hv9⟩)

set_option maxHeartbeats 4000000 in
set_option maxRecDepth 100000 in
theorem c_X1_kindX {l : Launch} (hl : l.stackTraces = false) (G : hG) (f : hM) (en nw na nq nr : Nat) (mg st tm sr li lp mi : Int32) (ga : Nat → Int32) (k_en : f en = some (.inr (1, [.ref nw, .ref na, .ref nq, .ref nr, .int mg, .int st, .int tm, .int sr, .int li, .int lp, .int mi]))) (k_na : f na = some (.inl (cI G, 6, .inl ga))) (nv : Nat) (gv : Nat → Int32) (k_nv : f nv = some (.inl (cI G, 6, .inl gv))) : CT l yX1_kindOfAnswer (.code yX1_kindOfAnswer cX1_kindOfAnswer 4 (some .int)) 2 44 0 0 G [.ref en, .ref nv] f (fun v f1 => f1 = f ∧ v = some (.int (kindF ga gv))) (fun E f1 => False) := by
  refine hp_start hl (own := RX1) (by decide) rfl (Nat.le_of_ble_eq_true rfl) ?_
  intro p e s m args below meth c B0 hr hnm hout hw hS ls hl9
  have hx := B0.1
  have hb := B0.2.1
  have hl9 : lv_has ls 4 [(0, .ref en), (1, .ref nv)] := hl9
  refine lv_iconst (v := 1) hx hb dX1_kindOfAnswer_0 (by decide) ?_
  refine lv_istore_n (lv' := [(2, .int 1), (0, .ref en), (1, .ref nv)]) hx hb dX1_kindOfAnswer_1 rfl hl9 (by decide) rfl (fun ls hl9 => ?_)
  refine lv_iconst (v := 0) hx hb dX1_kindOfAnswer_2 (by decide) ?_
  refine lv_istore_n (lv' := [(3, .int 0), (2, .int 1), (0, .ref en), (1, .ref nv)]) hx hb dX1_kindOfAnswer_3 rfl hl9 (by decide) rfl (fun ls hl9 => ?_)
  refine hp_for (nL := 4) (pc := 4) (fun j f9 lv9 => f9 = f ∧ ∃ k9 : Int32, kFn ga gv (6 - j) j k9 = kindF ga gv ∧ lv9 = [(3, .int (nI j)), (2, .int k9), (0, .ref en), (1, .ref nv)]) 6 (fun j f9 lv9 H locs ls hj hI hw hS hl9 ih => ?_) (fun f9 lv9 H locs ls hI hw hS hl9 => ?_) 6 0 (by decide) f _ _ _ ls ⟨rfl, _, rfl, rfl⟩ hw hS (lv_sub hl9 [0, 1, 2, 3] rfl)
  · obtain ⟨ef9, k9, hv9, el9⟩ := hI
    rw [ef9] at hw
    rw [el9] at hl9
    refine lv_iload_n hx hb dX1_kindOfAnswer_4 rfl (lv_at hl9 0 rfl) ?_
    refine lv_bipush (v := 6) hx hb dX1_kindOfAnswer_5 (by decide) ?_
    refine lv_icmp_ge (tgt := 42) hx hb dX1_kindOfAnswer_7 (by decide) (fun c9 => absurd c9 (by rw [show (6 : Int32) = nI 6 from rfl]; exact nI_ge hj (by omega))) (fun _ => ?_)
    refine lv_aload_n hx hb dX1_kindOfAnswer_10 rfl (lv_at hl9 2 rfl) ?_
    refine lv_iload_n hx hb dX1_kindOfAnswer_11 rfl (lv_at hl9 0 rfl) ?_
    refine lv_aload_n hx hb dX1_kindOfAnswer_12 rfl (lv_at hl9 3 rfl) ?_
    refine lv_iload_n hx hb dX1_kindOfAnswer_13 rfl (lv_at hl9 0 rfl) ?_
    refine hp_iald B0 hw k_nv (vin6j hj) dX1_kindOfAnswer_14 ?_
    refine hp_c (v := (gv j)) (congrArg gv (nI_clamp (by omega))) ?_
    refine hp_V (ci := 1) (As := [.int (nI j), .int (gv j)]) (rest := []) B0 hw hS (c_X1_unkX hl G f en nw na nq nr mg st tm sr li lp mi ga k_en k_na j hj (gv j)) mV_X1_isUnknown qM_X1_117 rfl k_en rfl rfl hl9.1 (Nat.le_of_ble_eq_true rfl) ⟨⟨Nat.le_of_ble_eq_true rfl, Nat.le_of_ble_eq_true rfl⟩, Nat.le_of_ble_eq_true rfl, Nat.le_of_ble_eq_true rfl⟩ dX1_kindOfAnswer_15 (fun E ce q9 f1 H locs hPX hw hS hce hcv hcl => ?_) (fun v f1 H locs hP hw hS => ?_)
    · exact hPX.elim
    · obtain ⟨ef9, hv9⟩ := hP
      rw [ef9] at hw
      rcases hv9 with ⟨ev9, c2⟩ | ⟨ev9, c2⟩
      · subst ev9
        refine W.eq (g2 := F0 m 18 ls [.int 1]) rfl ?_
        refine lv_if_eq (tgt := 23) hx hb dX1_kindOfAnswer_18 (by decide) (fun c9 => absurd c9 (by decide)) (fun _ => ?_)
        refine lv_iconst (v := 3) hx hb dX1_kindOfAnswer_21 (by decide) ?_
        exact hp_iret (v := 3) B0 hw hS hr ⟨Nat.le_of_ble_eq_true rfl, Nat.le_of_ble_eq_true rfl⟩ dX1_kindOfAnswer_22 (⟨rfl, congrArg (fun z9 => some (Value.int z9)) (by rw [← hv9, show 6 - j = (6 - (j + 1)) + 1 by omega, kFn_3 c2])⟩)
      · subst ev9
        refine W.eq (g2 := F0 m 18 ls [.int 0]) rfl ?_
        refine lv_if_eq (tgt := 23) hx hb dX1_kindOfAnswer_18 (by decide) (fun _ => ?_) (fun c9 => absurd (by decide) c9)
        refine lv_aload_n hx hb dX1_kindOfAnswer_23 rfl (lv_at hl9 2 rfl) ?_
        refine lv_iload_n hx hb dX1_kindOfAnswer_24 rfl (lv_at hl9 0 rfl) ?_
        refine lv_aload_n hx hb dX1_kindOfAnswer_25 rfl (lv_at hl9 3 rfl) ?_
        refine lv_iload_n hx hb dX1_kindOfAnswer_26 rfl (lv_at hl9 0 rfl) ?_
        refine hp_iald B0 hw k_nv (vin6j hj) dX1_kindOfAnswer_27 ?_
        refine hp_c (v := (gv j)) (congrArg gv (nI_clamp (by omega))) ?_
        refine hp_V (ci := 1) (As := [.int (nI j), .int (gv j)]) (rest := []) B0 hw hS (c_X1_rfsX hl G f en nw na nq nr mg st tm sr li lp mi ga k_en k_na j hj (gv j)) mV_X1_isRefused qM_X1_121 rfl k_en rfl rfl hl9.1 (Nat.le_of_ble_eq_true rfl) ⟨⟨Nat.le_of_ble_eq_true rfl, Nat.le_of_ble_eq_true rfl⟩, Nat.le_of_ble_eq_true rfl, Nat.le_of_ble_eq_true rfl⟩ dX1_kindOfAnswer_28 (fun E ce q9 f3 H locs hPX hw hS hce hcv hcl => ?_) (fun v f3 H locs hP hw hS => ?_)
        · exact hPX.elim
        · obtain ⟨ef9, hv9⟩ := hP
          rw [ef9] at hw
          rcases hv9 with ⟨ev9, c4⟩ | ⟨ev9, c4⟩
          · subst ev9
            refine W.eq (g2 := F0 m 31 ls [.int 1]) rfl ?_
            refine lv_if_eq (tgt := 36) hx hb dX1_kindOfAnswer_31 (by decide) (fun c9 => absurd c9 (by decide)) (fun _ => ?_)
            refine lv_iconst (v := 2) hx hb dX1_kindOfAnswer_34 (by decide) ?_
            refine lv_istore_n (lv' := [(2, .int 2), (3, .int (nI j)), (0, .ref en), (1, .ref nv)]) hx hb dX1_kindOfAnswer_35 rfl hl9 (by decide) rfl (fun ls hl9 => ?_)
            refine lv_iinc (v := (nI (j + 1))) (lv' := [(3, .int (nI (j + 1))), (2, .int 2), (0, .ref en), (1, .ref nv)]) hx hb dX1_kindOfAnswer_36 hl9 (k := 1) rfl (nI_1 j) (by decide) rfl (fun ls hl9 => ?_)
            refine lv_goto (tgt := 4) hx hb dX1_kindOfAnswer_39 (by decide) ?_
            exact ih _ _ H locs ls ⟨rfl, _, (by rw [← hv9, show 6 - j = (6 - (j + 1)) + 1 by omega, kFn_2 c2 c4]), rfl⟩ hw hS (lv_sub hl9 [0, 1, 2, 3] rfl)
          · subst ev9
            refine W.eq (g2 := F0 m 31 ls [.int 0]) rfl ?_
            refine lv_if_eq (tgt := 36) hx hb dX1_kindOfAnswer_31 (by decide) (fun _ => ?_) (fun c9 => absurd (by decide) c9)
            refine lv_iinc (v := (nI (j + 1))) (lv' := [(3, .int (nI (j + 1))), (2, .int k9), (0, .ref en), (1, .ref nv)]) hx hb dX1_kindOfAnswer_36 hl9 (k := 0) rfl (nI_1 j) (by decide) rfl (fun ls hl9 => ?_)
            refine lv_goto (tgt := 4) hx hb dX1_kindOfAnswer_39 (by decide) ?_
            exact ih _ _ H locs ls ⟨rfl, _, (by rw [← hv9, show 6 - j = (6 - (j + 1)) + 1 by omega, kFn_1 c2 c4]), rfl⟩ hw hS (lv_sub hl9 [0, 1, 2, 3] rfl)
  · obtain ⟨ef9, k9, hv9, el9⟩ := hI
    rw [ef9] at hw
    rw [el9] at hl9
    refine lv_iload_n hx hb dX1_kindOfAnswer_4 rfl (lv_at hl9 0 rfl) ?_
    refine lv_bipush (v := 6) hx hb dX1_kindOfAnswer_5 (by decide) ?_
    refine lv_icmp_ge (tgt := 42) hx hb dX1_kindOfAnswer_7 (by decide) (fun _ => ?_) (fun c9 => absurd (by decide) c9)
    refine lv_iload_n hx hb dX1_kindOfAnswer_42 rfl (lv_at hl9 1 rfl) ?_
    exact hp_iret (v := k9) B0 hw hS hr ⟨Nat.le_of_ble_eq_true rfl, Nat.le_of_ble_eq_true rfl⟩ dX1_kindOfAnswer_43 (⟨rfl, congrArg (fun z9 => some (Value.int z9)) hv9⟩)

set_option maxHeartbeats 4000000 in
set_option maxRecDepth 100000 in
theorem c_X1_toldX {l : Launch} (hl : l.stackTraces = false) (G : hG) (f : hM) (en nw na nq nr : Nat) (mg st tm sr li lp mi : Int32) (ga : Nat → Int32) (k_en : f en = some (.inr (1, [.ref nw, .ref na, .ref nq, .ref nr, .int mg, .int st, .int tm, .int sr, .int li, .int lp, .int mi]))) (k_na : f na = some (.inl (cI G, 6, .inl ga))) (nv : Nat) (gv : Nat → Int32) (k_nv : f nv = some (.inl (cI G, 6, .inl gv))) (k : Int32) : CT l yX1_toldOptions (.code yX1_toldOptions cX1_toldOptions 5 (some (.array .int))) 2 44 1 6 G [.ref en, .int k, .ref nv] f (fun v f1 => ∃ q : Nat, v = some (.ref q) ∧ f q = none ∧ f1 = va_up f q (some (.inl (cI G, 6, .inl (toldF ga gv k))))) (fun E f1 => False) := by
  refine hp_start hl (own := RX1) (by decide) rfl (Nat.le_of_ble_eq_true rfl) ?_
  intro p e s m args below meth c B0 hr hnm hout hw hS ls hl9
  have hx := B0.1
  have hb := B0.2.1
  have hl9 : lv_has ls 5 [(0, .ref en), (1, .int k), (2, .ref nv)] := hl9
  refine hp_S (As := []) (rest := []) B0 hw hS (c_X1_tellX hl G f ) mS_X1_tellNothing qM_X1_105 rfl rfl hl9.1 (Nat.le_of_ble_eq_true rfl) ⟨⟨Nat.le_of_ble_eq_true rfl, Nat.le_of_ble_eq_true rfl⟩, Nat.le_of_ble_eq_true rfl, Nat.le_of_ble_eq_true rfl⟩ dX1_toldOptions_0 (fun E ce q9 f1 H locs hPX hw hS hce hcv hcl => ?_) (fun v f1 H locs hP hw hS => ?_)
  · exact hPX.elim
  · obtain ⟨q2, ev9, w3, e4⟩ := hP
    subst ev9
    have h5 : f1 q2 = some (.inl (cI G, 6, .inl N6)) := by rw [e4, va_up_self]
    refine W.eq (g2 := F0 m 3 ls [.ref q2]) rfl ?_
    refine lv_astore_n (lv' := [(3, .ref q2), (0, .ref en), (1, .int k), (2, .ref nv)]) hx hb dX1_toldOptions_3 rfl hl9 (by decide) rfl (fun ls hl9 => ?_)
    refine lv_iconst (v := 0) hx hb dX1_toldOptions_4 (by decide) ?_
    refine lv_istore (lv' := [(4, .int 0), (3, .ref q2), (0, .ref en), (1, .int k), (2, .ref nv)]) hx hb dX1_toldOptions_5 hl9 (by decide) rfl (fun ls hl9 => ?_)
    refine hp_for (nL := 5) (pc := 7) (fun j f9 lv9 => f9 = va_up f q2 (some (.inl (cI G, 6, .inl (toldN ga gv k j)))) ∧ lv9 = [(4, .int (nI j)), (3, .ref q2), (0, .ref en), (1, .int k), (2, .ref nv)]) 6 (fun j f9 lv9 H locs ls hj hI hw hS hl9 ih => ?_) (fun f9 lv9 H locs ls hI hw hS hl9 => ?_) 6 0 (by decide) f1 _ _ _ ls ⟨(by rw [toldN_0]; exact e4), rfl⟩ hw hS (lv_sub hl9 [0, 1, 2, 3, 4] rfl)
    · obtain ⟨efq, el9⟩ := hI
      rw [el9] at hl9
      have h6 : f9 q2 = some (.inl (cI G, 6, .inl (toldN ga gv k j))) := by rw [efq, va_up_self]
      refine lv_iload hx hb dX1_toldOptions_7 (lv_at hl9 0 rfl) ?_
      refine lv_bipush (v := 6) hx hb dX1_toldOptions_9 (by decide) ?_
      refine lv_icmp_ge (tgt := 74) hx hb dX1_toldOptions_11 (by decide) (fun c9 => absurd c9 (by rw [show (6 : Int32) = nI 6 from rfl]; exact nI_ge hj (by omega))) (fun _ => ?_)
      refine lv_iload_n hx hb dX1_toldOptions_14 rfl (lv_at hl9 3 rfl) ?_
      refine lv_iconst (v := 3) hx hb dX1_toldOptions_15 (by decide) ?_
      refine lv_icmp_ne (tgt := 40) hx hb dX1_toldOptions_16 (by decide) (fun c7 => ?_) (fun c7 => ?_)
      · refine lv_iload_n hx hb dX1_toldOptions_40 rfl (lv_at hl9 3 rfl) ?_
        refine lv_iconst (v := 2) hx hb dX1_toldOptions_41 (by decide) ?_
        refine lv_icmp_ne (tgt := 68) hx hb dX1_toldOptions_42 (by decide) (fun c8 => ?_) (fun c8 => ?_)
        · refine lv_iinc (v := (nI (j + 1))) (lv' := [(4, .int (nI (j + 1))), (3, .ref q2), (0, .ref en), (1, .int k), (2, .ref nv)]) hx hb dX1_toldOptions_68 hl9 (k := 0) rfl (nI_1 j) (by decide) rfl (fun ls hl9 => ?_)
          refine lv_goto (tgt := 7) hx hb dX1_toldOptions_71 (by decide) ?_
          exact ih _ _ H locs ls ⟨(by rw [← toldN_k hj (by unfold tlF; rw [if_neg (fun h9 => c8 h9.1), if_neg (fun h9 => c7 h9.1)])]; exact efq), rfl⟩ hw hS (lv_sub hl9 [0, 1, 2, 3, 4] rfl)
        · refine lv_aload_n hx hb dX1_toldOptions_45 rfl (lv_at hl9 2 rfl) ?_
          refine lv_iload hx hb dX1_toldOptions_46 (lv_at hl9 0 rfl) ?_
          refine lv_aload_n hx hb dX1_toldOptions_48 rfl (lv_at hl9 4 rfl) ?_
          refine lv_iload hx hb dX1_toldOptions_49 (lv_at hl9 0 rfl) ?_
          have h9 : f9 nv = some (.inl (cI G, 6, .inl gv)) := by rw [efq, va_up_ne _ _ (hnew k_nv w3)]; exact k_nv
          refine hp_iald B0 hw h9 (vin6j hj) dX1_toldOptions_51 ?_
          refine hp_c (v := (gv j)) (congrArg gv (nI_clamp (by omega))) ?_
          have h10 : f9 en = some (.inr (1, [.ref nw, .ref na, .ref nq, .ref nr, .int mg, .int st, .int tm, .int sr, .int li, .int lp, .int mi])) := by rw [efq, va_up_ne _ _ (hnew k_en w3)]; exact k_en
          have h11 : f9 na = some (.inl (cI G, 6, .inl ga)) := by rw [efq, va_up_ne _ _ (hnew k_na w3)]; exact k_na
          refine hp_V (ci := 1) (As := [.int (nI j), .int (gv j)]) (rest := []) B0 hw hS (c_X1_rfsX hl G f9 en nw na nq nr mg st tm sr li lp mi ga h10 h11 j hj (gv j)) mV_X1_isRefused qM_X1_121 rfl h10 rfl rfl hl9.1 (Nat.le_of_ble_eq_true rfl) ⟨⟨Nat.le_of_ble_eq_true rfl, Nat.le_of_ble_eq_true rfl⟩, Nat.le_of_ble_eq_true rfl, Nat.le_of_ble_eq_true rfl⟩ dX1_toldOptions_52 (fun E ce q9 f12 H locs hPX hw hS hce hcv hcl => ?_) (fun v f12 H locs hP hw hS => ?_)
          · exact hPX.elim
          · obtain ⟨ef9, hv9⟩ := hP
            rw [ef9] at hw
            rcases hv9 with ⟨ev9, c13⟩ | ⟨ev9, c13⟩
            · subst ev9
              refine W.eq (g2 := F0 m 55 ls [.int 1]) rfl ?_
              refine lv_if_eq (tgt := 68) hx hb dX1_toldOptions_55 (by decide) (fun c9 => absurd c9 (by decide)) (fun _ => ?_)
              refine lv_aload_n hx hb dX1_toldOptions_58 rfl (lv_at hl9 1 rfl) ?_
              refine lv_iload hx hb dX1_toldOptions_59 (lv_at hl9 0 rfl) ?_
              refine lv_aload_n hx hb dX1_toldOptions_61 rfl (lv_at hl9 2 rfl) ?_
              refine lv_iload hx hb dX1_toldOptions_62 (lv_at hl9 0 rfl) ?_
              refine hp_V (ci := 1) (As := [.int (nI j)]) (rest := [.int (nI j), .ref q2]) B0 hw hS (c_X1_lowX hl G f9 en nw na nq nr mg st tm sr li lp mi ga h10 h11 j hj) mV_X1_lowestAllowed qM_X1_124 rfl h10 rfl rfl hl9.1 (Nat.le_of_ble_eq_true rfl) ⟨⟨Nat.le_of_ble_eq_true rfl, Nat.le_of_ble_eq_true rfl⟩, Nat.le_of_ble_eq_true rfl, Nat.le_of_ble_eq_true rfl⟩ dX1_toldOptions_64 (fun E ce q9 f14 H locs hPX hw hS hce hcv hcl => ?_) (fun v f14 H locs hP hw hS => ?_)
              · exact hPX.elim
              · obtain ⟨ef9, ev9⟩ := hP
                rw [ef9] at hw
                subst ev9
                refine W.eq (g2 := F0 m 67 ls [.int (lowF (ga j)), .int (nI j), .ref q2]) rfl ?_
                refine hp_iast B0 hw hS h6 (vin6j hj) dX1_toldOptions_67 (fun H locs f15 ef15 hw hS => ?_)
                have e16 : f15 = va_up f q2 (some (.inl (cI G, 6, .inl (upd (toldN ga gv k j) ((nI j) : Int32).toNatClampNeg (lowF (ga j)))))) := by rw [ef15, efq, bx_uu]
                have h17 : f15 q2 = some (.inl (cI G, 6, .inl (upd (toldN ga gv k j) ((nI j) : Int32).toNatClampNeg (lowF (ga j))))) := by rw [ef15, va_up_self]
                refine lv_iinc (v := (nI (j + 1))) (lv' := [(4, .int (nI (j + 1))), (3, .ref q2), (0, .ref en), (1, .int k), (2, .ref nv)]) hx hb dX1_toldOptions_68 hl9 (k := 0) rfl (nI_1 j) (by decide) rfl (fun ls hl9 => ?_)
                refine lv_goto (tgt := 7) hx hb dX1_toldOptions_71 (by decide) ?_
                exact ih _ _ H locs ls ⟨(by rw [e16, toldN_s (nI_clamp (by omega)) (by unfold tlF; rw [if_pos ⟨c8, c13⟩])]), rfl⟩ hw hS (lv_sub hl9 [0, 1, 2, 3, 4] rfl)
            · subst ev9
              refine W.eq (g2 := F0 m 55 ls [.int 0]) rfl ?_
              refine lv_if_eq (tgt := 68) hx hb dX1_toldOptions_55 (by decide) (fun _ => ?_) (fun c9 => absurd (by decide) c9)
              refine lv_iinc (v := (nI (j + 1))) (lv' := [(4, .int (nI (j + 1))), (3, .ref q2), (0, .ref en), (1, .int k), (2, .ref nv)]) hx hb dX1_toldOptions_68 hl9 (k := 0) rfl (nI_1 j) (by decide) rfl (fun ls hl9 => ?_)
              refine lv_goto (tgt := 7) hx hb dX1_toldOptions_71 (by decide) ?_
              exact ih _ _ H locs ls ⟨(by rw [← toldN_k hj (by unfold tlF; rw [if_neg (fun h9 => c13 h9.2), if_neg (fun h9 => c7 h9.1)])]; exact efq), rfl⟩ hw hS (lv_sub hl9 [0, 1, 2, 3, 4] rfl)
      · refine lv_aload_n hx hb dX1_toldOptions_19 rfl (lv_at hl9 2 rfl) ?_
        refine lv_iload hx hb dX1_toldOptions_20 (lv_at hl9 0 rfl) ?_
        refine lv_aload_n hx hb dX1_toldOptions_22 rfl (lv_at hl9 4 rfl) ?_
        refine lv_iload hx hb dX1_toldOptions_23 (lv_at hl9 0 rfl) ?_
        have h18 : f9 nv = some (.inl (cI G, 6, .inl gv)) := by rw [efq, va_up_ne _ _ (hnew k_nv w3)]; exact k_nv
        refine hp_iald B0 hw h18 (vin6j hj) dX1_toldOptions_25 ?_
        refine hp_c (v := (gv j)) (congrArg gv (nI_clamp (by omega))) ?_
        have h19 : f9 en = some (.inr (1, [.ref nw, .ref na, .ref nq, .ref nr, .int mg, .int st, .int tm, .int sr, .int li, .int lp, .int mi])) := by rw [efq, va_up_ne _ _ (hnew k_en w3)]; exact k_en
        have h20 : f9 na = some (.inl (cI G, 6, .inl ga)) := by rw [efq, va_up_ne _ _ (hnew k_na w3)]; exact k_na
        refine hp_V (ci := 1) (As := [.int (nI j), .int (gv j)]) (rest := []) B0 hw hS (c_X1_unkX hl G f9 en nw na nq nr mg st tm sr li lp mi ga h19 h20 j hj (gv j)) mV_X1_isUnknown qM_X1_117 rfl h19 rfl rfl hl9.1 (Nat.le_of_ble_eq_true rfl) ⟨⟨Nat.le_of_ble_eq_true rfl, Nat.le_of_ble_eq_true rfl⟩, Nat.le_of_ble_eq_true rfl, Nat.le_of_ble_eq_true rfl⟩ dX1_toldOptions_26 (fun E ce q9 f21 H locs hPX hw hS hce hcv hcl => ?_) (fun v f21 H locs hP hw hS => ?_)
        · exact hPX.elim
        · obtain ⟨ef9, hv9⟩ := hP
          rw [ef9] at hw
          rcases hv9 with ⟨ev9, c22⟩ | ⟨ev9, c22⟩
          · subst ev9
            refine W.eq (g2 := F0 m 29 ls [.int 1]) rfl ?_
            refine lv_if_eq (tgt := 40) hx hb dX1_toldOptions_29 (by decide) (fun c9 => absurd c9 (by decide)) (fun _ => ?_)
            refine lv_aload_n hx hb dX1_toldOptions_32 rfl (lv_at hl9 1 rfl) ?_
            refine lv_iload hx hb dX1_toldOptions_33 (lv_at hl9 0 rfl) ?_
            refine lv_aload_n hx hb dX1_toldOptions_35 rfl (lv_at hl9 4 rfl) ?_
            refine lv_iload hx hb dX1_toldOptions_36 (lv_at hl9 0 rfl) ?_
            refine hp_iald B0 hw h18 (vin6j hj) dX1_toldOptions_38 ?_
            refine hp_c (v := (gv j)) (congrArg gv (nI_clamp (by omega))) ?_
            refine hp_iast B0 hw hS h6 (vin6j hj) dX1_toldOptions_39 (fun H locs f23 ef23 hw hS => ?_)
            have e24 : f23 = va_up f q2 (some (.inl (cI G, 6, .inl (upd (toldN ga gv k j) ((nI j) : Int32).toNatClampNeg (gv j))))) := by rw [ef23, efq, bx_uu]
            have h25 : f23 q2 = some (.inl (cI G, 6, .inl (upd (toldN ga gv k j) ((nI j) : Int32).toNatClampNeg (gv j)))) := by rw [ef23, va_up_self]
            refine lv_iload_n hx hb dX1_toldOptions_40 rfl (lv_at hl9 3 rfl) ?_
            refine lv_iconst (v := 2) hx hb dX1_toldOptions_41 (by decide) ?_
            refine lv_icmp_ne (tgt := 68) hx hb dX1_toldOptions_42 (by decide) (fun _ => ?_) (fun c9 => absurd c9 (by rw [c7]; decide))
            refine lv_iinc (v := (nI (j + 1))) (lv' := [(4, .int (nI (j + 1))), (3, .ref q2), (0, .ref en), (1, .int k), (2, .ref nv)]) hx hb dX1_toldOptions_68 hl9 (k := 0) rfl (nI_1 j) (by decide) rfl (fun ls hl9 => ?_)
            refine lv_goto (tgt := 7) hx hb dX1_toldOptions_71 (by decide) ?_
            exact ih _ _ H locs ls ⟨(by rw [e24, toldN_s (nI_clamp (by omega)) (by unfold tlF; rw [if_neg (fun h9 => absurd h9.1 (by rw [c7]; decide)), if_pos ⟨c7, c22⟩])]), rfl⟩ hw hS (lv_sub hl9 [0, 1, 2, 3, 4] rfl)
          · subst ev9
            refine W.eq (g2 := F0 m 29 ls [.int 0]) rfl ?_
            refine lv_if_eq (tgt := 40) hx hb dX1_toldOptions_29 (by decide) (fun _ => ?_) (fun c9 => absurd (by decide) c9)
            refine lv_iload_n hx hb dX1_toldOptions_40 rfl (lv_at hl9 3 rfl) ?_
            refine lv_iconst (v := 2) hx hb dX1_toldOptions_41 (by decide) ?_
            refine lv_icmp_ne (tgt := 68) hx hb dX1_toldOptions_42 (by decide) (fun _ => ?_) (fun c9 => absurd c9 (by rw [c7]; decide))
            refine lv_iinc (v := (nI (j + 1))) (lv' := [(4, .int (nI (j + 1))), (3, .ref q2), (0, .ref en), (1, .int k), (2, .ref nv)]) hx hb dX1_toldOptions_68 hl9 (k := 0) rfl (nI_1 j) (by decide) rfl (fun ls hl9 => ?_)
            refine lv_goto (tgt := 7) hx hb dX1_toldOptions_71 (by decide) ?_
            exact ih _ _ H locs ls ⟨(by rw [← toldN_k hj (by unfold tlF; rw [if_neg (fun h9 => absurd h9.1 (by rw [c7]; decide)), if_neg (fun h9 => c22 h9.2)])]; exact efq), rfl⟩ hw hS (lv_sub hl9 [0, 1, 2, 3, 4] rfl)
    · obtain ⟨efq, el9⟩ := hI
      rw [el9] at hl9
      have h26 : f9 q2 = some (.inl (cI G, 6, .inl (toldN ga gv k 6))) := by rw [efq, va_up_self]
      refine lv_iload hx hb dX1_toldOptions_7 (lv_at hl9 0 rfl) ?_
      refine lv_bipush (v := 6) hx hb dX1_toldOptions_9 (by decide) ?_
      refine lv_icmp_ge (tgt := 74) hx hb dX1_toldOptions_11 (by decide) (fun _ => ?_) (fun c9 => absurd (by decide) c9)
      refine lv_aload_n hx hb dX1_toldOptions_74 rfl (lv_at hl9 1 rfl) ?_
      exact hp_aret (v := .ref q2) B0 hw hS hr (Or.inr ⟨_, rfl⟩) (Or.inr ⟨_, rfl⟩) ⟨Nat.le_of_ble_eq_true rfl, Nat.le_of_ble_eq_true rfl⟩ dX1_toldOptions_75 (⟨q2, rfl, w3, efq⟩)

set_option maxHeartbeats 4000000 in
set_option maxRecDepth 100000 in
theorem c_X1_answerX {l : Launch} (hl : l.stackTraces = false) (G : hG) (f : hM) (en nw na nq nr : Nat) (st li sr tm lp mi ix : Int32) (gq : Nat → Int32) (L : List Fr) (Q : List (Nat × Nat)) (hE : EX G f en nw na nq nr (st, li, sr, tm, lp, mi, ix, gq, L) Q) (hn : Q.length < 4000) (ga : Nat → Int32) (k_na : f na = some (.inl (cI G, 6, .inl ga))) (haq : na ≠ nq) (fr u : Nat) (rk ri rx : Int32) (rv : Nat → Int32) (nx : Value) (k_fr : f fr = some (.inr (2, [.int rk, .int ri, .int (mgF (rk, ri, rx, rv)), .ref u, nx]))) (k_u : f u = some (.inl (cI G, 6, .inl rv))) (hfQ : fr ∉ ws Q) (huq : u ≠ nq) : CT l yX1_answer (.code yX1_answer cX1_answer 3 none) 3 68 2 11 G [.ref en, .ref fr] f (fun v f1 => v = none ∧ XP G f f1 en nw na nq nr Q (ansS ga (rk, ri, rx, rv) (st, li, sr, tm, lp, mi, ix, gq, L))) (fun E f1 => False) := by
  refine hp_start hl (own := RX1) (by decide) rfl (Nat.le_of_ble_eq_true rfl) ?_
  intro p e s m args below meth c B0 hr hnm hout hw hS ls hl9
  have hx := B0.1
  have hb := B0.2.1
  have hl9 : lv_has ls 3 [(0, .ref en), (1, .ref fr)] := hl9
  have ke1 : f en = some (.inr (1, [.ref nw, .ref na, .ref nq, .ref nr, .int (num ix), .int st, .int tm, .int sr, .int li, .int lp, .int mi])) := (hE).1
  have kq2 : f nq = some (.inl (cI G, 6, .inl gq)) := (hE).2.1
  obtain ⟨hd4, kr3, hc5⟩ := (hE).2.2.1
  refine lv_aload_n hx hb dX1_answer_0 rfl (lv_at hl9 0 rfl) ?_
  refine lv_aload_n hx hb dX1_answer_1 rfl (lv_at hl9 1 rfl) ?_
  refine hp_get B0 hw 2 rfl in_X2 k_fr 3 (by decide) qF_X1_92 rfl dX1_answer_2 ?_
  refine hp_V (ci := 1) (As := [.ref u]) (rest := []) B0 hw hS (c_X1_kindX hl G f en nw na nq nr (num ix) st tm sr li lp mi ga ke1 k_na u rv k_u) mV_X1_kindOfAnswer qM_X1_109 rfl ke1 rfl rfl hl9.1 (Nat.le_of_ble_eq_true rfl) ⟨⟨Nat.le_of_ble_eq_true rfl, Nat.le_of_ble_eq_true rfl⟩, Nat.le_of_ble_eq_true rfl, Nat.le_of_ble_eq_true rfl⟩ dX1_answer_5 (fun E ce q9 f6 H locs hPX hw hS hce hcv hcl => ?_) (fun v f6 H locs hP hw hS => ?_)
  · exact hPX.elim
  · obtain ⟨ef9, ev9⟩ := hP
    rw [ef9] at hw
    subst ev9
    refine W.eq (g2 := F0 m 8 ls [.int (kindF ga rv)]) rfl ?_
    refine lv_istore_n (lv' := [(2, .int (kindF ga rv)), (0, .ref en), (1, .ref fr)]) hx hb dX1_answer_8 rfl hl9 (by decide) rfl (fun ls hl9 => ?_)
    refine lv_aload_n hx hb dX1_answer_9 rfl (lv_at hl9 1 rfl) ?_
    refine hp_get B0 hw 1 rfl in_X1 ke1 3 (by decide) qF_X1_24 rfl dX1_answer_10 ?_
    refine hp_new (fs := [.int 0, .int 0, .int 0, .null, .null]) B0 hw hS 2 rfl in_X2 tyX2 tyX2_ok qC_X1_71 qI_X2 qN_X2 (fun j hj => by rcases (show j = 0 ∨ j = 1 ∨ j = 2 ∨ j = 3 ∨ j = 4 by omega) with rfl | rfl | rfl | rfl | rfl <;> rfl) (Nat.le_of_ble_eq_true rfl) (Nat.le_of_ble_eq_true rfl) dX1_answer_13 (fun q7 H f9 w8 ef9 hw hS => ?_)
    have h10 : f9 q7 = some (.inr (2, [.int 0, .int 0, .int 0, .null, .null])) := by rw [ef9, va_up_self]
    refine lv_dup hx hb dX1_answer_16 rfl ?_
    refine lv_iload_n hx hb dX1_answer_17 rfl (lv_at hl9 0 rfl) ?_
    refine lv_aload_n hx hb dX1_answer_18 rfl (lv_at hl9 2 rfl) ?_
    have h11 : f9 fr = some (.inr (2, [.int rk, .int ri, .int (mgF (rk, ri, rx, rv)), .ref u, nx])) := by rw [ef9, va_up_ne _ _ (hnew k_fr w8)]; exact k_fr
    refine hp_get B0 hw 2 rfl in_X2 h11 1 (by decide) qF_X1_86 rfl dX1_answer_19 ?_
    refine lv_iconst (v := 0) hx hb dX1_answer_22 (by decide) ?_
    refine lv_aload_n hx hb dX1_answer_23 rfl (lv_at hl9 1 rfl) ?_
    refine lv_iload_n hx hb dX1_answer_24 rfl (lv_at hl9 0 rfl) ?_
    refine lv_aload_n hx hb dX1_answer_25 rfl (lv_at hl9 2 rfl) ?_
    refine hp_get B0 hw 2 rfl in_X2 h11 3 (by decide) qF_X1_92 rfl dX1_answer_26 ?_
    have h12 : f9 u = some (.inl (cI G, 6, .inl rv)) := by rw [ef9, va_up_ne _ _ (hnew k_u w8)]; exact k_u
    have h13 : f9 en = some (.inr (1, [.ref nw, .ref na, .ref nq, .ref nr, .int (num ix), .int st, .int tm, .int sr, .int li, .int lp, .int mi])) := by rw [ef9, va_up_ne _ _ (hnew ke1 w8)]; exact ke1
    have h14 : f9 na = some (.inl (cI G, 6, .inl ga)) := by rw [ef9, va_up_ne _ _ (hnew k_na w8)]; exact k_na
    refine hp_V (ci := 1) (As := [.int (kindF ga rv), .ref u]) (rest := [.int 0, .int ri, .int (kindF ga rv), .ref q7, .ref q7, .ref nr]) B0 hw hS (c_X1_toldX hl G f9 en nw na nq nr (num ix) st tm sr li lp mi ga h13 h14 u rv h12 (kindF ga rv)) mV_X1_toldOptions qM_X1_113 rfl h13 rfl rfl hl9.1 (Nat.le_of_ble_eq_true rfl) ⟨⟨Nat.le_of_ble_eq_true rfl, Nat.le_of_ble_eq_true rfl⟩, Nat.le_of_ble_eq_true rfl, Nat.le_of_ble_eq_true rfl⟩ dX1_answer_29 (fun E ce q9 f15 H locs hPX hw hS hce hcv hcl => ?_) (fun v f15 H locs hP hw hS => ?_)
    · exact hPX.elim
    · obtain ⟨q16, ev9, w17, e18⟩ := hP
      subst ev9
      have h19 : f15 q16 = some (.inl (cI G, 6, .inl (toldF ga rv (kindF ga rv)))) := by rw [e18, va_up_self]
      refine W.eq (g2 := F0 m 32 ls [.ref q16, .int 0, .int ri, .int (kindF ga rv), .ref q7, .ref q7, .ref nr]) rfl ?_
      have h20 : f15 q7 = some (.inr (2, [.int 0, .int 0, .int 0, .null, .null])) := by rw [e18, va_up_ne _ _ (hnew h10 w17)]; exact h10
      refine hp_I (As := [.int (kindF ga rv), .int ri, .int 0, .ref q16]) (rest := [.ref q7, .ref nr]) (b := q7) B0 hw hS (c_X2_initE hl G f15 q7 q16 (kindF ga rv) ri 0 h20) mI_X2_init qM_X1_99 rfl rfl hl9.1 (Nat.le_of_ble_eq_true rfl) ⟨⟨Nat.le_of_ble_eq_true rfl, Nat.le_of_ble_eq_true rfl⟩, Nat.le_of_ble_eq_true rfl, Nat.le_of_ble_eq_true rfl⟩ dX1_answer_32 (fun E ce q9 f21 H locs hPX hw hS hce hcv hcl => ?_) (fun v f21 H locs hP hw hS => ?_)
      · exact hPX.elim
      · obtain ⟨ev9, e22⟩ := hP
        subst ev9
        have h23 : f21 q7 = some (.inr (2, [.int (kindF ga rv), .int ri, .int 0, .ref q16, .null])) := by rw [e22, va_up_self]
        refine W.eq (g2 := F0 m 35 ls [.ref q7, .ref nr]) rfl ?_
        have n25 : q7 ≠ q16 := hnew h10 w17
        have h24 : f21 q16 = some (.inl (cI G, 6, .inl (toldF ga rv (kindF ga rv)))) := by rw [e22, va_up_ne _ _ (Ne.symm n25)]; exact h19
        have h26 : f9 nr = some (.inr (3, [hd4, (lastV Q), .int (nI (Q).length)])) := by rw [ef9, va_up_ne _ _ (hnew kr3 w8)]; exact kr3
        have h27 : f15 nr = some (.inr (3, [hd4, (lastV Q), .int (nI (Q).length)])) := by rw [e18, va_up_ne _ _ (hnew h26 w17)]; exact h26
        have n29 : nr ≠ q7 := hnew kr3 w8
        have h28 : f21 nr = some (.inr (3, [hd4, (lastV Q), .int (nI (Q).length)])) := by rw [e22, va_up_ne _ _ n29]; exact h27
        have k30 : f21 q7 = some (.inr (2, [.int (kindF ga rv), .int ri, .int (mgF (kindF ga rv, ri, ix, toldF ga rv (kindF ga rv))), .ref q16, .null])) := by rw [show mgF (kindF ga rv, ri, ix, toldF ga rv (kindF ga rv)) = 0 from if_neg (kindF_ne0 ga rv)]; exact h23
        have hN31 : ∀ c9 ∈ [(q7, q16)], f c9.1 = none ∧ f c9.2 = none := fun c9 hc9 => by rw [List.mem_singleton.mp hc9]; exact ⟨((fun _ h9 => h9) _ w8), ((hK2.trn w8 (show hK2 [q7] [] f f9 from (by rw [ef9]; exact hK2.new w8))).1 _ w17)⟩
        refine hp_V (ci := 3) (As := [.ref q7]) (rest := []) B0 hw hS (c_X3_putX hl G f21 nr q7 q16 (kindF ga rv, ri, ix, toldF ga rv (kindF ga rv)) Q L ⟨_, h28, (CH.kp (hK2.trn w8 ((show hK2 [q7, en, nq, nr] [] f f9 from (by rw [ef9]; exact hK2.new w8)).tr (hK2.trn w17 ((show hK2 [q16, q7, en, nq, nr] [] f9 f15 from (by rw [e18]; exact hK2.new w17)).tr (show hK2 [q16, q7, en, nq, nr] [] f15 f21 from (by rw [e22]; exact hK2.up (List.mem_cons_of_mem _ List.mem_cons_self))))))) hc5 (EX.cu (hE)) (EX.sf (hE)))⟩ k30 h24 (CH.fresh hc5 (hN31 (q7, q16) (List.mem_singleton.mpr rfl)).1) (hE).2.2.2.1 (Nat.lt_trans hn (by decide))) mV_X3_put qM_X1_102 rfl h28 rfl rfl hl9.1 (Nat.le_of_ble_eq_true rfl) ⟨⟨Nat.le_of_ble_eq_true rfl, Nat.le_of_ble_eq_true rfl⟩, Nat.le_of_ble_eq_true rfl, Nat.le_of_ble_eq_true rfl⟩ dX1_answer_35 (fun E ce q9 f32 H locs hPX hw hS hce hcv hcl => ?_) (fun v f32 H locs hP hw hS => ?_)
        · exact hPX.elim
        · obtain ⟨ev9, hR33, k34⟩ := hP
          subst ev9
          have h35 : f15 en = some (.inr (1, [.ref nw, .ref na, .ref nq, .ref nr, .int (num ix), .int st, .int tm, .int sr, .int li, .int lp, .int mi])) := by rw [e18, va_up_ne _ _ (hnew h13 w17)]; exact h13
          have n37 : en ≠ q7 := hnew ke1 w8
          have h36 : f21 en = some (.inr (1, [.ref nw, .ref na, .ref nq, .ref nr, .int (num ix), .int st, .int tm, .int sr, .int li, .int lp, .int mi])) := by rw [e22, va_up_ne _ _ n37]; exact h35
          have h38 : f9 nq = some (.inl (cI G, 6, .inl gq)) := by rw [ef9, va_up_ne _ _ (hnew kq2 w8)]; exact kq2
          have h39 : f15 nq = some (.inl (cI G, 6, .inl gq)) := by rw [e18, va_up_ne _ _ (hnew h38 w17)]; exact h38
          have n41 : nq ≠ q7 := hnew kq2 w8
          have h40 : f21 nq = some (.inl (cI G, 6, .inl gq)) := by rw [e22, va_up_ne _ _ n41]; exact h39
          have n42 : en ≠ nr := hne ke1 kr3 (Nat.ne_of_beq_eq_false rfl)
          have h43 : f32 en = some (.inr (1, [.ref nw, .ref na, .ref nq, .ref nr, .int (num ix), .int st, .int tm, .int sr, .int li, .int lp, .int mi])) := k34.2 _ _ h36 (ninc n42 nin0) (fun t9 => absurd t9 (Nat.ne_of_beq_eq_false rfl))
          have n44 : nq ≠ nr := hne kq2 kr3 (Nat.ne_of_beq_eq_false rfl)
          have h45 : f32 nq = some (.inl (cI G, 6, .inl gq)) := k34.2 _ _ h40 (ninc n44 nin0) (fun t9 => absurd t9 (Nat.ne_of_beq_eq_false rfl))
          have hE46 : EX G f32 en nw na nq nr (st, li, sr, tm, lp, mi, ix, gq, (L ++ [(kindF ga rv, ri, ix, toldF ga rv (kindF ga rv))])) (Q ++ [(q7, q16)]) := ⟨h43, h45, hR33, nd_snoc (hE).2.2.2.1 (CH.fresh hc5 (hN31 (q7, q16) (List.mem_singleton.mpr rfl)).1), nuN (hE).2.2.2.2.1 kq2 hN31, (hE).2.2.2.2.2⟩
          have ke47 : f32 en = some (.inr (1, [.ref nw, .ref na, .ref nq, .ref nr, .int (num ix), .int st, .int tm, .int sr, .int li, .int lp, .int mi])) := (hE46).1
          have kq48 : f32 nq = some (.inl (cI G, 6, .inl gq)) := (hE46).2.1
          obtain ⟨hd50, kr49, hc51⟩ := (hE46).2.2.1
          refine W.eq (g2 := F0 m 38 ls []) rfl ?_
          refine lv_iload_n hx hb dX1_answer_38 rfl (lv_at hl9 0 rfl) ?_
          refine lv_iconst (v := 1) hx hb dX1_answer_39 (by decide) ?_
          refine lv_icmp_eq (tgt := 66) hx hb dX1_answer_40 (by decide) (fun c52 => ?_) (fun c52 => ?_)
          · refine lv_aload_n hx hb dX1_answer_66 rfl (lv_at hl9 1 rfl) ?_
            refine hp_get B0 hw 1 rfl in_X1 ke47 5 (by decide) qF_X1_28 rfl dX1_answer_67 ?_
            refine lv_iconst (v := 1) hx hb dX1_answer_70 (by decide) ?_
            refine lv_icmp_ne (tgt := 82) hx hb dX1_answer_71 (by decide) (fun c53 => ?_) (fun c53 => ?_)
            · refine lv_aload_n hx hb dX1_answer_82 rfl (lv_at hl9 1 rfl) ?_
              refine hp_get B0 hw 1 rfl in_X1 ke47 5 (by decide) qF_X1_28 rfl dX1_answer_83 ?_
              refine lv_iconst (v := 2) hx hb dX1_answer_86 (by decide) ?_
              refine lv_icmp_ne (tgt := 95) hx hb dX1_answer_87 (by decide) (fun c54 => ?_) (fun c54 => ?_)
              · exact hp_vret B0 hw hS hr ⟨Nat.le_of_ble_eq_true rfl, Nat.le_of_ble_eq_true rfl⟩ dX1_answer_95 (⟨rfl, ⟨_, hN31, (by rw [show ansS ga (rk, ri, rx, rv) (st, li, sr, tm, lp, mi, ix, gq, L) = (st, li, sr, tm, lp, mi, ix, gq, (L ++ [(kindF ga rv, ri, ix, toldF ga rv (kindF ga rv))])) from congrArg (fun z9 => addS (z9, li, sr, tm, lp, mi, ix, gq, L) (kindF ga rv, ri, ix, toldF ga rv (kindF ga rv))) (show ansT st (kindF ga rv) = st from ((if_pos c52).trans (if_neg c53)).trans (if_neg c54))]; exact (show EX G f32 en nw na nq nr (st, li, sr, tm, lp, mi, ix, gq, (L ++ [(kindF ga rv, ri, ix, toldF ga rv (kindF ga rv))])) (Q ++ [(q7, q16)]) from ⟨ke47, kq48, ⟨_, kr49, hc51⟩, (hE46).2.2.2.1, (hE46).2.2.2.2.1, (hE).2.2.2.2.2⟩)), (hK2.trn w8 ((show hK2 [q7, en, nq, nr] Q f f9 from (by rw [ef9]; exact hK2.new w8)).tr (hK2.trn w17 ((show hK2 [q16, q7, en, nq, nr] Q f9 f15 from (by rw [e18]; exact hK2.new w17)).tr ((show hK2 [q16, q7, en, nq, nr] Q f15 f21 from (by rw [e22]; exact hK2.up (List.mem_cons_of_mem _ List.mem_cons_self))).tr (show hK2 [q16, q7, en, nq, nr] Q f21 f32 from (k34.mono (sub_cons (List.mem_cons_of_mem _ (List.mem_cons_of_mem _ (List.mem_cons_of_mem _ (List.mem_cons_of_mem _ List.mem_cons_self)))) sub_nil))))))))⟩⟩)
              · refine lv_aload_n hx hb dX1_answer_90 rfl (lv_at hl9 1 rfl) ?_
                refine lv_iconst (v := 4) hx hb dX1_answer_91 (by decide) ?_
                refine hp_put (fs1 := [.ref nw, .ref na, .ref nq, .ref nr, .int (num ix), .int 4, .int tm, .int sr, .int li, .int lp, .int mi]) (ty := .int) B0 hw hS 1 rfl in_X1 tyX1 tyX1_ok nmX1 ke47 5 (by decide) qF_X1_28 rfl (by decide +kernel) rfl rfl (Nat.le_of_ble_eq_true rfl) rfl dX1_answer_92 (fun H locs f55 ef55 hw hS => ?_)
                have h56 : f55 en = some (.inr (1, [.ref nw, .ref na, .ref nq, .ref nr, .int (num ix), .int 4, .int tm, .int sr, .int li, .int lp, .int mi])) := by rw [ef55, va_up_self]
                have n58 : nq ≠ en := hne kq2 ke1 (Nat.ne_of_beq_eq_false rfl)
                have h57 : f55 nq = some (.inl (cI G, 6, .inl gq)) := by rw [ef55, va_up_ne _ _ n58]; exact kq48
                have h59 : f55 nr = some (.inr (3, [hd50, (lastV (Q ++ [(q7, q16)])), .int (nI ((Q ++ [(q7, q16)])).length)])) := by rw [ef55, va_up_ne _ _ (Ne.symm n42)]; exact kr49
                exact hp_vret B0 hw hS hr ⟨Nat.le_of_ble_eq_true rfl, Nat.le_of_ble_eq_true rfl⟩ dX1_answer_95 (⟨rfl, ⟨_, hN31, (by rw [show ansS ga (rk, ri, rx, rv) (st, li, sr, tm, lp, mi, ix, gq, L) = (4, li, sr, tm, lp, mi, ix, gq, (L ++ [(kindF ga rv, ri, ix, toldF ga rv (kindF ga rv))])) from congrArg (fun z9 => addS (z9, li, sr, tm, lp, mi, ix, gq, L) (kindF ga rv, ri, ix, toldF ga rv (kindF ga rv))) (show ansT st (kindF ga rv) = 4 from ((if_pos c52).trans (if_neg c53)).trans (if_pos c54))]; exact (show EX G f55 en nw na nq nr (4, li, sr, tm, lp, mi, ix, gq, (L ++ [(kindF ga rv, ri, ix, toldF ga rv (kindF ga rv))])) (Q ++ [(q7, q16)]) from ⟨h56, h57, ⟨_, h59, (CH.kp (show hK2 [en, nq, nr] [] f32 f55 from (by rw [ef55]; exact hK2.up List.mem_cons_self)) hc51 (EX.cu (hE46)) (EX.sf (hE46)))⟩, (hE46).2.2.2.1, (hE46).2.2.2.2.1, (hE).2.2.2.2.2⟩)), (hK2.trn w8 ((show hK2 [q7, en, nq, nr] Q f f9 from (by rw [ef9]; exact hK2.new w8)).tr (hK2.trn w17 ((show hK2 [q16, q7, en, nq, nr] Q f9 f15 from (by rw [e18]; exact hK2.new w17)).tr ((show hK2 [q16, q7, en, nq, nr] Q f15 f21 from (by rw [e22]; exact hK2.up (List.mem_cons_of_mem _ List.mem_cons_self))).tr ((show hK2 [q16, q7, en, nq, nr] Q f21 f32 from (k34.mono (sub_cons (List.mem_cons_of_mem _ (List.mem_cons_of_mem _ (List.mem_cons_of_mem _ (List.mem_cons_of_mem _ List.mem_cons_self)))) sub_nil))).trq (show hK2 [q16, q7, en, nq, nr] (Q ++ [(q7, q16)]) f32 f55 from (by rw [ef55]; exact hK2.up (List.mem_cons_of_mem _ (List.mem_cons_of_mem _ List.mem_cons_self)))) (fun c9 h9 => (hN31 c9 h9).1)))))))⟩⟩)
            · refine lv_aload_n hx hb dX1_answer_74 rfl (lv_at hl9 1 rfl) ?_
              refine lv_iconst (v := 3) hx hb dX1_answer_75 (by decide) ?_
              refine hp_put (fs1 := [.ref nw, .ref na, .ref nq, .ref nr, .int (num ix), .int 3, .int tm, .int sr, .int li, .int lp, .int mi]) (ty := .int) B0 hw hS 1 rfl in_X1 tyX1 tyX1_ok nmX1 ke47 5 (by decide) qF_X1_28 rfl (by decide +kernel) rfl rfl (Nat.le_of_ble_eq_true rfl) rfl dX1_answer_76 (fun H locs f60 ef60 hw hS => ?_)
              have h61 : f60 en = some (.inr (1, [.ref nw, .ref na, .ref nq, .ref nr, .int (num ix), .int 3, .int tm, .int sr, .int li, .int lp, .int mi])) := by rw [ef60, va_up_self]
              refine lv_goto (tgt := 95) hx hb dX1_answer_79 (by decide) ?_
              have n63 : nq ≠ en := hne kq2 ke1 (Nat.ne_of_beq_eq_false rfl)
              have h62 : f60 nq = some (.inl (cI G, 6, .inl gq)) := by rw [ef60, va_up_ne _ _ n63]; exact kq48
              have h64 : f60 nr = some (.inr (3, [hd50, (lastV (Q ++ [(q7, q16)])), .int (nI ((Q ++ [(q7, q16)])).length)])) := by rw [ef60, va_up_ne _ _ (Ne.symm n42)]; exact kr49
              exact hp_vret B0 hw hS hr ⟨Nat.le_of_ble_eq_true rfl, Nat.le_of_ble_eq_true rfl⟩ dX1_answer_95 (⟨rfl, ⟨_, hN31, (by rw [show ansS ga (rk, ri, rx, rv) (st, li, sr, tm, lp, mi, ix, gq, L) = (3, li, sr, tm, lp, mi, ix, gq, (L ++ [(kindF ga rv, ri, ix, toldF ga rv (kindF ga rv))])) from congrArg (fun z9 => addS (z9, li, sr, tm, lp, mi, ix, gq, L) (kindF ga rv, ri, ix, toldF ga rv (kindF ga rv))) (show ansT st (kindF ga rv) = 3 from (if_pos c52).trans (if_pos c53))]; exact (show EX G f60 en nw na nq nr (3, li, sr, tm, lp, mi, ix, gq, (L ++ [(kindF ga rv, ri, ix, toldF ga rv (kindF ga rv))])) (Q ++ [(q7, q16)]) from ⟨h61, h62, ⟨_, h64, (CH.kp (show hK2 [en, nq, nr] [] f32 f60 from (by rw [ef60]; exact hK2.up List.mem_cons_self)) hc51 (EX.cu (hE46)) (EX.sf (hE46)))⟩, (hE46).2.2.2.1, (hE46).2.2.2.2.1, (hE).2.2.2.2.2⟩)), (hK2.trn w8 ((show hK2 [q7, en, nq, nr] Q f f9 from (by rw [ef9]; exact hK2.new w8)).tr (hK2.trn w17 ((show hK2 [q16, q7, en, nq, nr] Q f9 f15 from (by rw [e18]; exact hK2.new w17)).tr ((show hK2 [q16, q7, en, nq, nr] Q f15 f21 from (by rw [e22]; exact hK2.up (List.mem_cons_of_mem _ List.mem_cons_self))).tr ((show hK2 [q16, q7, en, nq, nr] Q f21 f32 from (k34.mono (sub_cons (List.mem_cons_of_mem _ (List.mem_cons_of_mem _ (List.mem_cons_of_mem _ (List.mem_cons_of_mem _ List.mem_cons_self)))) sub_nil))).trq (show hK2 [q16, q7, en, nq, nr] (Q ++ [(q7, q16)]) f32 f60 from (by rw [ef60]; exact hK2.up (List.mem_cons_of_mem _ (List.mem_cons_of_mem _ List.mem_cons_self)))) (fun c9 h9 => (hN31 c9 h9).1)))))))⟩⟩)
          · refine lv_aload_n hx hb dX1_answer_43 rfl (lv_at hl9 1 rfl) ?_
            refine lv_aload_n hx hb dX1_answer_44 rfl (lv_at hl9 1 rfl) ?_
            refine hp_get B0 hw 1 rfl in_X1 ke47 5 (by decide) qF_X1_28 rfl dX1_answer_45 ?_
            refine lv_iconst (v := 3) hx hb dX1_answer_48 (by decide) ?_
            refine lv_icmp_ne (tgt := 56) hx hb dX1_answer_49 (by decide) (fun c65 => ?_) (fun c65 => ?_)
            · refine lv_aload_n hx hb dX1_answer_56 rfl (lv_at hl9 1 rfl) ?_
              refine hp_get B0 hw 1 rfl in_X1 ke47 5 (by decide) qF_X1_28 rfl dX1_answer_57 ?_
              refine hp_put (fs1 := [.ref nw, .ref na, .ref nq, .ref nr, .int (num ix), .int st, .int tm, .int sr, .int li, .int lp, .int mi]) (ty := .int) B0 hw hS 1 rfl in_X1 tyX1 tyX1_ok nmX1 ke47 5 (by decide) qF_X1_28 rfl (by decide +kernel) rfl rfl (Nat.le_of_ble_eq_true rfl) rfl dX1_answer_60 (fun H locs f66 ef66 hw hS => ?_)
              have h67 : f66 en = some (.inr (1, [.ref nw, .ref na, .ref nq, .ref nr, .int (num ix), .int st, .int tm, .int sr, .int li, .int lp, .int mi])) := by rw [ef66, va_up_self]
              refine lv_goto (tgt := 95) hx hb dX1_answer_63 (by decide) ?_
              have n69 : nq ≠ en := hne kq2 ke1 (Nat.ne_of_beq_eq_false rfl)
              have h68 : f66 nq = some (.inl (cI G, 6, .inl gq)) := by rw [ef66, va_up_ne _ _ n69]; exact kq48
              have h70 : f66 nr = some (.inr (3, [hd50, (lastV (Q ++ [(q7, q16)])), .int (nI ((Q ++ [(q7, q16)])).length)])) := by rw [ef66, va_up_ne _ _ (Ne.symm n42)]; exact kr49
              exact hp_vret B0 hw hS hr ⟨Nat.le_of_ble_eq_true rfl, Nat.le_of_ble_eq_true rfl⟩ dX1_answer_95 (⟨rfl, ⟨_, hN31, (by rw [show ansS ga (rk, ri, rx, rv) (st, li, sr, tm, lp, mi, ix, gq, L) = (st, li, sr, tm, lp, mi, ix, gq, (L ++ [(kindF ga rv, ri, ix, toldF ga rv (kindF ga rv))])) from congrArg (fun z9 => addS (z9, li, sr, tm, lp, mi, ix, gq, L) (kindF ga rv, ri, ix, toldF ga rv (kindF ga rv))) (show ansT st (kindF ga rv) = st from (if_neg c52).trans (if_neg c65))]; exact (show EX G f66 en nw na nq nr (st, li, sr, tm, lp, mi, ix, gq, (L ++ [(kindF ga rv, ri, ix, toldF ga rv (kindF ga rv))])) (Q ++ [(q7, q16)]) from ⟨h67, h68, ⟨_, h70, (CH.kp (show hK2 [en, nq, nr] [] f32 f66 from (by rw [ef66]; exact hK2.up List.mem_cons_self)) hc51 (EX.cu (hE46)) (EX.sf (hE46)))⟩, (hE46).2.2.2.1, (hE46).2.2.2.2.1, (hE).2.2.2.2.2⟩)), (hK2.trn w8 ((show hK2 [q7, en, nq, nr] Q f f9 from (by rw [ef9]; exact hK2.new w8)).tr (hK2.trn w17 ((show hK2 [q16, q7, en, nq, nr] Q f9 f15 from (by rw [e18]; exact hK2.new w17)).tr ((show hK2 [q16, q7, en, nq, nr] Q f15 f21 from (by rw [e22]; exact hK2.up (List.mem_cons_of_mem _ List.mem_cons_self))).tr ((show hK2 [q16, q7, en, nq, nr] Q f21 f32 from (k34.mono (sub_cons (List.mem_cons_of_mem _ (List.mem_cons_of_mem _ (List.mem_cons_of_mem _ (List.mem_cons_of_mem _ List.mem_cons_self)))) sub_nil))).trq (show hK2 [q16, q7, en, nq, nr] (Q ++ [(q7, q16)]) f32 f66 from (by rw [ef66]; exact hK2.up (List.mem_cons_of_mem _ (List.mem_cons_of_mem _ List.mem_cons_self)))) (fun c9 h9 => (hN31 c9 h9).1)))))))⟩⟩)
            · refine lv_iconst (v := 1) hx hb dX1_answer_52 (by decide) ?_
              refine lv_goto (tgt := 60) hx hb dX1_answer_53 (by decide) ?_
              refine hp_put (fs1 := [.ref nw, .ref na, .ref nq, .ref nr, .int (num ix), .int 1, .int tm, .int sr, .int li, .int lp, .int mi]) (ty := .int) B0 hw hS 1 rfl in_X1 tyX1 tyX1_ok nmX1 ke47 5 (by decide) qF_X1_28 rfl (by decide +kernel) rfl rfl (Nat.le_of_ble_eq_true rfl) rfl dX1_answer_60 (fun H locs f71 ef71 hw hS => ?_)
              have h72 : f71 en = some (.inr (1, [.ref nw, .ref na, .ref nq, .ref nr, .int (num ix), .int 1, .int tm, .int sr, .int li, .int lp, .int mi])) := by rw [ef71, va_up_self]
              refine lv_goto (tgt := 95) hx hb dX1_answer_63 (by decide) ?_
              have n74 : nq ≠ en := hne kq2 ke1 (Nat.ne_of_beq_eq_false rfl)
              have h73 : f71 nq = some (.inl (cI G, 6, .inl gq)) := by rw [ef71, va_up_ne _ _ n74]; exact kq48
              have h75 : f71 nr = some (.inr (3, [hd50, (lastV (Q ++ [(q7, q16)])), .int (nI ((Q ++ [(q7, q16)])).length)])) := by rw [ef71, va_up_ne _ _ (Ne.symm n42)]; exact kr49
              exact hp_vret B0 hw hS hr ⟨Nat.le_of_ble_eq_true rfl, Nat.le_of_ble_eq_true rfl⟩ dX1_answer_95 (⟨rfl, ⟨_, hN31, (by rw [show ansS ga (rk, ri, rx, rv) (st, li, sr, tm, lp, mi, ix, gq, L) = (1, li, sr, tm, lp, mi, ix, gq, (L ++ [(kindF ga rv, ri, ix, toldF ga rv (kindF ga rv))])) from congrArg (fun z9 => addS (z9, li, sr, tm, lp, mi, ix, gq, L) (kindF ga rv, ri, ix, toldF ga rv (kindF ga rv))) (show ansT st (kindF ga rv) = 1 from (if_neg c52).trans (if_pos c65))]; exact (show EX G f71 en nw na nq nr (1, li, sr, tm, lp, mi, ix, gq, (L ++ [(kindF ga rv, ri, ix, toldF ga rv (kindF ga rv))])) (Q ++ [(q7, q16)]) from ⟨h72, h73, ⟨_, h75, (CH.kp (show hK2 [en, nq, nr] [] f32 f71 from (by rw [ef71]; exact hK2.up List.mem_cons_self)) hc51 (EX.cu (hE46)) (EX.sf (hE46)))⟩, (hE46).2.2.2.1, (hE46).2.2.2.2.1, (hE).2.2.2.2.2⟩)), (hK2.trn w8 ((show hK2 [q7, en, nq, nr] Q f f9 from (by rw [ef9]; exact hK2.new w8)).tr (hK2.trn w17 ((show hK2 [q16, q7, en, nq, nr] Q f9 f15 from (by rw [e18]; exact hK2.new w17)).tr ((show hK2 [q16, q7, en, nq, nr] Q f15 f21 from (by rw [e22]; exact hK2.up (List.mem_cons_of_mem _ List.mem_cons_self))).tr ((show hK2 [q16, q7, en, nq, nr] Q f21 f32 from (k34.mono (sub_cons (List.mem_cons_of_mem _ (List.mem_cons_of_mem _ (List.mem_cons_of_mem _ (List.mem_cons_of_mem _ List.mem_cons_self)))) sub_nil))).trq (show hK2 [q16, q7, en, nq, nr] (Q ++ [(q7, q16)]) f32 f71 from (by rw [ef71]; exact hK2.up (List.mem_cons_of_mem _ (List.mem_cons_of_mem _ List.mem_cons_self)))) (fun c9 h9 => (hN31 c9 h9).1)))))))⟩⟩)

set_option maxHeartbeats 4000000 in
set_option maxRecDepth 100000 in
theorem c_X1_chgX {l : Launch} (hl : l.stackTraces = false) (G : hG) (f : hM) (en nw na nq nr : Nat) (mg st tm sr li lp mi : Int32) (gq : Nat → Int32) (k_en : f en = some (.inr (1, [.ref nw, .ref na, .ref nq, .ref nr, .int mg, .int st, .int tm, .int sr, .int li, .int lp, .int mi]))) (k_nq : f nq = some (.inl (cI G, 6, .inl gq))) (fr u : Nat) (rk ri x3 : Int32) (bh : Value) (rv : Nat → Int32) (k_fr : f fr = some (.inr (2, [.int rk, .int ri, .int x3, .ref u, bh]))) (k_u : f u = some (.inl (cI G, 6, .inl rv))) (huq : u ≠ nq) : CT l yX1_changeAskedFor (.code yX1_changeAskedFor cX1_changeAskedFor 3 none) 0 0 0 0 G [.ref en, .ref fr] f (fun v f1 => v = none ∧ f1 = va_up f nq (some (.inl (cI G, 6, .inl (chgF gq rv rk))))) (fun E f1 => False) := by
  refine hp_start hl (own := RX1) (by decide) rfl (Nat.le_of_ble_eq_true rfl) ?_
  intro p e s m args below meth c B0 hr hnm hout hw hS ls hl9
  have hx := B0.1
  have hb := B0.2.1
  have hl9 : lv_has ls 3 [(0, .ref en), (1, .ref fr)] := hl9
  refine lv_iconst (v := 0) hx hb dX1_changeAskedFor_0 (by decide) ?_
  refine lv_istore_n (lv' := [(2, .int 0), (0, .ref en), (1, .ref fr)]) hx hb dX1_changeAskedFor_1 rfl hl9 (by decide) rfl (fun ls hl9 => ?_)
  refine hp_for (nL := 3) (pc := 2) (fun j f9 lv9 => f9 = va_up f nq (some (.inl (cI G, 6, .inl (chgN gq rv rk j)))) ∧ lv9 = [(2, .int (nI j)), (0, .ref en), (1, .ref fr)]) 6 (fun j f9 lv9 H locs ls hj hI hw hS hl9 ih => ?_) (fun f9 lv9 H locs ls hI hw hS hl9 => ?_) 6 0 (by decide) f _ _ _ ls ⟨va_up_id (by rw [chgN_0]; exact k_nq), rfl⟩ hw hS (lv_sub hl9 [0, 1, 2] rfl)
  · obtain ⟨ef9, el9⟩ := hI
    rw [el9] at hl9
    have h1 : f9 nq = some (.inl (cI G, 6, .inl (chgN gq rv rk j))) := by rw [ef9, va_up_self]
    refine lv_iload_n hx hb dX1_changeAskedFor_2 rfl (lv_at hl9 0 rfl) ?_
    refine lv_bipush (v := 6) hx hb dX1_changeAskedFor_3 (by decide) ?_
    refine lv_icmp_ge (tgt := 48) hx hb dX1_changeAskedFor_5 (by decide) (fun c9 => absurd c9 (by rw [show (6 : Int32) = nI 6 from rfl]; exact nI_ge hj (by omega))) (fun _ => ?_)
    refine lv_aload_n hx hb dX1_changeAskedFor_8 rfl (lv_at hl9 2 rfl) ?_
    have n3 : fr ≠ nq := hne k_fr k_nq (Nat.ne_of_beq_eq_false rfl)
    have h2 : f9 fr = some (.inr (2, [.int rk, .int ri, .int x3, .ref u, bh])) := by rw [ef9, va_up_ne _ _ n3]; exact k_fr
    refine hp_get B0 hw 2 rfl in_X2 h2 3 (by decide) qF_X1_92 rfl dX1_changeAskedFor_9 ?_
    refine lv_iload_n hx hb dX1_changeAskedFor_12 rfl (lv_at hl9 0 rfl) ?_
    have h4 : f9 u = some (.inl (cI G, 6, .inl rv)) := by rw [ef9, va_up_ne _ _ huq]; exact k_u
    refine hp_iald B0 hw h4 (vin6j hj) dX1_changeAskedFor_13 ?_
    refine hp_c (v := (rv j)) (congrArg rv (nI_clamp (by omega))) ?_
    refine lv_iconst (v := (-1)) hx hb dX1_changeAskedFor_14 (by decide) ?_
    refine lv_icmp_eq (tgt := 42) hx hb dX1_changeAskedFor_15 (by decide) (fun c5 => ?_) (fun c5 => ?_)
    · refine lv_iinc (v := (nI (j + 1))) (lv' := [(2, .int (nI (j + 1))), (0, .ref en), (1, .ref fr)]) hx hb dX1_changeAskedFor_42 hl9 (k := 0) rfl (nI_1 j) (by decide) rfl (fun ls hl9 => ?_)
      refine lv_goto (tgt := 2) hx hb dX1_changeAskedFor_45 (by decide) ?_
      exact ih _ _ H locs ls ⟨(by rw [← chgN_k c5]; exact ef9), rfl⟩ hw hS (lv_sub hl9 [0, 1, 2] rfl)
    · refine lv_aload_n hx hb dX1_changeAskedFor_18 rfl (lv_at hl9 1 rfl) ?_
      have n7 : en ≠ nq := hne k_en k_nq (Nat.ne_of_beq_eq_false rfl)
      have h6 : f9 en = some (.inr (1, [.ref nw, .ref na, .ref nq, .ref nr, .int mg, .int st, .int tm, .int sr, .int li, .int lp, .int mi])) := by rw [ef9, va_up_ne _ _ n7]; exact k_en
      refine hp_get B0 hw 1 rfl in_X1 h6 2 (by decide) qF_X1_18 rfl dX1_changeAskedFor_19 ?_
      refine lv_iload_n hx hb dX1_changeAskedFor_22 rfl (lv_at hl9 0 rfl) ?_
      refine lv_aload_n hx hb dX1_changeAskedFor_23 rfl (lv_at hl9 2 rfl) ?_
      refine hp_get B0 hw 2 rfl in_X2 h2 0 (by decide) qF_X1_70 rfl dX1_changeAskedFor_24 ?_
      refine lv_iconst (v := 2) hx hb dX1_changeAskedFor_27 (by decide) ?_
      refine lv_icmp_ne (tgt := 40) hx hb dX1_changeAskedFor_28 (by decide) (fun c8 => ?_) (fun c8 => ?_)
      · refine lv_iconst (v := (-1)) hx hb dX1_changeAskedFor_40 (by decide) ?_
        refine hp_iast B0 hw hS h1 (vin6j hj) dX1_changeAskedFor_41 (fun H locs f9 ef9 hw hS => ?_)
        have e10 : f9 = va_up f nq (some (.inl (cI G, 6, .inl (upd (chgN gq rv rk j) ((nI j) : Int32).toNatClampNeg (-1))))) := by rw [ef9, ef9, bx_uu]
        have h11 : f9 nq = some (.inl (cI G, 6, .inl (upd (chgN gq rv rk j) ((nI j) : Int32).toNatClampNeg (-1)))) := by rw [ef9, va_up_self]
        refine lv_iinc (v := (nI (j + 1))) (lv' := [(2, .int (nI (j + 1))), (0, .ref en), (1, .ref fr)]) hx hb dX1_changeAskedFor_42 hl9 (k := 0) rfl (nI_1 j) (by decide) rfl (fun ls hl9 => ?_)
        refine lv_goto (tgt := 2) hx hb dX1_changeAskedFor_45 (by decide) ?_
        exact ih _ _ H locs ls ⟨(by rw [e10, chgN_s (nI_clamp (by omega)) c5 (if_neg c8)]), rfl⟩ hw hS (lv_sub hl9 [0, 1, 2] rfl)
      · refine lv_aload_n hx hb dX1_changeAskedFor_31 rfl (lv_at hl9 2 rfl) ?_
        refine hp_get B0 hw 2 rfl in_X2 h2 3 (by decide) qF_X1_92 rfl dX1_changeAskedFor_32 ?_
        refine lv_iload_n hx hb dX1_changeAskedFor_35 rfl (lv_at hl9 0 rfl) ?_
        refine hp_iald B0 hw h4 (vin6j hj) dX1_changeAskedFor_36 ?_
        refine hp_c (v := (rv j)) (congrArg rv (nI_clamp (by omega))) ?_
        refine lv_goto (tgt := 41) hx hb dX1_changeAskedFor_37 (by decide) ?_
        refine hp_iast B0 hw hS h1 (vin6j hj) dX1_changeAskedFor_41 (fun H locs f12 ef12 hw hS => ?_)
        have e13 : f12 = va_up f nq (some (.inl (cI G, 6, .inl (upd (chgN gq rv rk j) ((nI j) : Int32).toNatClampNeg (rv j))))) := by rw [ef12, ef9, bx_uu]
        have h14 : f12 nq = some (.inl (cI G, 6, .inl (upd (chgN gq rv rk j) ((nI j) : Int32).toNatClampNeg (rv j)))) := by rw [ef12, va_up_self]
        refine lv_iinc (v := (nI (j + 1))) (lv' := [(2, .int (nI (j + 1))), (0, .ref en), (1, .ref fr)]) hx hb dX1_changeAskedFor_42 hl9 (k := 0) rfl (nI_1 j) (by decide) rfl (fun ls hl9 => ?_)
        refine lv_goto (tgt := 2) hx hb dX1_changeAskedFor_45 (by decide) ?_
        exact ih _ _ H locs ls ⟨(by rw [e13, chgN_s (nI_clamp (by omega)) c5 (if_pos c8)]), rfl⟩ hw hS (lv_sub hl9 [0, 1, 2] rfl)
  · obtain ⟨ef9, el9⟩ := hI
    rw [el9] at hl9
    have h15 : f9 nq = some (.inl (cI G, 6, .inl (chgN gq rv rk 6))) := by rw [ef9, va_up_self]
    refine lv_iload_n hx hb dX1_changeAskedFor_2 rfl (lv_at hl9 0 rfl) ?_
    refine lv_bipush (v := 6) hx hb dX1_changeAskedFor_3 (by decide) ?_
    refine lv_icmp_ge (tgt := 48) hx hb dX1_changeAskedFor_5 (by decide) (fun _ => ?_) (fun c9 => absurd (by decide) c9)
    exact hp_vret B0 hw hS hr ⟨Nat.le_of_ble_eq_true rfl, Nat.le_of_ble_eq_true rfl⟩ dX1_changeAskedFor_48 (⟨rfl, ef9⟩)

set_option maxHeartbeats 4000000 in
set_option maxRecDepth 100000 in
theorem c_X1_hearQX {l : Launch} (hl : l.stackTraces = false) (G : hG) (f : hM) (en nw na nq nr : Nat) (st li sr tm lp mi ix : Int32) (gq : Nat → Int32) (L : List Fr) (Q : List (Nat × Nat)) (hE : EX G f en nw na nq nr (st, li, sr, tm, lp, mi, ix, gq, L) Q) (hn : Q.length < 3900) (ga : Nat → Int32) (k_na : f na = some (.inl (cI G, 6, .inl ga))) (haq : na ≠ nq) (fr u : Nat) (rk ri rx : Int32) (rv : Nat → Int32) (nx : Value) (k_fr : f fr = some (.inr (2, [.int rk, .int ri, .int (mgF (rk, ri, rx, rv)), .ref u, nx]))) (k_u : f u = some (.inl (cI G, 6, .inl rv))) (hfQ : fr ∉ ws Q) (huq : u ≠ nq) (hk0 : rk = 0) : CT l yX1_hearRequest (.code yX1_hearRequest cX1_hearRequest 2 none) 4 90 4 22 G [.ref en, .ref fr] f (fun v f1 => v = none ∧ XP G f f1 en nw na nq nr Q (hearQ ga (rk, ri, rx, rv) (st, li, sr, tm, lp, mi, ix, gq, L))) (fun E f1 => False) := by
  refine hp_start hl (own := RX1) (by decide) rfl (Nat.le_of_ble_eq_true rfl) ?_
  intro p e s m args below meth c B0 hr hnm hout hw hS ls hl9
  have hx := B0.1
  have hb := B0.2.1
  have hl9 : lv_has ls 2 [(0, .ref en), (1, .ref fr)] := hl9
  have k_fr : f fr = some (.inr (2, [.int rk, .int ri, .int (num rx), .ref u, nx])) := by rw [← show mgF (rk, ri, rx, rv) = num rx from if_pos hk0]; exact k_fr
  have ke1 : f en = some (.inr (1, [.ref nw, .ref na, .ref nq, .ref nr, .int (num ix), .int st, .int tm, .int sr, .int li, .int lp, .int mi])) := (hE).1
  have kq2 : f nq = some (.inl (cI G, 6, .inl gq)) := (hE).2.1
  obtain ⟨hd4, kr3, hc5⟩ := (hE).2.2.1
  refine lv_aload_n hx hb dX1_hearRequest_0 rfl (lv_at hl9 0 rfl) ?_
  refine lv_aload_n hx hb dX1_hearRequest_1 rfl (lv_at hl9 1 rfl) ?_
  refine hp_get B0 hw 2 rfl in_X2 k_fr 2 (by decide) qF_X1_82 rfl dX1_hearRequest_2 ?_
  refine lv_aload_n hx hb dX1_hearRequest_5 rfl (lv_at hl9 0 rfl) ?_
  refine hp_get B0 hw 1 rfl in_X1 ke1 4 (by decide) qF_X1_48 rfl dX1_hearRequest_6 ?_
  refine lv_icmp_ne (tgt := 16) hx hb dX1_hearRequest_9 (by decide) (fun c6 => ?_) (fun c6 => ?_)
  · refine lv_iconst (v := 0) hx hb dX1_hearRequest_16 (by decide) ?_
    refine hp_put (fs1 := [.ref nw, .ref na, .ref nq, .ref nr, .int (num ix), .int st, .int tm, .int sr, .int li, .int 0, .int mi]) (ty := .boolean) B0 hw hS 1 rfl in_X1 tyX1 tyX1_ok nmX1 ke1 9 (by decide) qF_X1_41 rfl (by decide +kernel) rfl rfl (Nat.le_of_ble_eq_true rfl) rfl dX1_hearRequest_17 (fun H locs f7 ef7 hw hS => ?_)
    have h8 : f7 en = some (.inr (1, [.ref nw, .ref na, .ref nq, .ref nr, .int (num ix), .int st, .int tm, .int sr, .int li, .int 0, .int mi])) := by rw [ef7, va_up_self]
    refine lv_aload_n hx hb dX1_hearRequest_20 rfl (lv_at hl9 0 rfl) ?_
    refine hp_get B0 hw 1 rfl in_X1 h8 9 (by decide) qF_X1_41 rfl dX1_hearRequest_21 ?_
    refine lv_if_eq (tgt := 28) hx hb dX1_hearRequest_24 (by decide) (fun _ => ?_) (fun c9 => absurd (by decide) c9)
    refine lv_aload_n hx hb dX1_hearRequest_28 rfl (lv_at hl9 0 rfl) ?_
    refine hp_get B0 hw 1 rfl in_X1 h8 5 (by decide) qF_X1_28 rfl dX1_hearRequest_29 ?_
    refine lv_if_ne (tgt := 40) hx hb dX1_hearRequest_32 (by decide) (fun c9 => ?_) (fun c9 => ?_)
    · refine lv_aload_n hx hb dX1_hearRequest_40 rfl (lv_at hl9 0 rfl) ?_
      refine hp_get B0 hw 1 rfl in_X1 h8 5 (by decide) qF_X1_28 rfl dX1_hearRequest_41 ?_
      refine lv_iconst (v := 4) hx hb dX1_hearRequest_44 (by decide) ?_
      refine lv_icmp_ne (tgt := 61) hx hb dX1_hearRequest_45 (by decide) (fun c10 => ?_) (fun c10 => ?_)
      · refine lv_aload_n hx hb dX1_hearRequest_61 rfl (lv_at hl9 0 rfl) ?_
        refine lv_aload_n hx hb dX1_hearRequest_62 rfl (lv_at hl9 1 rfl) ?_
        have n12 : nq ≠ en := hne kq2 ke1 (Nat.ne_of_beq_eq_false rfl)
        have h11 : f7 nq = some (.inl (cI G, 6, .inl gq)) := by rw [ef7, va_up_ne _ _ n12]; exact kq2
        have n14 : nr ≠ en := hne kr3 ke1 (Nat.ne_of_beq_eq_false rfl)
        have h13 : f7 nr = some (.inr (3, [hd4, (lastV Q), .int (nI (Q).length)])) := by rw [ef7, va_up_ne _ _ n14]; exact kr3
        have n16 : fr ≠ en := hne k_fr ke1 (Nat.ne_of_beq_eq_false rfl)
        have h15 : f7 fr = some (.inr (2, [.int rk, .int ri, .int (num rx), .ref u, nx])) := by rw [ef7, va_up_ne _ _ n16]; exact k_fr
        have n18 : u ≠ en := hne k_u ke1 (Nat.ne_of_beq_eq_false rfl)
        have h17 : f7 u = some (.inl (cI G, 6, .inl rv)) := by rw [ef7, va_up_ne _ _ n18]; exact k_u
        have n20 : na ≠ en := hne k_na ke1 (Nat.ne_of_beq_eq_false rfl)
        have h19 : f7 na = some (.inl (cI G, 6, .inl ga)) := by rw [ef7, va_up_ne _ _ n20]; exact k_na
        refine hp_V (ci := 1) (As := [.ref fr]) (rest := []) B0 hw hS (c_X1_answerX hl G f7 en nw na nq nr st li sr tm 0 mi ix gq L Q (show EX G f7 en nw na nq nr (st, li, sr, tm, 0, mi, ix, gq, L) Q from ⟨h8, h11, ⟨_, h13, (CH.kp (show hK2 [en, nq, nr] [] f f7 from (by rw [ef7]; exact hK2.up List.mem_cons_self)) hc5 (EX.cu (hE)) (EX.sf (hE)))⟩, (hE).2.2.2.1, (hE).2.2.2.2.1, rfl⟩) (Nat.lt_trans hn (by decide)) ga h19 haq fr u rk ri rx rv nx (by rw [show mgF (rk, ri, rx, rv) = num rx from if_pos hk0]; exact h15) h17 hfQ huq) mV_X1_answer qM_X1_83 rfl h8 rfl rfl hl9.1 (Nat.le_of_ble_eq_true rfl) ⟨⟨Nat.le_of_ble_eq_true rfl, Nat.le_of_ble_eq_true rfl⟩, Nat.le_of_ble_eq_true rfl, Nat.le_of_ble_eq_true rfl⟩ dX1_hearRequest_63 (fun E ce q9 f21 H locs hPX hw hS hce hcv hcl => ?_) (fun v f21 H locs hP hw hS => ?_)
        · exact hPX.elim
        · obtain ⟨ev9, x22⟩ := hP
          subst ev9
          refine W.eq (g2 := F0 m 66 ls []) rfl ?_
          exact hp_vret B0 hw hS hr ⟨Nat.le_of_ble_eq_true rfl, Nat.le_of_ble_eq_true rfl⟩ dX1_hearRequest_66 (⟨rfl, (XP.tr (N := []) (fun c9 h9 => nomatch h9) (show hK2 [en, nq, nr] Q f f7 from (by rw [ef7]; exact hK2.up List.mem_cons_self)) (by rw [List.append_nil]; exact (by rw [show hearQ ga (rk, ri, rx, rv) (st, li, sr, tm, lp, mi, ix, gq, L) = ansS ga (rk, ri, rx, rv) (st, li, sr, tm, 0, mi, ix, gq, L) from ((if_neg c6).trans (if_neg c9)).trans (if_neg c10)]; exact x22)))⟩)
      · refine lv_aload_n hx hb dX1_hearRequest_48 rfl (lv_at hl9 0 rfl) ?_
        have n24 : nq ≠ en := hne kq2 ke1 (Nat.ne_of_beq_eq_false rfl)
        have h23 : f7 nq = some (.inl (cI G, 6, .inl gq)) := by rw [ef7, va_up_ne _ _ n24]; exact kq2
        have n26 : nr ≠ en := hne kr3 ke1 (Nat.ne_of_beq_eq_false rfl)
        have h25 : f7 nr = some (.inr (3, [hd4, (lastV Q), .int (nI (Q).length)])) := by rw [ef7, va_up_ne _ _ n26]; exact kr3
        refine hp_V (ci := 1) (As := []) (rest := []) B0 hw hS (c_X1_askX hl G f7 en nw na nq nr st li sr tm 0 mi ix gq L Q (show EX G f7 en nw na nq nr (st, li, sr, tm, 0, mi, ix, gq, L) Q from ⟨h8, h23, ⟨_, h25, (CH.kp (show hK2 [en, nq, nr] [] f f7 from (by rw [ef7]; exact hK2.up List.mem_cons_self)) hc5 (EX.cu (hE)) (EX.sf (hE)))⟩, (hE).2.2.2.1, (hE).2.2.2.2.1, rfl⟩) (Nat.lt_trans hn (by decide))) mV_X1_ask qM_X1_63 rfl h8 rfl rfl hl9.1 (Nat.le_of_ble_eq_true rfl) ⟨⟨Nat.le_of_ble_eq_true rfl, Nat.le_of_ble_eq_true rfl⟩, Nat.le_of_ble_eq_true rfl, Nat.le_of_ble_eq_true rfl⟩ dX1_hearRequest_49 (fun E ce q9 f27 H locs hPX hw hS hce hcv hcl => ?_) (fun v f27 H locs hP hw hS => ?_)
        · exact hPX.elim
        · rcases hP with ⟨c28, ev9, w29, u30, hw31, hu32, hE33, k34⟩ | ⟨c28, ev9, hE33, k34⟩
          · subst ev9
            have hN35 : ∀ c9 ∈ [(w29, u30)], f7 c9.1 = none ∧ f7 c9.2 = none := fun c9 hc9 => by rw [List.mem_singleton.mp hc9]; exact ⟨hw31, hu32⟩
            have ke36 : f27 en = some (.inr (1, [.ref nw, .ref na, .ref nq, .ref nr, .int (num ix), .int st, .int 3, .int (sr + 1), .int (li + 1), .int 0, .int mi])) := (hE33).1
            have kq37 : f27 nq = some (.inl (cI G, 6, .inl gq)) := (hE33).2.1
            obtain ⟨hd39, kr38, hc40⟩ := (hE33).2.2.1
            refine W.eq (g2 := F0 m 52 ls [.int 1]) rfl ?_
            refine lv_if_ne (tgt := 56) hx hb dX1_hearRequest_52 (by decide) (fun _ => ?_) (fun c9 => absurd c9 (by decide))
            refine lv_aload_n hx hb dX1_hearRequest_56 rfl (lv_at hl9 0 rfl) ?_
            refine lv_iconst (v := 1) hx hb dX1_hearRequest_57 (by decide) ?_
            refine hp_put (fs1 := [.ref nw, .ref na, .ref nq, .ref nr, .int (num ix), .int 1, .int 3, .int (sr + 1), .int (li + 1), .int 0, .int mi]) (ty := .int) B0 hw hS 1 rfl in_X1 tyX1 tyX1_ok nmX1 ke36 5 (by decide) qF_X1_28 rfl (by decide +kernel) rfl rfl (Nat.le_of_ble_eq_true rfl) rfl dX1_hearRequest_58 (fun H locs f41 ef41 hw hS => ?_)
            have h42 : f41 en = some (.inr (1, [.ref nw, .ref na, .ref nq, .ref nr, .int (num ix), .int 1, .int 3, .int (sr + 1), .int (li + 1), .int 0, .int mi])) := by rw [ef41, va_up_self]
            refine lv_aload_n hx hb dX1_hearRequest_61 rfl (lv_at hl9 0 rfl) ?_
            refine lv_aload_n hx hb dX1_hearRequest_62 rfl (lv_at hl9 1 rfl) ?_
            have h43 : f41 nq = some (.inl (cI G, 6, .inl gq)) := by rw [ef41, va_up_ne _ _ n24]; exact kq37
            have h44 : f41 nr = some (.inr (3, [hd39, (lastV (Q ++ [(w29, u30)])), .int (nI ((Q ++ [(w29, u30)])).length)])) := by rw [ef41, va_up_ne _ _ n26]; exact kr38
            have n46 : fr ≠ en := hne k_fr ke1 (Nat.ne_of_beq_eq_false rfl)
            have h45 : f7 fr = some (.inr (2, [.int rk, .int ri, .int (num rx), .ref u, nx])) := by rw [ef7, va_up_ne _ _ n46]; exact k_fr
            have n47 : fr ≠ nr := hne k_fr kr3 (Nat.ne_of_beq_eq_false rfl)
            have h48 : f27 fr = some (.inr (2, [.int rk, .int ri, .int (num rx), .ref u, nx])) := k34.2 _ _ h45 (ninc n46 (ninc n47 nin0)) (fun _ => hfQ)
            have h49 : f41 fr = some (.inr (2, [.int rk, .int ri, .int (num rx), .ref u, nx])) := by rw [ef41, va_up_ne _ _ n46]; exact h48
            have n51 : u ≠ en := hne k_u ke1 (Nat.ne_of_beq_eq_false rfl)
            have h50 : f7 u = some (.inl (cI G, 6, .inl rv)) := by rw [ef7, va_up_ne _ _ n51]; exact k_u
            have n52 : u ≠ nr := hne k_u kr3 (Nat.ne_of_beq_eq_false rfl)
            have h53 : f27 u = some (.inl (cI G, 6, .inl rv)) := k34.2 _ _ h50 (ninc n51 (ninc n52 nin0)) (fun t9 => absurd t9 (Nat.ne_of_beq_eq_false rfl))
            have h54 : f41 u = some (.inl (cI G, 6, .inl rv)) := by rw [ef41, va_up_ne _ _ n51]; exact h53
            have n56 : na ≠ en := hne k_na ke1 (Nat.ne_of_beq_eq_false rfl)
            have h55 : f7 na = some (.inl (cI G, 6, .inl ga)) := by rw [ef7, va_up_ne _ _ n56]; exact k_na
            have n57 : na ≠ nr := hne k_na kr3 (Nat.ne_of_beq_eq_false rfl)
            have h58 : f27 na = some (.inl (cI G, 6, .inl ga)) := k34.2 _ _ h55 (ninc n56 (ninc n57 nin0)) (fun t9 => absurd t9 (Nat.ne_of_beq_eq_false rfl))
            have h59 : f41 na = some (.inl (cI G, 6, .inl ga)) := by rw [ef41, va_up_ne _ _ n56]; exact h58
            refine hp_V (ci := 1) (As := [.ref fr]) (rest := []) B0 hw hS (c_X1_answerX hl G f41 en nw na nq nr 1 (li + 1) (sr + 1) 3 0 mi ix gq (L ++ [(0, li + 1, ix, gq)]) (Q ++ [(w29, u30)]) (show EX G f41 en nw na nq nr (1, (li + 1), (sr + 1), 3, 0, mi, ix, gq, (L ++ [(0, li + 1, ix, gq)])) (Q ++ [(w29, u30)]) from ⟨h42, h43, ⟨_, h44, (CH.kp (show hK2 [en, nq, nr] [] f27 f41 from (by rw [ef41]; exact hK2.up List.mem_cons_self)) hc40 (EX.cu (hE33)) (EX.sf (hE33)))⟩, (hE33).2.2.2.1, (hE33).2.2.2.2.1, rfl⟩) (by rw [List.length_append]; exact Nat.lt_of_lt_of_le (Nat.add_lt_add_right hn 1) (by decide)) ga h59 haq fr u rk ri rx rv nx (by rw [show mgF (rk, ri, rx, rv) = num rx from if_pos hk0]; exact h49) h54 (nws hfQ (nwsN h45 hN35)) huq) mV_X1_answer qM_X1_83 rfl h42 rfl rfl hl9.1 (Nat.le_of_ble_eq_true rfl) ⟨⟨Nat.le_of_ble_eq_true rfl, Nat.le_of_ble_eq_true rfl⟩, Nat.le_of_ble_eq_true rfl, Nat.le_of_ble_eq_true rfl⟩ dX1_hearRequest_63 (fun E ce q9 f60 H locs hPX hw hS hce hcv hcl => ?_) (fun v f60 H locs hP hw hS => ?_)
            · exact hPX.elim
            · obtain ⟨ev9, x61⟩ := hP
              subst ev9
              refine W.eq (g2 := F0 m 66 ls []) rfl ?_
              exact hp_vret B0 hw hS hr ⟨Nat.le_of_ble_eq_true rfl, Nat.le_of_ble_eq_true rfl⟩ dX1_hearRequest_66 (⟨rfl, (XP.tr (fun c9 h9 => ⟨(show hK2 [en] [] f f7 from (by rw [ef7]; exact hK2.up List.mem_cons_self)).1 _ (hN35 c9 h9).1, (show hK2 [en] [] f f7 from (by rw [ef7]; exact hK2.up List.mem_cons_self)).1 _ (hN35 c9 h9).2⟩) ((show hK2 [en, nq, nr] Q f f7 from (by rw [ef7]; exact hK2.up List.mem_cons_self)).tr ((show hK2 [en, nq, nr] Q f7 f27 from (k34.mono (sub_cons List.mem_cons_self (sub_cons (List.mem_cons_of_mem _ (List.mem_cons_of_mem _ List.mem_cons_self)) sub_nil)))).trq (show hK2 [en, nq, nr] (Q ++ [(w29, u30)]) f27 f41 from (by rw [ef41]; exact hK2.up List.mem_cons_self)) (fun c9 h9 => (hN35 c9 h9).1))) (by rw [show hearQ ga (rk, ri, rx, rv) (st, li, sr, tm, lp, mi, ix, gq, L) = ansS ga (rk, ri, rx, rv) (1, (li + 1), (sr + 1), 3, 0, mi, ix, gq, (L ++ [(0, li + 1, ix, gq)])) from ((((if_neg c6).trans (if_neg c9)).trans (if_pos c10)).trans (if_pos c28)).trans (by rw [show begS (lpS (st, li, sr, tm, lp, mi, ix, gq, L) 0) = _ from if_pos c28])]; exact x61))⟩)
          · subst ev9
            have ke62 : f27 en = some (.inr (1, [.ref nw, .ref na, .ref nq, .ref nr, .int (num ix), .int 0, .int tm, .int sr, .int li, .int 0, .int mi])) := (hE33).1
            have kq63 : f27 nq = some (.inl (cI G, 6, .inl gq)) := (hE33).2.1
            obtain ⟨hd65, kr64, hc66⟩ := (hE33).2.2.1
            refine W.eq (g2 := F0 m 52 ls [.int 0]) rfl ?_
            refine lv_if_ne (tgt := 56) hx hb dX1_hearRequest_52 (by decide) (fun c9 => absurd (by decide) c9) (fun _ => ?_)
            exact hp_vret B0 hw hS hr ⟨Nat.le_of_ble_eq_true rfl, Nat.le_of_ble_eq_true rfl⟩ dX1_hearRequest_55 (⟨rfl, (XP.zero (by rw [show hearQ ga (rk, ri, rx, rv) (st, li, sr, tm, lp, mi, ix, gq, L) = (0, li, sr, tm, 0, mi, ix, gq, L) from (((if_neg c6).trans (if_neg c9)).trans (if_pos c10)).trans (if_neg c28)]; exact (show EX G f27 en nw na nq nr (0, li, sr, tm, 0, mi, ix, gq, L) Q from ⟨ke62, kq63, ⟨_, kr64, hc66⟩, (hE33).2.2.2.1, (hE33).2.2.2.2.1, rfl⟩)) ((show hK2 [en, nq, nr] Q f f7 from (by rw [ef7]; exact hK2.up List.mem_cons_self)).tr (show hK2 [en, nq, nr] Q f7 f27 from (k34.mono (sub_cons List.mem_cons_self (sub_cons (List.mem_cons_of_mem _ (List.mem_cons_of_mem _ List.mem_cons_self)) sub_nil))))))⟩)
    · refine lv_aload_n hx hb dX1_hearRequest_35 rfl (lv_at hl9 0 rfl) ?_
      have n68 : nq ≠ en := hne kq2 ke1 (Nat.ne_of_beq_eq_false rfl)
      have h67 : f7 nq = some (.inl (cI G, 6, .inl gq)) := by rw [ef7, va_up_ne _ _ n68]; exact kq2
      have n70 : nr ≠ en := hne kr3 ke1 (Nat.ne_of_beq_eq_false rfl)
      have h69 : f7 nr = some (.inr (3, [hd4, (lastV Q), .int (nI (Q).length)])) := by rw [ef7, va_up_ne _ _ n70]; exact kr3
      refine hp_V (ci := 1) (As := []) (rest := []) B0 hw hS (c_X1_sendStopX hl G f7 en nw na nq nr st li sr tm 0 mi ix gq L Q (show EX G f7 en nw na nq nr (st, li, sr, tm, 0, mi, ix, gq, L) Q from ⟨h8, h67, ⟨_, h69, (CH.kp (show hK2 [en, nq, nr] [] f f7 from (by rw [ef7]; exact hK2.up List.mem_cons_self)) hc5 (EX.cu (hE)) (EX.sf (hE)))⟩, (hE).2.2.2.1, (hE).2.2.2.2.1, rfl⟩) (Nat.lt_trans hn (by decide))) mV_X1_sendStop qM_X1_67 rfl h8 rfl rfl hl9.1 (Nat.le_of_ble_eq_true rfl) ⟨⟨Nat.le_of_ble_eq_true rfl, Nat.le_of_ble_eq_true rfl⟩, Nat.le_of_ble_eq_true rfl, Nat.le_of_ble_eq_true rfl⟩ dX1_hearRequest_36 (fun E ce q9 f71 H locs hPX hw hS hce hcv hcl => ?_) (fun v f71 H locs hP hw hS => ?_)
      · exact hPX.elim
      · obtain ⟨ev9, w72, u73, hw74, hu75, hE76, k77⟩ := hP
        subst ev9
        have hN78 : ∀ c9 ∈ [(w72, u73)], f7 c9.1 = none ∧ f7 c9.2 = none := fun c9 hc9 => by rw [List.mem_singleton.mp hc9]; exact ⟨hw74, hu75⟩
        have ke79 : f71 en = some (.inr (1, [.ref nw, .ref na, .ref nq, .ref nr, .int (num ix), .int st, .int tm, .int sr, .int li, .int 0, .int mi])) := (hE76).1
        have kq80 : f71 nq = some (.inl (cI G, 6, .inl gq)) := (hE76).2.1
        obtain ⟨hd82, kr81, hc83⟩ := (hE76).2.2.1
        refine W.eq (g2 := F0 m 39 ls []) rfl ?_
        exact hp_vret B0 hw hS hr ⟨Nat.le_of_ble_eq_true rfl, Nat.le_of_ble_eq_true rfl⟩ dX1_hearRequest_39 (⟨rfl, ⟨_, (fun c9 h9 => ⟨(show hK2 [en] [] f f7 from (by rw [ef7]; exact hK2.up List.mem_cons_self)).1 _ (hN78 c9 h9).1, (show hK2 [en] [] f f7 from (by rw [ef7]; exact hK2.up List.mem_cons_self)).1 _ (hN78 c9 h9).2⟩), (by rw [show hearQ ga (rk, ri, rx, rv) (st, li, sr, tm, lp, mi, ix, gq, L) = (st, li, sr, tm, 0, mi, ix, gq, (L ++ [(4, 0, ix, N6)])) from (if_neg c6).trans (if_pos c9)]; exact (show EX G f71 en nw na nq nr (st, li, sr, tm, 0, mi, ix, gq, (L ++ [(4, 0, ix, N6)])) (Q ++ [(w72, u73)]) from ⟨ke79, kq80, ⟨_, kr81, hc83⟩, (hE76).2.2.2.1, (hE76).2.2.2.2.1, rfl⟩)), ((show hK2 [en, nq, nr] Q f f7 from (by rw [ef7]; exact hK2.up List.mem_cons_self)).tr (show hK2 [en, nq, nr] Q f7 f71 from (k77.mono (sub_cons List.mem_cons_self (sub_cons (List.mem_cons_of_mem _ (List.mem_cons_of_mem _ List.mem_cons_self)) sub_nil)))))⟩⟩)
  · refine lv_iconst (v := 1) hx hb dX1_hearRequest_12 (by decide) ?_
    refine lv_goto (tgt := 17) hx hb dX1_hearRequest_13 (by decide) ?_
    refine hp_put (fs1 := [.ref nw, .ref na, .ref nq, .ref nr, .int (num ix), .int st, .int tm, .int sr, .int li, .int 1, .int mi]) (ty := .boolean) B0 hw hS 1 rfl in_X1 tyX1 tyX1_ok nmX1 ke1 9 (by decide) qF_X1_41 rfl (by decide +kernel) rfl rfl (Nat.le_of_ble_eq_true rfl) rfl dX1_hearRequest_17 (fun H locs f84 ef84 hw hS => ?_)
    have h85 : f84 en = some (.inr (1, [.ref nw, .ref na, .ref nq, .ref nr, .int (num ix), .int st, .int tm, .int sr, .int li, .int 1, .int mi])) := by rw [ef84, va_up_self]
    refine lv_aload_n hx hb dX1_hearRequest_20 rfl (lv_at hl9 0 rfl) ?_
    refine hp_get B0 hw 1 rfl in_X1 h85 9 (by decide) qF_X1_41 rfl dX1_hearRequest_21 ?_
    refine lv_if_eq (tgt := 28) hx hb dX1_hearRequest_24 (by decide) (fun c9 => absurd c9 (by decide)) (fun _ => ?_)
    have n87 : nq ≠ en := hne kq2 ke1 (Nat.ne_of_beq_eq_false rfl)
    have h86 : f84 nq = some (.inl (cI G, 6, .inl gq)) := by rw [ef84, va_up_ne _ _ n87]; exact kq2
    have n89 : nr ≠ en := hne kr3 ke1 (Nat.ne_of_beq_eq_false rfl)
    have h88 : f84 nr = some (.inr (3, [hd4, (lastV Q), .int (nI (Q).length)])) := by rw [ef84, va_up_ne _ _ n89]; exact kr3
    exact hp_vret B0 hw hS hr ⟨Nat.le_of_ble_eq_true rfl, Nat.le_of_ble_eq_true rfl⟩ dX1_hearRequest_27 (⟨rfl, (XP.zero (by rw [show hearQ ga (rk, ri, rx, rv) (st, li, sr, tm, lp, mi, ix, gq, L) = (st, li, sr, tm, 1, mi, ix, gq, L) from if_pos c6]; exact (show EX G f84 en nw na nq nr (st, li, sr, tm, 1, mi, ix, gq, L) Q from ⟨h85, h86, ⟨_, h88, (CH.kp (show hK2 [en, nq, nr] [] f f84 from (by rw [ef84]; exact hK2.up List.mem_cons_self)) hc5 (EX.cu (hE)) (EX.sf (hE)))⟩, (hE).2.2.2.1, (hE).2.2.2.2.1, rfl⟩)) (show hK2 [en, nq, nr] Q f f84 from (by rw [ef84]; exact hK2.up List.mem_cons_self)))⟩)

set_option maxHeartbeats 4000000 in
set_option maxRecDepth 100000 in
theorem c_X1_hearAX {l : Launch} (hl : l.stackTraces = false) (G : hG) (f : hM) (en nw na nq nr : Nat) (st li sr tm lp mi ix : Int32) (gq : Nat → Int32) (L : List Fr) (Q : List (Nat × Nat)) (hE : EX G f en nw na nq nr (st, li, sr, tm, lp, mi, ix, gq, L) Q) (hn : Q.length < 3900) (fr u : Nat) (rk ri rx : Int32) (rv : Nat → Int32) (nx : Value) (k_fr : f fr = some (.inr (2, [.int rk, .int ri, .int (mgF (rk, ri, rx, rv)), .ref u, nx]))) (k_u : f u = some (.inl (cI G, 6, .inl rv))) (hfQ : fr ∉ ws Q) (huq : u ≠ nq) : CT l yX1_hearAnswer (.code yX1_hearAnswer cX1_hearAnswer 3 none) 3 57 2 11 G [.ref en, .ref fr] f (fun v f1 => v = none ∧ XP G f f1 en nw na nq nr Q (hearA (rk, ri, rx, rv) (st, li, sr, tm, lp, mi, ix, gq, L))) (fun E f1 => False) := by
  refine hp_start hl (own := RX1) (by decide) rfl (Nat.le_of_ble_eq_true rfl) ?_
  intro p e s m args below meth c B0 hr hnm hout hw hS ls hl9
  have hx := B0.1
  have hb := B0.2.1
  have hl9 : lv_has ls 3 [(0, .ref en), (1, .ref fr)] := hl9
  have ke1 : f en = some (.inr (1, [.ref nw, .ref na, .ref nq, .ref nr, .int (num ix), .int st, .int tm, .int sr, .int li, .int lp, .int mi])) := (hE).1
  have kq2 : f nq = some (.inl (cI G, 6, .inl gq)) := (hE).2.1
  obtain ⟨hd4, kr3, hc5⟩ := (hE).2.2.1
  refine lv_aload_n hx hb dX1_hearAnswer_0 rfl (lv_at hl9 0 rfl) ?_
  refine hp_get B0 hw 1 rfl in_X1 ke1 5 (by decide) qF_X1_28 rfl dX1_hearAnswer_1 ?_
  refine lv_iconst (v := 1) hx hb dX1_hearAnswer_4 (by decide) ?_
  refine lv_icmp_eq (tgt := 16) hx hb dX1_hearAnswer_5 (by decide) (fun c6 => ?_) (fun c6 => ?_)
  · refine lv_iconst (v := 1) hx hb dX1_hearAnswer_16 (by decide) ?_
    refine lv_goto (tgt := 21) hx hb dX1_hearAnswer_17 (by decide) ?_
    refine lv_istore_n (lv' := [(2, .int 1), (0, .ref en), (1, .ref fr)]) hx hb dX1_hearAnswer_21 rfl hl9 (by decide) rfl (fun ls hl9 => ?_)
    refine lv_iload_n hx hb dX1_hearAnswer_22 rfl (lv_at hl9 0 rfl) ?_
    refine lv_if_eq (tgt := 37) hx hb dX1_hearAnswer_23 (by decide) (fun c9 => absurd c9 (by decide)) (fun _ => ?_)
    refine lv_aload_n hx hb dX1_hearAnswer_26 rfl (lv_at hl9 2 rfl) ?_
    refine hp_get B0 hw 2 rfl in_X2 k_fr 1 (by decide) qF_X1_86 rfl dX1_hearAnswer_27 ?_
    refine lv_aload_n hx hb dX1_hearAnswer_30 rfl (lv_at hl9 1 rfl) ?_
    refine hp_get B0 hw 1 rfl in_X1 ke1 8 (by decide) qF_X1_38 rfl dX1_hearAnswer_31 ?_
    refine lv_icmp_eq (tgt := 38) hx hb dX1_hearAnswer_34 (by decide) (fun c7 => ?_) (fun c7 => ?_)
    · refine lv_aload_n hx hb dX1_hearAnswer_38 rfl (lv_at hl9 2 rfl) ?_
      refine hp_get B0 hw 2 rfl in_X2 k_fr 0 (by decide) qF_X1_70 rfl dX1_hearAnswer_39 ?_
      refine lv_iconst (v := 1) hx hb dX1_hearAnswer_42 (by decide) ?_
      refine lv_icmp_ne (tgt := 64) hx hb dX1_hearAnswer_43 (by decide) (fun c8 => ?_) (fun c8 => ?_)
      · refine lv_aload_n hx hb dX1_hearAnswer_64 rfl (lv_at hl9 1 rfl) ?_
        refine lv_aload_n hx hb dX1_hearAnswer_65 rfl (lv_at hl9 2 rfl) ?_
        refine hp_V (ci := 1) (As := [.ref fr]) (rest := []) B0 hw hS (c_X1_chgX hl G f en nw na nq nr (num ix) st tm sr li lp mi gq ke1 kq2 fr u rk ri (mgF (rk, ri, rx, rv)) nx rv k_fr k_u huq) mV_X1_changeAskedFor qM_X1_89 rfl ke1 rfl rfl hl9.1 (Nat.le_of_ble_eq_true rfl) ⟨⟨Nat.le_of_ble_eq_true rfl, Nat.le_of_ble_eq_true rfl⟩, Nat.le_of_ble_eq_true rfl, Nat.le_of_ble_eq_true rfl⟩ dX1_hearAnswer_66 (fun E ce q9 f9 H locs hPX hw hS hce hcv hcl => ?_) (fun v f9 H locs hP hw hS => ?_)
        · exact hPX.elim
        · obtain ⟨ev9, e10⟩ := hP
          subst ev9
          have h11 : f9 nq = some (.inl (cI G, 6, .inl (chgF gq rv rk))) := by rw [e10, va_up_self]
          refine W.eq (g2 := F0 m 69 ls []) rfl ?_
          refine lv_aload_n hx hb dX1_hearAnswer_69 rfl (lv_at hl9 1 rfl) ?_
          have n13 : en ≠ nq := hne ke1 kq2 (Nat.ne_of_beq_eq_false rfl)
          have h12 : f9 en = some (.inr (1, [.ref nw, .ref na, .ref nq, .ref nr, .int (num ix), .int st, .int tm, .int sr, .int li, .int lp, .int mi])) := by rw [e10, va_up_ne _ _ n13]; exact ke1
          have n15 : nr ≠ nq := hne kr3 kq2 (Nat.ne_of_beq_eq_false rfl)
          have h14 : f9 nr = some (.inr (3, [hd4, (lastV Q), .int (nI (Q).length)])) := by rw [e10, va_up_ne _ _ n15]; exact kr3
          refine hp_V (ci := 1) (As := []) (rest := []) B0 hw hS (c_X1_askX hl G f9 en nw na nq nr st li sr tm lp mi ix (chgF gq rv rk) L Q (show EX G f9 en nw na nq nr (st, li, sr, tm, lp, mi, ix, (chgF gq rv rk), L) Q from ⟨h12, h11, ⟨_, h14, (CH.kp (show hK2 [en, nq, nr] [] f f9 from (by rw [e10]; exact hK2.up (List.mem_cons_of_mem _ List.mem_cons_self))) hc5 (EX.cu (hE)) (EX.sf (hE)))⟩, (hE).2.2.2.1, (hE).2.2.2.2.1, (hE).2.2.2.2.2⟩) (Nat.lt_trans hn (by decide))) mV_X1_ask qM_X1_63 rfl h12 rfl rfl hl9.1 (Nat.le_of_ble_eq_true rfl) ⟨⟨Nat.le_of_ble_eq_true rfl, Nat.le_of_ble_eq_true rfl⟩, Nat.le_of_ble_eq_true rfl, Nat.le_of_ble_eq_true rfl⟩ dX1_hearAnswer_70 (fun E ce q9 f16 H locs hPX hw hS hce hcv hcl => ?_) (fun v f16 H locs hP hw hS => ?_)
          · exact hPX.elim
          · rcases hP with ⟨c17, ev9, w18, u19, hw20, hu21, hE22, k23⟩ | ⟨c17, ev9, hE22, k23⟩
            · subst ev9
              have hN24 : ∀ c9 ∈ [(w18, u19)], f9 c9.1 = none ∧ f9 c9.2 = none := fun c9 hc9 => by rw [List.mem_singleton.mp hc9]; exact ⟨hw20, hu21⟩
              have ke25 : f16 en = some (.inr (1, [.ref nw, .ref na, .ref nq, .ref nr, .int (num ix), .int st, .int 3, .int (sr + 1), .int (li + 1), .int lp, .int mi])) := (hE22).1
              have kq26 : f16 nq = some (.inl (cI G, 6, .inl (chgF gq rv rk))) := (hE22).2.1
              obtain ⟨hd28, kr27, hc29⟩ := (hE22).2.2.1
              refine W.eq (g2 := F0 m 73 ls [.int 1]) rfl ?_
              refine lv_pop hx hb dX1_hearAnswer_73 rfl ?_
              exact hp_vret B0 hw hS hr ⟨Nat.le_of_ble_eq_true rfl, Nat.le_of_ble_eq_true rfl⟩ dX1_hearAnswer_74 (⟨rfl, ⟨_, (fun c9 h9 => ⟨(show hK2 [nq] [] f f9 from (by rw [e10]; exact hK2.up List.mem_cons_self)).1 _ (hN24 c9 h9).1, (show hK2 [nq] [] f f9 from (by rw [e10]; exact hK2.up List.mem_cons_self)).1 _ (hN24 c9 h9).2⟩), (by rw [show hearA (rk, ri, rx, rv) (st, li, sr, tm, lp, mi, ix, gq, L) = (st, (li + 1), (sr + 1), 3, lp, mi, ix, (chgF gq rv rk), (L ++ [(0, li + 1, ix, (chgF gq rv rk))])) from ((if_pos ⟨(Or.inl c6), c7⟩).trans (if_neg c8)).trans (if_pos c17)]; exact (show EX G f16 en nw na nq nr (st, (li + 1), (sr + 1), 3, lp, mi, ix, (chgF gq rv rk), (L ++ [(0, li + 1, ix, (chgF gq rv rk))])) (Q ++ [(w18, u19)]) from ⟨ke25, kq26, ⟨_, kr27, hc29⟩, (hE22).2.2.2.1, (hE22).2.2.2.2.1, (hE).2.2.2.2.2⟩)), ((show hK2 [en, nq, nr] Q f f9 from (by rw [e10]; exact hK2.up (List.mem_cons_of_mem _ List.mem_cons_self))).tr (show hK2 [en, nq, nr] Q f9 f16 from (k23.mono (sub_cons List.mem_cons_self (sub_cons (List.mem_cons_of_mem _ (List.mem_cons_of_mem _ List.mem_cons_self)) sub_nil)))))⟩⟩)
            · subst ev9
              have ke30 : f16 en = some (.inr (1, [.ref nw, .ref na, .ref nq, .ref nr, .int (num ix), .int 0, .int tm, .int sr, .int li, .int lp, .int mi])) := (hE22).1
              have kq31 : f16 nq = some (.inl (cI G, 6, .inl (chgF gq rv rk))) := (hE22).2.1
              obtain ⟨hd33, kr32, hc34⟩ := (hE22).2.2.1
              refine W.eq (g2 := F0 m 73 ls [.int 0]) rfl ?_
              refine lv_pop hx hb dX1_hearAnswer_73 rfl ?_
              exact hp_vret B0 hw hS hr ⟨Nat.le_of_ble_eq_true rfl, Nat.le_of_ble_eq_true rfl⟩ dX1_hearAnswer_74 (⟨rfl, (XP.zero (by rw [show hearA (rk, ri, rx, rv) (st, li, sr, tm, lp, mi, ix, gq, L) = (0, li, sr, tm, lp, mi, ix, (chgF gq rv rk), L) from ((if_pos ⟨(Or.inl c6), c7⟩).trans (if_neg c8)).trans (if_neg c17)]; exact (show EX G f16 en nw na nq nr (0, li, sr, tm, lp, mi, ix, (chgF gq rv rk), L) Q from ⟨ke30, kq31, ⟨_, kr32, hc34⟩, (hE22).2.2.2.1, (hE22).2.2.2.2.1, (hE).2.2.2.2.2⟩)) ((show hK2 [en, nq, nr] Q f f9 from (by rw [e10]; exact hK2.up (List.mem_cons_of_mem _ List.mem_cons_self))).tr (show hK2 [en, nq, nr] Q f9 f16 from (k23.mono (sub_cons List.mem_cons_self (sub_cons (List.mem_cons_of_mem _ (List.mem_cons_of_mem _ List.mem_cons_self)) sub_nil))))))⟩)
      · refine lv_aload_n hx hb dX1_hearAnswer_46 rfl (lv_at hl9 1 rfl) ?_
        refine lv_aload_n hx hb dX1_hearAnswer_47 rfl (lv_at hl9 1 rfl) ?_
        refine hp_get B0 hw 1 rfl in_X1 ke1 5 (by decide) qF_X1_28 rfl dX1_hearAnswer_48 ?_
        refine lv_iconst (v := 1) hx hb dX1_hearAnswer_51 (by decide) ?_
        refine lv_icmp_ne (tgt := 59) hx hb dX1_hearAnswer_52 (by decide) (fun c9 => absurd c6 c9) (fun _ => ?_)
        refine lv_iconst (v := 2) hx hb dX1_hearAnswer_55 (by decide) ?_
        refine lv_goto (tgt := 60) hx hb dX1_hearAnswer_56 (by decide) ?_
        refine hp_put (fs1 := [.ref nw, .ref na, .ref nq, .ref nr, .int (num ix), .int 2, .int tm, .int sr, .int li, .int lp, .int mi]) (ty := .int) B0 hw hS 1 rfl in_X1 tyX1 tyX1_ok nmX1 ke1 5 (by decide) qF_X1_28 rfl (by decide +kernel) rfl rfl (Nat.le_of_ble_eq_true rfl) rfl dX1_hearAnswer_60 (fun H locs f35 ef35 hw hS => ?_)
        have h36 : f35 en = some (.inr (1, [.ref nw, .ref na, .ref nq, .ref nr, .int (num ix), .int 2, .int tm, .int sr, .int li, .int lp, .int mi])) := by rw [ef35, va_up_self]
        have n38 : nq ≠ en := hne kq2 ke1 (Nat.ne_of_beq_eq_false rfl)
        have h37 : f35 nq = some (.inl (cI G, 6, .inl gq)) := by rw [ef35, va_up_ne _ _ n38]; exact kq2
        have n40 : nr ≠ en := hne kr3 ke1 (Nat.ne_of_beq_eq_false rfl)
        have h39 : f35 nr = some (.inr (3, [hd4, (lastV Q), .int (nI (Q).length)])) := by rw [ef35, va_up_ne _ _ n40]; exact kr3
        exact hp_vret B0 hw hS hr ⟨Nat.le_of_ble_eq_true rfl, Nat.le_of_ble_eq_true rfl⟩ dX1_hearAnswer_63 (⟨rfl, (XP.zero (by rw [show hearA (rk, ri, rx, rv) (st, li, sr, tm, lp, mi, ix, gq, L) = (2, li, sr, tm, lp, mi, ix, gq, L) from ((if_pos ⟨(Or.inl c6), c7⟩).trans (if_pos c8)).trans (congrArg (fun z9 => (z9, li, sr, tm, lp, mi, ix, gq, L)) (if_pos c6))]; exact (show EX G f35 en nw na nq nr (2, li, sr, tm, lp, mi, ix, gq, L) Q from ⟨h36, h37, ⟨_, h39, (CH.kp (show hK2 [en, nq, nr] [] f f35 from (by rw [ef35]; exact hK2.up List.mem_cons_self)) hc5 (EX.cu (hE)) (EX.sf (hE)))⟩, (hE).2.2.2.1, (hE).2.2.2.2.1, (hE).2.2.2.2.2⟩)) (show hK2 [en, nq, nr] Q f f35 from (by rw [ef35]; exact hK2.up List.mem_cons_self)))⟩)
    · exact hp_vret B0 hw hS hr ⟨Nat.le_of_ble_eq_true rfl, Nat.le_of_ble_eq_true rfl⟩ dX1_hearAnswer_37 (⟨rfl, (XP.zero (by rw [show hearA (rk, ri, rx, rv) (st, li, sr, tm, lp, mi, ix, gq, L) = (st, li, sr, tm, lp, mi, ix, gq, L) from if_neg (fun h9 => c7 h9.2)]; exact (show EX G f en nw na nq nr (st, li, sr, tm, lp, mi, ix, gq, L) Q from ⟨ke1, kq2, ⟨_, kr3, hc5⟩, (hE).2.2.2.1, (hE).2.2.2.2.1, (hE).2.2.2.2.2⟩)) hK2.rf)⟩)
  · refine lv_aload_n hx hb dX1_hearAnswer_8 rfl (lv_at hl9 0 rfl) ?_
    refine hp_get B0 hw 1 rfl in_X1 ke1 5 (by decide) qF_X1_28 rfl dX1_hearAnswer_9 ?_
    refine lv_iconst (v := 3) hx hb dX1_hearAnswer_12 (by decide) ?_
    refine lv_icmp_ne (tgt := 20) hx hb dX1_hearAnswer_13 (by decide) (fun c41 => ?_) (fun c41 => ?_)
    · refine lv_iconst (v := 0) hx hb dX1_hearAnswer_20 (by decide) ?_
      refine lv_istore_n (lv' := [(2, .int 0), (0, .ref en), (1, .ref fr)]) hx hb dX1_hearAnswer_21 rfl hl9 (by decide) rfl (fun ls hl9 => ?_)
      refine lv_iload_n hx hb dX1_hearAnswer_22 rfl (lv_at hl9 0 rfl) ?_
      refine lv_if_eq (tgt := 37) hx hb dX1_hearAnswer_23 (by decide) (fun _ => ?_) (fun c9 => absurd (by decide) c9)
      exact hp_vret B0 hw hS hr ⟨Nat.le_of_ble_eq_true rfl, Nat.le_of_ble_eq_true rfl⟩ dX1_hearAnswer_37 (⟨rfl, (XP.zero (by rw [show hearA (rk, ri, rx, rv) (st, li, sr, tm, lp, mi, ix, gq, L) = (st, li, sr, tm, lp, mi, ix, gq, L) from if_neg (fun h9 => h9.1.elim c6 c41)]; exact (show EX G f en nw na nq nr (st, li, sr, tm, lp, mi, ix, gq, L) Q from ⟨ke1, kq2, ⟨_, kr3, hc5⟩, (hE).2.2.2.1, (hE).2.2.2.2.1, (hE).2.2.2.2.2⟩)) hK2.rf)⟩)
    · refine lv_iconst (v := 1) hx hb dX1_hearAnswer_16 (by decide) ?_
      refine lv_goto (tgt := 21) hx hb dX1_hearAnswer_17 (by decide) ?_
      refine lv_istore_n (lv' := [(2, .int 1), (0, .ref en), (1, .ref fr)]) hx hb dX1_hearAnswer_21 rfl hl9 (by decide) rfl (fun ls hl9 => ?_)
      refine lv_iload_n hx hb dX1_hearAnswer_22 rfl (lv_at hl9 0 rfl) ?_
      refine lv_if_eq (tgt := 37) hx hb dX1_hearAnswer_23 (by decide) (fun c9 => absurd c9 (by decide)) (fun _ => ?_)
      refine lv_aload_n hx hb dX1_hearAnswer_26 rfl (lv_at hl9 2 rfl) ?_
      refine hp_get B0 hw 2 rfl in_X2 k_fr 1 (by decide) qF_X1_86 rfl dX1_hearAnswer_27 ?_
      refine lv_aload_n hx hb dX1_hearAnswer_30 rfl (lv_at hl9 1 rfl) ?_
      refine hp_get B0 hw 1 rfl in_X1 ke1 8 (by decide) qF_X1_38 rfl dX1_hearAnswer_31 ?_
      refine lv_icmp_eq (tgt := 38) hx hb dX1_hearAnswer_34 (by decide) (fun c42 => ?_) (fun c42 => ?_)
      · refine lv_aload_n hx hb dX1_hearAnswer_38 rfl (lv_at hl9 2 rfl) ?_
        refine hp_get B0 hw 2 rfl in_X2 k_fr 0 (by decide) qF_X1_70 rfl dX1_hearAnswer_39 ?_
        refine lv_iconst (v := 1) hx hb dX1_hearAnswer_42 (by decide) ?_
        refine lv_icmp_ne (tgt := 64) hx hb dX1_hearAnswer_43 (by decide) (fun c43 => ?_) (fun c43 => ?_)
        · refine lv_aload_n hx hb dX1_hearAnswer_64 rfl (lv_at hl9 1 rfl) ?_
          refine lv_aload_n hx hb dX1_hearAnswer_65 rfl (lv_at hl9 2 rfl) ?_
          refine hp_V (ci := 1) (As := [.ref fr]) (rest := []) B0 hw hS (c_X1_chgX hl G f en nw na nq nr (num ix) st tm sr li lp mi gq ke1 kq2 fr u rk ri (mgF (rk, ri, rx, rv)) nx rv k_fr k_u huq) mV_X1_changeAskedFor qM_X1_89 rfl ke1 rfl rfl hl9.1 (Nat.le_of_ble_eq_true rfl) ⟨⟨Nat.le_of_ble_eq_true rfl, Nat.le_of_ble_eq_true rfl⟩, Nat.le_of_ble_eq_true rfl, Nat.le_of_ble_eq_true rfl⟩ dX1_hearAnswer_66 (fun E ce q9 f44 H locs hPX hw hS hce hcv hcl => ?_) (fun v f44 H locs hP hw hS => ?_)
          · exact hPX.elim
          · obtain ⟨ev9, e45⟩ := hP
            subst ev9
            have h46 : f44 nq = some (.inl (cI G, 6, .inl (chgF gq rv rk))) := by rw [e45, va_up_self]
            refine W.eq (g2 := F0 m 69 ls []) rfl ?_
            refine lv_aload_n hx hb dX1_hearAnswer_69 rfl (lv_at hl9 1 rfl) ?_
            have n48 : en ≠ nq := hne ke1 kq2 (Nat.ne_of_beq_eq_false rfl)
            have h47 : f44 en = some (.inr (1, [.ref nw, .ref na, .ref nq, .ref nr, .int (num ix), .int st, .int tm, .int sr, .int li, .int lp, .int mi])) := by rw [e45, va_up_ne _ _ n48]; exact ke1
            have n50 : nr ≠ nq := hne kr3 kq2 (Nat.ne_of_beq_eq_false rfl)
            have h49 : f44 nr = some (.inr (3, [hd4, (lastV Q), .int (nI (Q).length)])) := by rw [e45, va_up_ne _ _ n50]; exact kr3
            refine hp_V (ci := 1) (As := []) (rest := []) B0 hw hS (c_X1_askX hl G f44 en nw na nq nr st li sr tm lp mi ix (chgF gq rv rk) L Q (show EX G f44 en nw na nq nr (st, li, sr, tm, lp, mi, ix, (chgF gq rv rk), L) Q from ⟨h47, h46, ⟨_, h49, (CH.kp (show hK2 [en, nq, nr] [] f f44 from (by rw [e45]; exact hK2.up (List.mem_cons_of_mem _ List.mem_cons_self))) hc5 (EX.cu (hE)) (EX.sf (hE)))⟩, (hE).2.2.2.1, (hE).2.2.2.2.1, (hE).2.2.2.2.2⟩) (Nat.lt_trans hn (by decide))) mV_X1_ask qM_X1_63 rfl h47 rfl rfl hl9.1 (Nat.le_of_ble_eq_true rfl) ⟨⟨Nat.le_of_ble_eq_true rfl, Nat.le_of_ble_eq_true rfl⟩, Nat.le_of_ble_eq_true rfl, Nat.le_of_ble_eq_true rfl⟩ dX1_hearAnswer_70 (fun E ce q9 f51 H locs hPX hw hS hce hcv hcl => ?_) (fun v f51 H locs hP hw hS => ?_)
            · exact hPX.elim
            · rcases hP with ⟨c52, ev9, w53, u54, hw55, hu56, hE57, k58⟩ | ⟨c52, ev9, hE57, k58⟩
              · subst ev9
                have hN59 : ∀ c9 ∈ [(w53, u54)], f44 c9.1 = none ∧ f44 c9.2 = none := fun c9 hc9 => by rw [List.mem_singleton.mp hc9]; exact ⟨hw55, hu56⟩
                have ke60 : f51 en = some (.inr (1, [.ref nw, .ref na, .ref nq, .ref nr, .int (num ix), .int st, .int 3, .int (sr + 1), .int (li + 1), .int lp, .int mi])) := (hE57).1
                have kq61 : f51 nq = some (.inl (cI G, 6, .inl (chgF gq rv rk))) := (hE57).2.1
                obtain ⟨hd63, kr62, hc64⟩ := (hE57).2.2.1
                refine W.eq (g2 := F0 m 73 ls [.int 1]) rfl ?_
                refine lv_pop hx hb dX1_hearAnswer_73 rfl ?_
                exact hp_vret B0 hw hS hr ⟨Nat.le_of_ble_eq_true rfl, Nat.le_of_ble_eq_true rfl⟩ dX1_hearAnswer_74 (⟨rfl, ⟨_, (fun c9 h9 => ⟨(show hK2 [nq] [] f f44 from (by rw [e45]; exact hK2.up List.mem_cons_self)).1 _ (hN59 c9 h9).1, (show hK2 [nq] [] f f44 from (by rw [e45]; exact hK2.up List.mem_cons_self)).1 _ (hN59 c9 h9).2⟩), (by rw [show hearA (rk, ri, rx, rv) (st, li, sr, tm, lp, mi, ix, gq, L) = (st, (li + 1), (sr + 1), 3, lp, mi, ix, (chgF gq rv rk), (L ++ [(0, li + 1, ix, (chgF gq rv rk))])) from ((if_pos ⟨(Or.inr c41), c42⟩).trans (if_neg c43)).trans (if_pos c52)]; exact (show EX G f51 en nw na nq nr (st, (li + 1), (sr + 1), 3, lp, mi, ix, (chgF gq rv rk), (L ++ [(0, li + 1, ix, (chgF gq rv rk))])) (Q ++ [(w53, u54)]) from ⟨ke60, kq61, ⟨_, kr62, hc64⟩, (hE57).2.2.2.1, (hE57).2.2.2.2.1, (hE).2.2.2.2.2⟩)), ((show hK2 [en, nq, nr] Q f f44 from (by rw [e45]; exact hK2.up (List.mem_cons_of_mem _ List.mem_cons_self))).tr (show hK2 [en, nq, nr] Q f44 f51 from (k58.mono (sub_cons List.mem_cons_self (sub_cons (List.mem_cons_of_mem _ (List.mem_cons_of_mem _ List.mem_cons_self)) sub_nil)))))⟩⟩)
              · subst ev9
                have ke65 : f51 en = some (.inr (1, [.ref nw, .ref na, .ref nq, .ref nr, .int (num ix), .int 0, .int tm, .int sr, .int li, .int lp, .int mi])) := (hE57).1
                have kq66 : f51 nq = some (.inl (cI G, 6, .inl (chgF gq rv rk))) := (hE57).2.1
                obtain ⟨hd68, kr67, hc69⟩ := (hE57).2.2.1
                refine W.eq (g2 := F0 m 73 ls [.int 0]) rfl ?_
                refine lv_pop hx hb dX1_hearAnswer_73 rfl ?_
                exact hp_vret B0 hw hS hr ⟨Nat.le_of_ble_eq_true rfl, Nat.le_of_ble_eq_true rfl⟩ dX1_hearAnswer_74 (⟨rfl, (XP.zero (by rw [show hearA (rk, ri, rx, rv) (st, li, sr, tm, lp, mi, ix, gq, L) = (0, li, sr, tm, lp, mi, ix, (chgF gq rv rk), L) from ((if_pos ⟨(Or.inr c41), c42⟩).trans (if_neg c43)).trans (if_neg c52)]; exact (show EX G f51 en nw na nq nr (0, li, sr, tm, lp, mi, ix, (chgF gq rv rk), L) Q from ⟨ke65, kq66, ⟨_, kr67, hc69⟩, (hE57).2.2.2.1, (hE57).2.2.2.2.1, (hE).2.2.2.2.2⟩)) ((show hK2 [en, nq, nr] Q f f44 from (by rw [e45]; exact hK2.up (List.mem_cons_of_mem _ List.mem_cons_self))).tr (show hK2 [en, nq, nr] Q f44 f51 from (k58.mono (sub_cons List.mem_cons_self (sub_cons (List.mem_cons_of_mem _ (List.mem_cons_of_mem _ List.mem_cons_self)) sub_nil))))))⟩)
        · refine lv_aload_n hx hb dX1_hearAnswer_46 rfl (lv_at hl9 1 rfl) ?_
          refine lv_aload_n hx hb dX1_hearAnswer_47 rfl (lv_at hl9 1 rfl) ?_
          refine hp_get B0 hw 1 rfl in_X1 ke1 5 (by decide) qF_X1_28 rfl dX1_hearAnswer_48 ?_
          refine lv_iconst (v := 1) hx hb dX1_hearAnswer_51 (by decide) ?_
          refine lv_icmp_ne (tgt := 59) hx hb dX1_hearAnswer_52 (by decide) (fun _ => ?_) (fun c9 => absurd c9 c6)
          refine lv_iconst (v := 4) hx hb dX1_hearAnswer_59 (by decide) ?_
          refine hp_put (fs1 := [.ref nw, .ref na, .ref nq, .ref nr, .int (num ix), .int 4, .int tm, .int sr, .int li, .int lp, .int mi]) (ty := .int) B0 hw hS 1 rfl in_X1 tyX1 tyX1_ok nmX1 ke1 5 (by decide) qF_X1_28 rfl (by decide +kernel) rfl rfl (Nat.le_of_ble_eq_true rfl) rfl dX1_hearAnswer_60 (fun H locs f70 ef70 hw hS => ?_)
          have h71 : f70 en = some (.inr (1, [.ref nw, .ref na, .ref nq, .ref nr, .int (num ix), .int 4, .int tm, .int sr, .int li, .int lp, .int mi])) := by rw [ef70, va_up_self]
          have n73 : nq ≠ en := hne kq2 ke1 (Nat.ne_of_beq_eq_false rfl)
          have h72 : f70 nq = some (.inl (cI G, 6, .inl gq)) := by rw [ef70, va_up_ne _ _ n73]; exact kq2
          have n75 : nr ≠ en := hne kr3 ke1 (Nat.ne_of_beq_eq_false rfl)
          have h74 : f70 nr = some (.inr (3, [hd4, (lastV Q), .int (nI (Q).length)])) := by rw [ef70, va_up_ne _ _ n75]; exact kr3
          exact hp_vret B0 hw hS hr ⟨Nat.le_of_ble_eq_true rfl, Nat.le_of_ble_eq_true rfl⟩ dX1_hearAnswer_63 (⟨rfl, (XP.zero (by rw [show hearA (rk, ri, rx, rv) (st, li, sr, tm, lp, mi, ix, gq, L) = (4, li, sr, tm, lp, mi, ix, gq, L) from ((if_pos ⟨(Or.inr c41), c42⟩).trans (if_pos c43)).trans (congrArg (fun z9 => (z9, li, sr, tm, lp, mi, ix, gq, L)) (if_neg c6))]; exact (show EX G f70 en nw na nq nr (4, li, sr, tm, lp, mi, ix, gq, L) Q from ⟨h71, h72, ⟨_, h74, (CH.kp (show hK2 [en, nq, nr] [] f f70 from (by rw [ef70]; exact hK2.up List.mem_cons_self)) hc5 (EX.cu (hE)) (EX.sf (hE)))⟩, (hE).2.2.2.1, (hE).2.2.2.2.1, (hE).2.2.2.2.2⟩)) (show hK2 [en, nq, nr] Q f f70 from (by rw [ef70]; exact hK2.up List.mem_cons_self)))⟩)
      · exact hp_vret B0 hw hS hr ⟨Nat.le_of_ble_eq_true rfl, Nat.le_of_ble_eq_true rfl⟩ dX1_hearAnswer_37 (⟨rfl, (XP.zero (by rw [show hearA (rk, ri, rx, rv) (st, li, sr, tm, lp, mi, ix, gq, L) = (st, li, sr, tm, lp, mi, ix, gq, L) from if_neg (fun h9 => c42 h9.2)]; exact (show EX G f en nw na nq nr (st, li, sr, tm, lp, mi, ix, gq, L) Q from ⟨ke1, kq2, ⟨_, kr3, hc5⟩, (hE).2.2.2.1, (hE).2.2.2.2.1, (hE).2.2.2.2.2⟩)) hK2.rf)⟩)

set_option maxHeartbeats 4000000 in
set_option maxRecDepth 100000 in
theorem c_X1_hearX {l : Launch} (hl : l.stackTraces = false) (G : hG) (f : hM) (en nw na nq nr : Nat) (st li sr tm lp mi ix : Int32) (gq : Nat → Int32) (L : List Fr) (Q : List (Nat × Nat)) (hE : EX G f en nw na nq nr (st, li, sr, tm, lp, mi, ix, gq, L) Q) (hn : Q.length < 3900) (ga : Nat → Int32) (k_na : f na = some (.inl (cI G, 6, .inl ga))) (haq : na ≠ nq) (fr u : Nat) (rk ri rx : Int32) (rv : Nat → Int32) (nx : Value) (k_fr : f fr = some (.inr (2, [.int rk, .int ri, .int (mgF (rk, ri, rx, rv)), .ref u, nx]))) (k_u : f u = some (.inl (cI G, 6, .inl rv))) (hfQ : fr ∉ ws Q) (huq : u ≠ nq) : CT l yX1_hear (.code yX1_hear cX1_hear 2 none) 5 111 4 22 G [.ref en, .ref fr] f (fun v f1 => v = none ∧ XP G f f1 en nw na nq nr Q (hearF ga (rk, ri, rx, rv) (st, li, sr, tm, lp, mi, ix, gq, L))) (fun E f1 => False) := by
  refine hp_start hl (own := RX1) (by decide) rfl (Nat.le_of_ble_eq_true rfl) ?_
  intro p e s m args below meth c B0 hr hnm hout hw hS ls hl9
  have hx := B0.1
  have hb := B0.2.1
  have hl9 : lv_has ls 2 [(0, .ref en), (1, .ref fr)] := hl9
  have ke1 : f en = some (.inr (1, [.ref nw, .ref na, .ref nq, .ref nr, .int (num ix), .int st, .int tm, .int sr, .int li, .int lp, .int mi])) := (hE).1
  have kq2 : f nq = some (.inl (cI G, 6, .inl gq)) := (hE).2.1
  obtain ⟨hd4, kr3, hc5⟩ := (hE).2.2.1
  refine lv_aload_n hx hb dX1_hear_0 rfl (lv_at hl9 1 rfl) ?_
  refine hp_get B0 hw 2 rfl in_X2 k_fr 0 (by decide) qF_X1_70 rfl dX1_hear_1 ?_
  rcases (show rk.toInt = 0 ∨ rk.toInt = 4 ∨ (rk.toInt ≠ 0 ∧ rk.toInt ≠ 4) by omega) with h9 | h9 | ⟨h8, h9⟩
  · have hk0 : rk = 0 := i32_of 0 h9 rfl
    refine lv_lookup (off := 28) (tgt := 32) hx hb dX1_hear_4 (by decide) (by rw [h9]; rfl) (by decide) ?_
    refine lv_aload_n hx hb dX1_hear_32 rfl (lv_at hl9 0 rfl) ?_
    refine lv_aload_n hx hb dX1_hear_33 rfl (lv_at hl9 1 rfl) ?_
    refine hp_V (ci := 1) (As := [.ref fr]) (rest := []) B0 hw hS (c_X1_hearQX hl G f en nw na nq nr st li sr tm lp mi ix gq L Q (show EX G f en nw na nq nr (st, li, sr, tm, lp, mi, ix, gq, L) Q from ⟨ke1, kq2, ⟨_, kr3, hc5⟩, (hE).2.2.2.1, (hE).2.2.2.2.1, (hE).2.2.2.2.2⟩) hn ga k_na haq fr u rk ri rx rv nx k_fr k_u hfQ huq hk0) mV_X1_hearRequest qM_X1_75 rfl ke1 rfl rfl hl9.1 (Nat.le_of_ble_eq_true rfl) ⟨⟨Nat.le_of_ble_eq_true rfl, Nat.le_of_ble_eq_true rfl⟩, Nat.le_of_ble_eq_true rfl, Nat.le_of_ble_eq_true rfl⟩ dX1_hear_34 (fun E ce q9 f6 H locs hPX hw hS hce hcv hcl => ?_) (fun v f6 H locs hP hw hS => ?_)
    · exact hPX.elim
    · obtain ⟨ev9, x7⟩ := hP
      subst ev9
      refine W.eq (g2 := F0 m 37 ls []) rfl ?_
      refine lv_goto (tgt := 53) hx hb dX1_hear_37 (by decide) ?_
      exact hp_vret B0 hw hS hr ⟨Nat.le_of_ble_eq_true rfl, Nat.le_of_ble_eq_true rfl⟩ dX1_hear_53 (⟨rfl, (XP.tr (N := []) (fun c9 h9 => nomatch h9) hK2.rf (by rw [List.append_nil]; exact (by rw [show hearF ga (rk, ri, rx, rv) (st, li, sr, tm, lp, mi, ix, gq, L) = hearQ ga (rk, ri, rx, rv) (st, li, sr, tm, lp, mi, ix, gq, L) from if_pos hk0]; exact x7)))⟩)
  · have hk4 : rk = 4 := i32_of 4 h9 rfl
    have hk0 : ¬ rk = 0 := by rw [hk4]; decide
    refine lv_lookup (off := 36) (tgt := 40) hx hb dX1_hear_4 (by decide) (by rw [h9]; rfl) (by decide) ?_
    refine lv_aload_n hx hb dX1_hear_40 rfl (lv_at hl9 0 rfl) ?_
    refine lv_iconst (v := 0) hx hb dX1_hear_41 (by decide) ?_
    refine hp_put (fs1 := [.ref nw, .ref na, .ref nq, .ref nr, .int (num ix), .int 0, .int tm, .int sr, .int li, .int lp, .int mi]) (ty := .int) B0 hw hS 1 rfl in_X1 tyX1 tyX1_ok nmX1 ke1 5 (by decide) qF_X1_28 rfl (by decide +kernel) rfl rfl (Nat.le_of_ble_eq_true rfl) rfl dX1_hear_42 (fun H locs f8 ef8 hw hS => ?_)
    have h9 : f8 en = some (.inr (1, [.ref nw, .ref na, .ref nq, .ref nr, .int (num ix), .int 0, .int tm, .int sr, .int li, .int lp, .int mi])) := by rw [ef8, va_up_self]
    refine lv_goto (tgt := 53) hx hb dX1_hear_45 (by decide) ?_
    have n11 : nq ≠ en := hne kq2 ke1 (Nat.ne_of_beq_eq_false rfl)
    have h10 : f8 nq = some (.inl (cI G, 6, .inl gq)) := by rw [ef8, va_up_ne _ _ n11]; exact kq2
    have n13 : nr ≠ en := hne kr3 ke1 (Nat.ne_of_beq_eq_false rfl)
    have h12 : f8 nr = some (.inr (3, [hd4, (lastV Q), .int (nI (Q).length)])) := by rw [ef8, va_up_ne _ _ n13]; exact kr3
    exact hp_vret B0 hw hS hr ⟨Nat.le_of_ble_eq_true rfl, Nat.le_of_ble_eq_true rfl⟩ dX1_hear_53 (⟨rfl, (XP.zero (by rw [show hearF ga (rk, ri, rx, rv) (st, li, sr, tm, lp, mi, ix, gq, L) = (0, li, sr, tm, lp, mi, ix, gq, L) from (if_neg hk0).trans (if_pos hk4)]; exact (show EX G f8 en nw na nq nr (0, li, sr, tm, lp, mi, ix, gq, L) Q from ⟨h9, h10, ⟨_, h12, (CH.kp (show hK2 [en, nq, nr] [] f f8 from (by rw [ef8]; exact hK2.up List.mem_cons_self)) hc5 (EX.cu (hE)) (EX.sf (hE)))⟩, (hE).2.2.2.1, (hE).2.2.2.2.1, (hE).2.2.2.2.2⟩)) (show hK2 [en, nq, nr] Q f f8 from (by rw [ef8]; exact hK2.up List.mem_cons_self)))⟩)
  · have hk0 : ¬ rk = 0 := fun z9 => h8 (by rw [z9]; rfl)
    have hk4 : ¬ rk = 4 := fun z9 => h9 (by rw [z9]; rfl)
    refine lv_lookup (off := 44) (tgt := 48) hx hb dX1_hear_4 (by decide) (by simp [Op.lookupswitch.offset, h8, h9, Ne.symm h8, Ne.symm h9]) (by decide) ?_
    refine lv_aload_n hx hb dX1_hear_48 rfl (lv_at hl9 0 rfl) ?_
    refine lv_aload_n hx hb dX1_hear_49 rfl (lv_at hl9 1 rfl) ?_
    refine hp_V (ci := 1) (As := [.ref fr]) (rest := []) B0 hw hS (c_X1_hearAX hl G f en nw na nq nr st li sr tm lp mi ix gq L Q (show EX G f en nw na nq nr (st, li, sr, tm, lp, mi, ix, gq, L) Q from ⟨ke1, kq2, ⟨_, kr3, hc5⟩, (hE).2.2.2.1, (hE).2.2.2.2.1, (hE).2.2.2.2.2⟩) hn fr u rk ri rx rv nx k_fr k_u hfQ huq) mV_X1_hearAnswer qM_X1_79 rfl ke1 rfl rfl hl9.1 (Nat.le_of_ble_eq_true rfl) ⟨⟨Nat.le_of_ble_eq_true rfl, Nat.le_of_ble_eq_true rfl⟩, Nat.le_of_ble_eq_true rfl, Nat.le_of_ble_eq_true rfl⟩ dX1_hear_50 (fun E ce q9 f14 H locs hPX hw hS hce hcv hcl => ?_) (fun v f14 H locs hP hw hS => ?_)
    · exact hPX.elim
    · obtain ⟨ev9, x15⟩ := hP
      subst ev9
      refine W.eq (g2 := F0 m 53 ls []) rfl ?_
      exact hp_vret B0 hw hS hr ⟨Nat.le_of_ble_eq_true rfl, Nat.le_of_ble_eq_true rfl⟩ dX1_hear_53 (⟨rfl, (XP.tr (N := []) (fun c9 h9 => nomatch h9) hK2.rf (by rw [List.append_nil]; exact (by rw [show hearF ga (rk, ri, rx, rv) (st, li, sr, tm, lp, mi, ix, gq, L) = hearA (rk, ri, rx, rv) (st, li, sr, tm, lp, mi, ix, gq, L) from (if_neg hk0).trans (if_neg hk4)]; exact x15)))⟩)
end
