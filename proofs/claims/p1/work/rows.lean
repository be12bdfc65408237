section
/-- a private method of a class that the tables say can be made, by its rows of tables_1 -/
def lw_okq (q : MethodName × Nat) : Prop := (q.1.cls ≠ "java/lang/invoke/MethodHandle" ∧ q.1.cls ≠ "java/lang/invoke/VarHandle") ∧ Cond.instantiable q.1.cls q.2 ∈ tables_1 ∧ Cond.privateMethod q.1 ∈ tables_1 ∧ Cond.instanceMethod q.1 ∈ tables_1
theorem lw_p0 : lw_okq (⟨"OptionLine", "endAt", "(I)LOptionLine$End;"⟩, 3) := ⟨⟨by decide +kernel, by decide +kernel⟩, List.mem_of_getElem? (i := 17) (by decide +kernel), List.mem_of_getElem? (i := 159) (by decide +kernel), List.mem_of_getElem? (i := 160) (by decide +kernel)⟩
theorem lw_p1 : lw_okq (⟨"java/lang/Throwable", "fillInStackTrace", "(I)Ljava/lang/Throwable;"⟩, 6) := ⟨⟨by decide +kernel, by decide +kernel⟩, List.mem_of_getElem? (i := 201) (by decide +kernel), List.mem_of_getElem? (i := 199) (by decide +kernel), List.mem_of_getElem? (i := 200) (by decide +kernel)⟩
theorem lw_p2 : lw_okq (⟨"OptionLine$End", "ask", "()Z"⟩, 11) := ⟨⟨by decide +kernel, by decide +kernel⟩, List.mem_of_getElem? (i := 25) (by decide +kernel), List.mem_of_getElem? (i := 309) (by decide +kernel), List.mem_of_getElem? (i := 310) (by decide +kernel)⟩
theorem lw_p3 : lw_okq (⟨"OptionLine$End", "sendStop", "()V"⟩, 11) := ⟨⟨by decide +kernel, by decide +kernel⟩, List.mem_of_getElem? (i := 25) (by decide +kernel), List.mem_of_getElem? (i := 370) (by decide +kernel), List.mem_of_getElem? (i := 371) (by decide +kernel)⟩
theorem lw_p4 : lw_okq (⟨"OptionLine$End", "hearRequest", "(LOptionLine$Frame;)V"⟩, 11) := ⟨⟨by decide +kernel, by decide +kernel⟩, List.mem_of_getElem? (i := 25) (by decide +kernel), List.mem_of_getElem? (i := 396) (by decide +kernel), List.mem_of_getElem? (i := 397) (by decide +kernel)⟩
theorem lw_p5 : lw_okq (⟨"OptionLine$End", "answer", "(LOptionLine$Frame;)V"⟩, 11) := ⟨⟨by decide +kernel, by decide +kernel⟩, List.mem_of_getElem? (i := 25) (by decide +kernel), List.mem_of_getElem? (i := 400) (by decide +kernel), List.mem_of_getElem? (i := 401) (by decide +kernel)⟩
theorem lw_p6 : lw_okq (⟨"OptionLine$End", "kindOfAnswer", "([I)I"⟩, 11) := ⟨⟨by decide +kernel, by decide +kernel⟩, List.mem_of_getElem? (i := 25) (by decide +kernel), List.mem_of_getElem? (i := 404) (by decide +kernel), List.mem_of_getElem? (i := 405) (by decide +kernel)⟩
theorem lw_p7 : lw_okq (⟨"OptionLine$End", "isUnknown", "(II)Z"⟩, 11) := ⟨⟨by decide +kernel, by decide +kernel⟩, List.mem_of_getElem? (i := 25) (by decide +kernel), List.mem_of_getElem? (i := 408) (by decide +kernel), List.mem_of_getElem? (i := 409) (by decide +kernel)⟩
theorem lw_p8 : lw_okq (⟨"OptionLine$End", "isRefused", "(II)Z"⟩, 11) := ⟨⟨by decide +kernel, by decide +kernel⟩, List.mem_of_getElem? (i := 25) (by decide +kernel), List.mem_of_getElem? (i := 412) (by decide +kernel), List.mem_of_getElem? (i := 413) (by decide +kernel)⟩
theorem lw_p9 : lw_okq (⟨"OptionLine$End", "allows", "(II)Z"⟩, 11) := ⟨⟨by decide +kernel, by decide +kernel⟩, List.mem_of_getElem? (i := 25) (by decide +kernel), List.mem_of_getElem? (i := 416) (by decide +kernel), List.mem_of_getElem? (i := 417) (by decide +kernel)⟩
theorem lw_p10 : lw_okq (⟨"OptionLine$End", "toldOptions", "(I[I)[I"⟩, 11) := ⟨⟨by decide +kernel, by decide +kernel⟩, List.mem_of_getElem? (i := 25) (by decide +kernel), List.mem_of_getElem? (i := 420) (by decide +kernel), List.mem_of_getElem? (i := 421) (by decide +kernel)⟩
theorem lw_p11 : lw_okq (⟨"OptionLine$End", "lowestAllowed", "(I)I"⟩, 11) := ⟨⟨by decide +kernel, by decide +kernel⟩, List.mem_of_getElem? (i := 25) (by decide +kernel), List.mem_of_getElem? (i := 424) (by decide +kernel), List.mem_of_getElem? (i := 425) (by decide +kernel)⟩
theorem lw_p12 : lw_okq (⟨"OptionLine$End", "hearAnswer", "(LOptionLine$Frame;)V"⟩, 11) := ⟨⟨by decide +kernel, by decide +kernel⟩, List.mem_of_getElem? (i := 25) (by decide +kernel), List.mem_of_getElem? (i := 428) (by decide +kernel), List.mem_of_getElem? (i := 429) (by decide +kernel)⟩
theorem lw_p13 : lw_okq (⟨"OptionLine$End", "changeAskedFor", "(LOptionLine$Frame;)V"⟩, 11) := ⟨⟨by decide +kernel, by decide +kernel⟩, List.mem_of_getElem? (i := 25) (by decide +kernel), List.mem_of_getElem? (i := 432) (by decide +kernel), List.mem_of_getElem? (i := 433) (by decide +kernel)⟩
theorem lw_p14 : lw_okq (⟨"OptionLine", "refuseEmptyLine", "(I)V"⟩, 3) := ⟨⟨by decide +kernel, by decide +kernel⟩, List.mem_of_getElem? (i := 17) (by decide +kernel), List.mem_of_getElem? (i := 524) (by decide +kernel), List.mem_of_getElem? (i := 525) (by decide +kernel)⟩
theorem lw_p15 : lw_okq (⟨"OptionLine$Bundle", "advance", "()Z"⟩, 9) := ⟨⟨by decide +kernel, by decide +kernel⟩, List.mem_of_getElem? (i := 92) (by decide +kernel), List.mem_of_getElem? (i := 542) (by decide +kernel), List.mem_of_getElem? (i := 543) (by decide +kernel)⟩
def lw_privs_1 : List (MethodName × Nat) := [(⟨"OptionLine", "endAt", "(I)LOptionLine$End;"⟩, 3), (⟨"java/lang/Throwable", "fillInStackTrace", "(I)Ljava/lang/Throwable;"⟩, 6), (⟨"OptionLine$End", "ask", "()Z"⟩, 11), (⟨"OptionLine$End", "sendStop", "()V"⟩, 11), (⟨"OptionLine$End", "hearRequest", "(LOptionLine$Frame;)V"⟩, 11), (⟨"OptionLine$End", "answer", "(LOptionLine$Frame;)V"⟩, 11), (⟨"OptionLine$End", "kindOfAnswer", "([I)I"⟩, 11), (⟨"OptionLine$End", "isUnknown", "(II)Z"⟩, 11), (⟨"OptionLine$End", "isRefused", "(II)Z"⟩, 11), (⟨"OptionLine$End", "allows", "(II)Z"⟩, 11), (⟨"OptionLine$End", "toldOptions", "(I[I)[I"⟩, 11), (⟨"OptionLine$End", "lowestAllowed", "(I)I"⟩, 11), (⟨"OptionLine$End", "hearAnswer", "(LOptionLine$Frame;)V"⟩, 11), (⟨"OptionLine$End", "changeAskedFor", "(LOptionLine$Frame;)V"⟩, 11), (⟨"OptionLine", "refuseEmptyLine", "(I)V"⟩, 3), (⟨"OptionLine$Bundle", "advance", "()Z"⟩, 9)]
theorem lw_r1 : ∀ q ∈ lw_privs_1, lw_okq q := List.forall_mem_cons.mpr ⟨lw_p0, List.forall_mem_cons.mpr ⟨lw_p1, List.forall_mem_cons.mpr ⟨lw_p2, List.forall_mem_cons.mpr ⟨lw_p3, List.forall_mem_cons.mpr ⟨lw_p4, List.forall_mem_cons.mpr ⟨lw_p5, List.forall_mem_cons.mpr ⟨lw_p6, List.forall_mem_cons.mpr ⟨lw_p7, List.forall_mem_cons.mpr ⟨lw_p8, List.forall_mem_cons.mpr ⟨lw_p9, List.forall_mem_cons.mpr ⟨lw_p10, List.forall_mem_cons.mpr ⟨lw_p11, List.forall_mem_cons.mpr ⟨lw_p12, List.forall_mem_cons.mpr ⟨lw_p13, List.forall_mem_cons.mpr ⟨lw_p14, List.forall_mem_cons.mpr ⟨lw_p15, fun _ h => absurd h List.not_mem_nil⟩⟩⟩⟩⟩⟩⟩⟩⟩⟩⟩⟩⟩⟩⟩⟩
theorem lw_p16 : lw_okq (⟨"OptionLine$Bundle", "advanceFromFirst", "(I)Z"⟩, 9) := ⟨⟨by decide +kernel, by decide +kernel⟩, List.mem_of_getElem? (i := 92) (by decide +kernel), List.mem_of_getElem? (i := 546) (by decide +kernel), List.mem_of_getElem? (i := 547) (by decide +kernel)⟩
theorem lw_p17 : lw_okq (⟨"OptionLine$Bundle", "firstNotCome", "(I)I"⟩, 9) := ⟨⟨by decide +kernel, by decide +kernel⟩, List.mem_of_getElem? (i := 92) (by decide +kernel), List.mem_of_getElem? (i := 550) (by decide +kernel), List.mem_of_getElem? (i := 551) (by decide +kernel)⟩
theorem lw_p18 : lw_okq (⟨"OptionLine$Bundle", "give", "(I)V"⟩, 9) := ⟨⟨by decide +kernel, by decide +kernel⟩, List.mem_of_getElem? (i := 92) (by decide +kernel), List.mem_of_getElem? (i := 554) (by decide +kernel), List.mem_of_getElem? (i := 555) (by decide +kernel)⟩
theorem lw_p19 : lw_okq (⟨"OptionLine$Bundle", "bound", "()I"⟩, 9) := ⟨⟨by decide +kernel, by decide +kernel⟩, List.mem_of_getElem? (i := 92) (by decide +kernel), List.mem_of_getElem? (i := 558) (by decide +kernel), List.mem_of_getElem? (i := 559) (by decide +kernel)⟩
theorem lw_p20 : lw_okq (⟨"OptionLineModel", "begs", "(I)Z"⟩, 27) := ⟨⟨by decide +kernel, by decide +kernel⟩, List.mem_of_getElem? (i := 579) (by decide +kernel), List.mem_of_getElem? (i := 696) (by decide +kernel), List.mem_of_getElem? (i := 697) (by decide +kernel)⟩
theorem lw_p21 : lw_okq (⟨"OptionLineModel", "sends", "(IIII)V"⟩, 27) := ⟨⟨by decide +kernel, by decide +kernel⟩, List.mem_of_getElem? (i := 579) (by decide +kernel), List.mem_of_getElem? (i := 703) (by decide +kernel), List.mem_of_getElem? (i := 704) (by decide +kernel)⟩
theorem lw_p22 : lw_okq (⟨"OptionLineModel", "asksFrame", "(I)Z"⟩, 27) := ⟨⟨by decide +kernel, by decide +kernel⟩, List.mem_of_getElem? (i := 579) (by decide +kernel), List.mem_of_getElem? (i := 715) (by decide +kernel), List.mem_of_getElem? (i := 716) (by decide +kernel)⟩
theorem lw_p23 : lw_okq (⟨"OptionLineModel", "takes", "(I)I"⟩, 27) := ⟨⟨by decide +kernel, by decide +kernel⟩, List.mem_of_getElem? (i := 579) (by decide +kernel), List.mem_of_getElem? (i := 719) (by decide +kernel), List.mem_of_getElem? (i := 720) (by decide +kernel)⟩
theorem lw_p24 : lw_okq (⟨"OptionLineModel", "comes", "(II)V"⟩, 27) := ⟨⟨by decide +kernel, by decide +kernel⟩, List.mem_of_getElem? (i := 579) (by decide +kernel), List.mem_of_getElem? (i := 723) (by decide +kernel), List.mem_of_getElem? (i := 724) (by decide +kernel)⟩
theorem lw_p25 : lw_okq (⟨"OptionLineModel", "comesRequest", "(IIII)V"⟩, 27) := ⟨⟨by decide +kernel, by decide +kernel⟩, List.mem_of_getElem? (i := 579) (by decide +kernel), List.mem_of_getElem? (i := 727) (by decide +kernel), List.mem_of_getElem? (i := 728) (by decide +kernel)⟩
theorem lw_p26 : lw_okq (⟨"OptionLineModel", "answers", "(III)V"⟩, 27) := ⟨⟨by decide +kernel, by decide +kernel⟩, List.mem_of_getElem? (i := 579) (by decide +kernel), List.mem_of_getElem? (i := 731) (by decide +kernel), List.mem_of_getElem? (i := 732) (by decide +kernel)⟩
theorem lw_p27 : lw_okq (⟨"OptionLineModel", "comesAnswer", "(III)V"⟩, 27) := ⟨⟨by decide +kernel, by decide +kernel⟩, List.mem_of_getElem? (i := 579) (by decide +kernel), List.mem_of_getElem? (i := 741) (by decide +kernel), List.mem_of_getElem? (i := 742) (by decide +kernel)⟩
theorem lw_p28 : lw_okq (⟨"OptionLineModel", "goesBy", "(I)I"⟩, 27) := ⟨⟨by decide +kernel, by decide +kernel⟩, List.mem_of_getElem? (i := 579) (by decide +kernel), List.mem_of_getElem? (i := 757) (by decide +kernel), List.mem_of_getElem? (i := 758) (by decide +kernel)⟩
theorem lw_p29 : lw_okq (⟨"OptionLineModel", "asksEnd", "(I)Z"⟩, 27) := ⟨⟨by decide +kernel, by decide +kernel⟩, List.mem_of_getElem? (i := 579) (by decide +kernel), List.mem_of_getElem? (i := 765) (by decide +kernel), List.mem_of_getElem? (i := 766) (by decide +kernel)⟩
theorem lw_p30 : lw_okq (⟨"OptionLineModel", "asksLine", "(I)Z"⟩, 27) := ⟨⟨by decide +kernel, by decide +kernel⟩, List.mem_of_getElem? (i := 579) (by decide +kernel), List.mem_of_getElem? (i := 797) (by decide +kernel), List.mem_of_getElem? (i := 798) (by decide +kernel)⟩
theorem lw_p31 : lw_okq (⟨"OptionLineModel", "goesOn", "()Z"⟩, 27) := ⟨⟨by decide +kernel, by decide +kernel⟩, List.mem_of_getElem? (i := 579) (by decide +kernel), List.mem_of_getElem? (i := 801) (by decide +kernel), List.mem_of_getElem? (i := 802) (by decide +kernel)⟩
def lw_privs_2 : List (MethodName × Nat) := [(⟨"OptionLine$Bundle", "advanceFromFirst", "(I)Z"⟩, 9), (⟨"OptionLine$Bundle", "firstNotCome", "(I)I"⟩, 9), (⟨"OptionLine$Bundle", "give", "(I)V"⟩, 9), (⟨"OptionLine$Bundle", "bound", "()I"⟩, 9), (⟨"OptionLineModel", "begs", "(I)Z"⟩, 27), (⟨"OptionLineModel", "sends", "(IIII)V"⟩, 27), (⟨"OptionLineModel", "asksFrame", "(I)Z"⟩, 27), (⟨"OptionLineModel", "takes", "(I)I"⟩, 27), (⟨"OptionLineModel", "comes", "(II)V"⟩, 27), (⟨"OptionLineModel", "comesRequest", "(IIII)V"⟩, 27), (⟨"OptionLineModel", "answers", "(III)V"⟩, 27), (⟨"OptionLineModel", "comesAnswer", "(III)V"⟩, 27), (⟨"OptionLineModel", "goesBy", "(I)I"⟩, 27), (⟨"OptionLineModel", "asksEnd", "(I)Z"⟩, 27), (⟨"OptionLineModel", "asksLine", "(I)Z"⟩, 27), (⟨"OptionLineModel", "goesOn", "()Z"⟩, 27)]
theorem lw_r2 : ∀ q ∈ lw_privs_2, lw_okq q := List.forall_mem_cons.mpr ⟨lw_p16, List.forall_mem_cons.mpr ⟨lw_p17, List.forall_mem_cons.mpr ⟨lw_p18, List.forall_mem_cons.mpr ⟨lw_p19, List.forall_mem_cons.mpr ⟨lw_p20, List.forall_mem_cons.mpr ⟨lw_p21, List.forall_mem_cons.mpr ⟨lw_p22, List.forall_mem_cons.mpr ⟨lw_p23, List.forall_mem_cons.mpr ⟨lw_p24, List.forall_mem_cons.mpr ⟨lw_p25, List.forall_mem_cons.mpr ⟨lw_p26, List.forall_mem_cons.mpr ⟨lw_p27, List.forall_mem_cons.mpr ⟨lw_p28, List.forall_mem_cons.mpr ⟨lw_p29, List.forall_mem_cons.mpr ⟨lw_p30, List.forall_mem_cons.mpr ⟨lw_p31, fun _ h => absurd h List.not_mem_nil⟩⟩⟩⟩⟩⟩⟩⟩⟩⟩⟩⟩⟩⟩⟩⟩
theorem lw_p32 : lw_okq (⟨"OptionLineModel", "bound", "()I"⟩, 27) := ⟨⟨by decide +kernel, by decide +kernel⟩, List.mem_of_getElem? (i := 579) (by decide +kernel), List.mem_of_getElem? (i := 805) (by decide +kernel), List.mem_of_getElem? (i := 806) (by decide +kernel)⟩
theorem lw_p33 : lw_okq (⟨"OptionLineModel", "missing", "(I)I"⟩, 27) := ⟨⟨by decide +kernel, by decide +kernel⟩, List.mem_of_getElem? (i := 579) (by decide +kernel), List.mem_of_getElem? (i := 809) (by decide +kernel), List.mem_of_getElem? (i := 810) (by decide +kernel)⟩
def lw_privs_3 : List (MethodName × Nat) := [(⟨"OptionLineModel", "bound", "()I"⟩, 27), (⟨"OptionLineModel", "missing", "(I)I"⟩, 27)]
theorem lw_r3 : ∀ q ∈ lw_privs_3, lw_okq q := List.forall_mem_cons.mpr ⟨lw_p32, List.forall_mem_cons.mpr ⟨lw_p33, fun _ h => absurd h List.not_mem_nil⟩⟩
def lw_privs : List (MethodName × Nat) := lw_privs_1 ++ (lw_privs_2 ++ (lw_privs_3))
def lw_tbl : List Cond := k2_sels lw_privs ++ tables_1
theorem lw_privs_ok : ∀ q ∈ lw_privs, lw_okq q := by
  show ∀ q ∈ lw_privs_1 ++ (lw_privs_2 ++ (lw_privs_3)), lw_okq q
  exact List.forall_mem_append.mpr ⟨lw_r1, List.forall_mem_append.mpr ⟨lw_r2, lw_r3⟩⟩
/-! ===== BEGIN words of one list among another's, by their places ===== -/
theorem goodIn_r {big : List Cond} (ws : List Cond) (ps : List Nat) (hp : ws = ps.filterMap (fun i => big[i]?)) (h : ws.all goodWord = true) : GoodIn big ws := by
  intro w hw
  have h1 := List.all_eq_true.mp h w hw
  rw [hp] at hw
  obtain ⟨i, -, hi⟩ := List.mem_filterMap.mp hw
  have hm : w ∈ big := by first | exact List.mem_of_getElem? hi | exact List.getElem?_mem hi
  exact ⟨hm, good_of_word h1⟩
theorem goodIn_app {big a b : List Cond} (ha : GoodIn big a) (hb : GoodIn big b) : GoodIn big (a ++ b) := fun w h => (List.mem_append.mp h).elim (ha w) (hb w)
theorem goodIn_ca {big a b : List Cond} {c : Cond} (ha : GoodIn big (c :: a)) (hb : GoodIn big b) : GoodIn big (c :: (a ++ b)) := fun w h => (List.mem_cons.mp h).elim (fun e => ha w (List.mem_cons.mpr (Or.inl e))) (fun h => (List.mem_append.mp h).elim (fun h => ha w (List.mem_cons.mpr (Or.inr h))) (hb w))
theorem goodIn_sub {big ws : List Cond} (hm : ∀ w ∈ ws, w ∈ big) (h : ws.all goodWord = true) : GoodIn big ws := fun w hw => ⟨hm w hw, good_of_word (List.all_eq_true.mp h w hw)⟩
/-! ===== END ===== -/

/-! ===== BEGIN exceptions that leave a method, and their catching by the caller (launches without stack traces) ===== -/
section VXA
/-! The laws vx_back, vx_callV, vx_callS, vx_callSW, vx_throw0, vx_throwS follow proofs of the library, with one case more: JvmDerived/Free/Laws.lean (Back.of_free), Shelf42/LK1.lean (callV, callS), Shelf/KitTraced.lean (throwNew0V, throwNewS). -/
/-- where a method has thrown q: the class by its name, the cell, what was written, the world -/
def vx_T (XC : String → State → State → Prop) (st : State) (q : Addr) (t : State) (mc ms : Nat) (free : Addr → Prop) : Prop :=
  ∃ (E : String) (ce : Cell) (L : List Loc), XC E st t ∧ t.heap[q]? = some ce ∧ ce.vm = .none ∧ st.vm.findClass E = some ce.cls ∧ st.WarmedH t.vm ∧ st.sameButNew ({ t with vm := st.vm } : State) L mc ms ∧ ∀ z ∈ L, free z.base
def vx_Q (Qc : Array Value → State → Outcome → State → Prop) (XC : String → State → State → Prop) (mc ms : Nat) (free : Addr → Prop) : Array Value → State → Outcome → State → Prop := fun a st o t =>
  (Qc a st o t ∧ ∃ L, FrameEnd st o t L mc ms ∧ ∀ q ∈ L, free q.base) ∨ ∃ q, o = .threw q ∧ vx_T XC st q t mc ms free
/-- a callee that returns or throws -/
def vx_Met (l : Launch) (y : MethodName) (ws : List Cond) (rm : Room) (Pc : Array Value → State → Prop) (Qc : Array Value → State → Outcome → State → Prop) (XC : String → State → State → Prop) (mc ms : Nat) (free : Addr → Prop) : Prop :=
  MetFree l y (headSpec ws rm) Pc (fun _ _ _ _ _ => True) (vx_Q Qc XC mc ms free)
def vx_Post (XC : String → State → State → Prop) (mc ms : Nat) (free : Addr → Prop) : Pt → Array Value → Addr → Pt → Prop := fun A a q B =>
  ∃ (g : JFrame) (mk : MethodId) (t : State) (L : List Loc) (E : String) (ce : Cell), B.U.heap = t.heap ∧ B.U.vm = t.vm ∧ XC E (A.U.calling g mk a) t ∧ t.heap[q]? = some ce ∧ ce.vm = .none ∧ A.U.vm.findClass E = some ce.cls ∧ B.locs = A.locs ++ L ∧ (∀ z ∈ L, free z.base) ∧ B.cells = A.cells + mc ∧ B.slots = A.slots + ms
def vx_Back (l : Launch) (R : Room) (p : Program) (e : Env) (below : List Frame) (s : State) (sargs : Array Value) (y : MethodName) (len W9 : Nat)
    (Pre : Pt → Array Value → Prop) (Post : Pt → Array Value → Option Value → Pt → Prop) (PostX : Pt → Array Value → Addr → Pt → Prop) : Prop :=
  ∀ (m : MethodId) (meth : Method) (c : Code) (A : Pt) (g : JFrame) (ig : Instr) (mk : MethodId) (a : Array Value),
    Stand p l e R s m sargs below meth c A.U A.locs A.cells A.slots → g.method = m → g.locals.size = c.maxLocals → decode c.code g.pc = .ok (ig, len) →
    2 * g.monitorRoom + (g.stack.map fun v => v.category).sum ≤ W9 → A.U.methodNamed? y = some mk → Pre A a →
    (∃ (v : Option Value) (B : Pt), Stand p l e R s m sargs below meth c B.U B.locs B.cells B.slots ∧ Post A a v B ∧
      Steps p.tables e below (doInvoke e (A.U.setTop g) [] mk a).1 (B.U.setTop { g with pc := g.pc + len, stack := v.toList ++ g.stack })) ∨
    (∃ (q : Addr) (B : Pt), Stand p l e R s m sargs below meth c B.U B.locs B.cells B.slots ∧ PostX A a q B ∧
      Steps p.tables e below (doInvoke e (A.U.setTop g) [] mk a).1 ((B.U.setTop g).pushFrame (.throwing q)))
section Payer
variable {l : Launch} {R : Room} {p : Program} {e : Env} {below : List Frame} {s : State} {sargs : Array Value} {y : MethodName} {len W9 : Nat}
theorem vx_back {ws : List Cond} {rm : Room} {Pc : Array Value → State → Prop} {Qc : Array Value → State → Outcome → State → Prop} {XC : String → State → State → Prop} {mc ms : Nat} {free : Addr → Prop} {bytes : ByteArray} {maxL : Nat} {ret : Option FieldType}
    (hM : vx_Met l y ws rm Pc Qc XC mc ms free) (hblind : FrameBlind Pc) (hrc : rm.cells = mc) (hrs : rm.slots = ms)
    (hframes : rm.frames + 1 ≤ R.frames) (hlocals : W9 + (maxL + 11) + rm.locals ≤ R.locals)
    (hws : ∀ w ∈ ws, ∀ a' U, s.WarmedH U.vm → w.before a' U = true) (hcode : Cond.code y bytes maxL ret ∈ ws) (hinit : ∀ a' U, s.WarmedH U.vm → (Cond.initialized y.cls).before a' U = true) :
    vx_Back l R p e below s sargs y len W9 (PreOf R mc ms Pc) (PostOf Qc mc ms free) (vx_Post XC mc ms free) := by
  intro m meth c A g ig mk a X hg hsize hdg hW hn hp
  have h1 : (headSpec ws rm).pre.before a A.U = true := atoms_intro fun w hw => hws w hw _ _ X.warmed
  have h2 : (Cond.code y bytes maxL ret).before a A.U = true := hws _ hcode _ _ X.warmed
  have h3 : (Cond.initialized y.cls).before a A.U = true := hinit _ _ X.warmed
  have h4 : A.cells + (headSpec ws rm).room.cells ≤ R.cells := by rw [show (headSpec ws rm).room.cells = mc from hrc]; exact hp.1
  have h5 : A.slots + (headSpec ws rm).room.slots ≤ R.slots := by rw [show (headSpec ws rm).room.slots = ms from hrs]; exact hp.2.1
  have hPc : Pc a (A.U.calling g mk a) := hblind _ _ _ _ hp.2.2
  obtain ⟨U, Ls, c0, s0⟩ := A
  dsimp only [Pt.U, Pt.locs, Pt.cells, Pt.slots] at h1 h2 h3 h4 h5 X hn hPc ⊢
  obtain ⟨methY, cY, hmY, hcY, -, hlY, -, -, -, -⟩ := Cond.code_spec hn h2
  obtain ⟨kY, hkY, -⟩ := className_of_methodNamed hn
  have hinitY : kY.init = .initialized := Cond.initialized_spec (findClass_of_methodNamed hn) hkY h3
  have h : At U g.method c below := by rw [hg]; exact X.here
  have hlocals9 : W9 + (maxL + 11) + (headSpec ws rm).room.locals ≤ R.locals := hlocals
  have happ : (headSpec ws rm).appliesLoose y e.platform (U.calling g mk a) = true :=
    Spec.appliesLoose_calling (g := g) h hdg hn hkY hinitY
      (X.room_calling (g := g) (R' := (headSpec ws rm).room) hsize hmY hcY hframes (by rw [hlY]; omega) h4 h5) h1
  obtain ⟨mid, hmid⟩ := h.above
  have hfr : (U.setTop g).frames = (.java g :: mid) ++ below := by rw [State.frames_setTop' g h.top, hmid]; rfl
  obtain ⟨o, s₂, hsteps, -, hend, hq⟩ := Steps.callFree hM p X.admits X.cas X.clock (acts := []) hfr happ hPc trivial
  have hq' : vx_Q Qc XC mc ms free a (U.calling g mk a) o s₂ := hq
  rw [State.frames_setTop' g h.top] at hend
  obtain ⟨g₀, hg0⟩ := Option.isSome_iff_exists.mp h.top
  obtain ⟨r, hr⟩ := State.topJava?_eq_some.mp hg0
  have hr' : (({ U with heap := s₂.heap, slotsUsed := s₂.slotsUsed } : State).setVm s₂.vm).frames = .java g₀ :: r := hr
  rcases hq' with ⟨hqc, L, hfe, hL⟩ | ⟨q, rfl, E, ce, L, hx, hce, hcv, hcl, hW₂, hsm, hL⟩
  · obtain ⟨⟨v, rfl⟩, hW₂, e2, q2, q3, q4, q5, q6⟩ := id hfe
    have e3 : s₂ = ({ (U.calling g mk a).setFrames s₂.frames with heap := s₂.heap, slotsUsed := s₂.slotsUsed } : State).setVm s₂.vm := by
      have : s₂ = ({ s₂ with vm := (U.calling g mk a).vm } : State).setVm s₂.vm := rfl
      rw [e2] at this
      exact this
    obtain ⟨c₂, i₂, len₂, hc₂, hd₂, hf₂⟩ := hend
    have hW' : U.WarmedH s₂.vm := hW₂
    have hcc : c₂ = c := by
      have h1 : s₂.code? g.method = U.code? g.method := by
        rw [State.code?_eq, State.code?_eq, hW'.alike.method?]
      exact Option.some.inj (hc₂.symm.trans (h1.trans h.code))
    subst hcc
    have hlen : len₂ = len := by rw [hdg] at hd₂; cases hd₂; rfl
    subst hlen
    have hs₂ : s₂ = (({ U with heap := s₂.heap, slotsUsed := s₂.slotsUsed } : State).setVm s₂.vm).setTop { g with pc := g.pc + len₂, stack := v.toList ++ g.stack } := by
      refine e3.trans ?_
      rw [hf₂, State.calling_eq h.top, State.setFrames_setFrames, State.setTop_of_frames _ hr', hr]
      rfl
    have hsame : U.sameButNew ({ U with heap := s₂.heap, slotsUsed := s₂.slotsUsed } : State) L mc ms := by
      refine ⟨?_, q2, q3, q4, q5, q6⟩
      obtain ⟨t, ht, -⟩ := State.frames_cons hr
      show ({ U with heap := s₂.heap, slotsUsed := s₂.slotsUsed } : State) = { U.setFrames U.frames with heap := s₂.heap, slotsUsed := s₂.slotsUsed }
      rw [State.setFrames_self ht]
    subst hg
    refine Or.inl ⟨v, ⟨(({ U with heap := s₂.heap, slotsUsed := s₂.slotsUsed } : State).setVm s₂.vm), Ls ++ L, c0 + mc, s0 + ms⟩,
      ⟨X.admits, X.cas, X.clock, X.frames, X.room, X.hears, X.method, X.code, (X.here.setHeapUsed s₂.heap s₂.slotsUsed).setVm hW'.alike, X.tail, State.WarmedH.trans X.warmed hW', X.limits, X.bytes, X.same.trans (hsame.setVm s.vm)⟩,
      ⟨g, mk, s₂, L, rfl, rfl, hqc, rfl, hL, rfl, rfl⟩, ?_⟩
    show Steps p.tables e below _ ((({ U with heap := s₂.heap, slotsUsed := s₂.slotsUsed } : State).setVm s₂.vm).setTop { g with pc := g.pc + len₂, stack := v.toList ++ g.stack })
    rw [← hs₂]
    exact hsteps
  · obtain ⟨e2, q2, q3, q4, q5, q6⟩ := id hsm
    have e3 : s₂ = ({ (U.calling g mk a).setFrames s₂.frames with heap := s₂.heap, slotsUsed := s₂.slotsUsed } : State).setVm s₂.vm := by
      have : s₂ = ({ s₂ with vm := (U.calling g mk a).vm } : State).setVm s₂.vm := rfl
      rw [e2] at this
      exact this
    have hf₂ : s₂.frames = .throwing q :: .java g :: U.frames.tail := hend
    have hW' : U.WarmedH s₂.vm := hW₂
    have hs₂ : s₂ = ((({ U with heap := s₂.heap, slotsUsed := s₂.slotsUsed } : State).setVm s₂.vm).setTop g).pushFrame (.throwing q) := by
      refine e3.trans ?_
      rw [hf₂, State.calling_eq h.top, State.setFrames_setFrames, State.pushFrame, State.frames_setTop _ hr', State.setTop_of_frames _ hr', State.setFrames_setFrames, hr]
      rfl
    have hsame : U.sameButNew ({ U with heap := s₂.heap, slotsUsed := s₂.slotsUsed } : State) L mc ms := by
      refine ⟨?_, q2, q3, q4, q5, q6⟩
      obtain ⟨t, ht, -⟩ := State.frames_cons hr
      show ({ U with heap := s₂.heap, slotsUsed := s₂.slotsUsed } : State) = { U.setFrames U.frames with heap := s₂.heap, slotsUsed := s₂.slotsUsed }
      rw [State.setFrames_self ht]
    subst hg
    refine Or.inr ⟨q, ⟨(({ U with heap := s₂.heap, slotsUsed := s₂.slotsUsed } : State).setVm s₂.vm), Ls ++ L, c0 + mc, s0 + ms⟩,
      ⟨X.admits, X.cas, X.clock, X.frames, X.room, X.hears, X.method, X.code, (X.here.setHeapUsed s₂.heap s₂.slotsUsed).setVm hW'.alike, X.tail, State.WarmedH.trans X.warmed hW', X.limits, X.bytes, X.same.trans (hsame.setVm s.vm)⟩,
      ⟨g, mk, s₂, L, E, ce, rfl, rfl, hx, hce, hcv, hcl, rfl, hL, rfl, rfl⟩, ?_⟩
    show Steps p.tables e below _ (((({ U with heap := s₂.heap, slotsUsed := s₂.slotsUsed } : State).setVm s₂.vm).setTop g).pushFrame (.throwing q))
    rw [← hs₂]
    exact hsteps
end Payer
section Calls
variable {p : Program} {l : Launch} {e : Env} {R : Room} {s : State} {m : MethodId} {args : Array Value} {below : List Frame} {meth : Method} {c : Code} {T : State} {locs : List Loc} {cells slots : Nat}
theorem vx_callV (X : Stand p l e R s m args below meth c T locs cells slots) (hexec : p.tables.exec = Jvm.exec) {own C : String} {index : Nat} {y : MethodName} {bytes : ByteArray} {maxL : Nat} {ret : Option FieldType}
    (hown : s.vm.findClass own = some m.cls) (hlink : (Cond.methodLink own index y).before args s = true) (hinst : (Cond.instanceMethod y).before args s = true) (hsel : (Cond.selects C y y).before args s = true)
    (hcode : (Cond.code y bytes maxL ret).before args s = true) (hy : y.cls ≠ "java/lang/invoke/MethodHandle" ∧ y.cls ≠ "java/lang/invoke/VarHandle")
    {W9 : Nat} {Pre : Pt → Array Value → Prop} {Post : Pt → Array Value → Option Value → Pt → Prop} {PostX : Pt → Array Value → Addr → Pt → Prop} (hK : vx_Back l R p e below s args y 3 W9 Pre Post PostX)
    {b : Addr} {cellB : Cell} (hcell : T.heap[b]? = some cellB) (hobj : cellB.vm.isStatics = false) (hcls : s.vm.findClass C = some cellB.cls)
    {g : JFrame} (hg : g.method = m) (hsize : g.locals.size = c.maxLocals) {argsL rest : List Value} (hlen : ∀ sig, parseMethodDescriptor y.desc = some sig → argsL.length = sig.parameters.length)
    (hstack : g.stack = argsL.reverse ++ .ref b :: rest) (hW : 2 * g.monitorRoom + (rest.map fun v => v.category).sum ≤ W9) (hdg : decode c.code g.pc = .ok (.invokevirtual index, 3))
    (hpre : ∀ vm₁, s.WarmedH vm₁ → Pre ⟨T.setVm vm₁, locs, cells, slots⟩ (Value.ref b :: argsL).toArray) :
    (∃ (v : Option Value) (vm₁ : Vm) (B : Pt), s.WarmedH vm₁ ∧ Stand p l e R s m args below meth c B.U B.locs B.cells B.slots ∧ Post ⟨T.setVm vm₁, locs, cells, slots⟩ (Value.ref b :: argsL).toArray v B ∧
      ∀ target, Steps p.tables e below (B.U.setTop { g with pc := g.pc + 3, stack := v.toList ++ rest }) target → Steps p.tables e below (T.setTop g) target) ∨
    (∃ (q : Addr) (vm₁ : Vm) (B : Pt), s.WarmedH vm₁ ∧ Stand p l e R s m args below meth c B.U B.locs B.cells B.slots ∧ PostX ⟨T.setVm vm₁, locs, cells, slots⟩ (Value.ref b :: argsL).toArray q B ∧
      Steps p.tables e below (T.setTop g) ((B.U.setTop { g with stack := rest }).pushFrame (.throwing q))) := by
  obtain ⟨mk, methM, hnamed, hmethM, hstM, habM⟩ := Cond.instanceMethod_spec hinst
  obtain ⟨methM', cM, hmethM', -, -, -, -, -, -, hsigM⟩ := Cond.code_spec hnamed hcode
  cases hmethM.symm.trans hmethM'
  obtain ⟨c2, r2, m2, q1, q2, q3, q4, kP, hkP, hkPi⟩ := Cond.selects_spec hsel
  cases hcls.symm.trans q1
  cases (State.methodFound?_of_named hnamed hy).symm.trans q2
  cases hnamed.symm.trans q3
  have hselP : selectMethod e.platform s.vm cellB.cls mk = .method mk := by rw [Launch.admits_selectMethod X.admits]; exact q4
  obtain ⟨vm₁, X₁, hstep₁⟩ := X.invokevirtual hexec hown hlink hnamed hmethM hstM hkP hkPi hy (a := b) (cell := cellB) hcell
    (fun z h => by rw [h] at hobj; cases hobj) hselP hmethM habM hkP hkPi (g := g) hg (argsL := argsL) (rest := rest) (hlen _ hsigM) hstack hdg
  rcases hK m meth c ⟨T.setVm vm₁, locs, cells, slots⟩ { g with stack := rest } (.invokevirtual index) mk (Value.ref b :: argsL).toArray X₁ hg hsize hdg hW (X₁.named hnamed) (hpre vm₁ X₁.warmed) with ⟨v, B, X', hpost, hsteps⟩ | ⟨q, B, X', hpost, hsteps⟩
  · exact Or.inl ⟨v, vm₁, B, X₁.warmed, X', hpost, fun target h => hstep₁ _ fun acts => by rw [doInvoke_state]; exact hsteps.trans h⟩
  · exact Or.inr ⟨q, vm₁, B, X₁.warmed, X', hpost, hstep₁ _ fun acts => by rw [doInvoke_state]; exact hsteps⟩
theorem vx_callS (X : Stand p l e R s m args below meth c T locs cells slots) (hexec : p.tables.exec = Jvm.exec) {own : String} {index : Nat} {y : MethodName} {bytes : ByteArray} {maxL : Nat} {ret : Option FieldType}
    (hown : s.vm.findClass own = some m.cls) (hlink : (Cond.methodLink own index y).before args s = true) (hstat : (Cond.static y).before args s = true) (hinit : (Cond.initialized y.cls).before args s = true)
    (hcode : (Cond.code y bytes maxL ret).before args s = true) (hy : y.cls ≠ "java/lang/invoke/MethodHandle" ∧ y.cls ≠ "java/lang/invoke/VarHandle")
    {W9 : Nat} {Pre : Pt → Array Value → Prop} {Post : Pt → Array Value → Option Value → Pt → Prop} {PostX : Pt → Array Value → Addr → Pt → Prop} (hK : vx_Back l R p e below s args y 3 W9 Pre Post PostX)
    {g : JFrame} (hg : g.method = m) (hsize : g.locals.size = c.maxLocals) {argsL rest : List Value} (hlen : ∀ sig, parseMethodDescriptor y.desc = some sig → argsL.length = sig.parameters.length)
    (hstack : g.stack = argsL.reverse ++ rest) (hW : 2 * g.monitorRoom + (rest.map fun v => v.category).sum ≤ W9) (hdg : decode c.code g.pc = .ok (.invokestatic index, 3))
    (hpre : ∀ vm₁, s.WarmedH vm₁ → Pre ⟨T.setVm vm₁, locs, cells, slots⟩ argsL.toArray) :
    (∃ (v : Option Value) (vm₁ : Vm) (B : Pt), s.WarmedH vm₁ ∧ Stand p l e R s m args below meth c B.U B.locs B.cells B.slots ∧ Post ⟨T.setVm vm₁, locs, cells, slots⟩ argsL.toArray v B ∧
      ∀ target, Steps p.tables e below (B.U.setTop { g with pc := g.pc + 3, stack := v.toList ++ rest }) target → Steps p.tables e below (T.setTop g) target) ∨
    (∃ (q : Addr) (vm₁ : Vm) (B : Pt), s.WarmedH vm₁ ∧ Stand p l e R s m args below meth c B.U B.locs B.cells B.slots ∧ PostX ⟨T.setVm vm₁, locs, cells, slots⟩ argsL.toArray q B ∧
      Steps p.tables e below (T.setTop g) ((B.U.setTop { g with stack := rest }).pushFrame (.throwing q))) := by
  obtain ⟨mk, hnamed⟩ := Cond.code_named hcode
  obtain ⟨methM, cM, hmethM, -, -, -, -, -, -, hsigM⟩ := Cond.code_spec hnamed hcode
  have hstatic : methM.isStatic = true := Cond.static_spec hnamed hmethM hstat
  obtain ⟨kP, hkP, -⟩ := className_of_methodNamed hnamed
  have hinitP : kP.init = .initialized := Cond.initialized_spec (findClass_of_methodNamed hnamed) hkP hinit
  obtain ⟨vm₁, X₁, hstep₁⟩ := X.invokestatic hexec hown hlink hnamed hmethM hstatic hkP hinitP hy (g := g) hg (argsL := argsL) (rest := rest) (hlen _ hsigM) hstack hdg
  rcases hK m meth c ⟨T.setVm vm₁, locs, cells, slots⟩ { g with stack := rest } (.invokestatic index) mk argsL.toArray X₁ hg hsize hdg hW (X₁.named hnamed) (hpre vm₁ X₁.warmed) with ⟨v, B, X', hpost, hsteps⟩ | ⟨q, B, X', hpost, hsteps⟩
  · exact Or.inl ⟨v, vm₁, B, X₁.warmed, X', hpost, fun target h => hstep₁ _ fun acts => by rw [doInvoke_state]; exact hsteps.trans h⟩
  · exact Or.inr ⟨q, vm₁, B, X₁.warmed, X', hpost, hstep₁ _ fun acts => by rw [doInvoke_state]; exact hsteps⟩
end Calls
theorem vx_cls {s : State} {T : State} {vm₁ : Vm} {E : String} {k : ClassId} (hW : s.WarmedH vm₁) (h : (T.setVm vm₁).vm.findClass E = some k) : s.vm.findClass E = some k := by
  have h1 : vm₁.findClass E = some k := h
  rw [hW.alike.findClass] at h1
  exact h1
/-- the method's frame g, with q thrown over it -/
def vx_W (p : Program) (l : Launch) (e : Env) (R : Room) (s : State) (m : MethodId) (args : Array Value) (below : List Frame) (meth : Method) (c : Code) (H : Heap) (locs : List Loc) (cells slots : Nat) (Q : State → Prop) (g : JFrame) (q : Addr) : Prop :=
  ∀ T : State, T.heap = H → Stand p l e R s m args below meth c T locs cells slots → ∃ t, Steps p.tables e below ((T.setTop g).pushFrame (.throwing q)) t ∧ Q t
def vx_Run (p : Program) (l : Launch) (e : Env) (R : Room) (s : State) (m : MethodId) (args : Array Value) (below : List Frame) (meth : Method) (c : Code) (H : Heap) (locs : List Loc) (cells slots mc ms : Nat) (g : JFrame) (rest : List Value) (Qa : State → Outcome → State → Prop) (XC : String → State → State → Prop) (free : Addr → Prop) : Prop :=
  ∀ T : State, T.heap = H → Stand p l e R s m args below meth c T locs cells slots →
    (∃ (v : Option Value) (st₀ t T' : State) (L : List Loc), st₀.heap = H ∧ Stand p l e R s m args below meth c T' (locs ++ L) (cells + mc) (slots + ms) ∧ (∀ q ∈ L, free q.base) ∧ T'.heap = t.heap ∧ T'.vm = t.vm ∧ Qa st₀ (.returned v) t ∧
      Goes p e below T g T' { g with pc := g.pc + 3, stack := v.toList ++ rest }) ∨
    (∃ (q : Addr) (st₀ t T' : State) (L : List Loc) (E : String) (ce : Cell), st₀.heap = H ∧ Stand p l e R s m args below meth c T' (locs ++ L) (cells + mc) (slots + ms) ∧ (∀ z ∈ L, free z.base) ∧ T'.heap = t.heap ∧ T'.vm = t.vm ∧ XC E st₀ t ∧ t.heap[q]? = some ce ∧ ce.vm = .none ∧ s.vm.findClass E = some ce.cls ∧
      Steps p.tables e below (T.setTop g) ((T'.setTop { g with stack := rest }).pushFrame (.throwing q)))
def vx_X {S : Type} (px : S → Prop) (B : String → S → State → Prop) (A : Nat → Prop) : String → State → State → Prop := fun E st t => ∃ u : S, px u ∧ B E u t ∧ va_F A st t
section Runs
variable {p : Program} {l : Launch} {e : Env} {R : Room} {s : State} {m : MethodId} {args : Array Value} {below : List Frame} {meth : Method} {c : Code} {H : Heap} {locs : List Loc} {cells slots : Nat}
variable {y : MethodName} {bytes cc : ByteArray} {maxL nL mc ms n index : Nat} {ret : Option FieldType} {ws : List Cond} {rm : Room} {Pc : Array Value → State → Prop} {Qc : Array Value → State → Outcome → State → Prop} {XC : String → State → State → Prop} {free : Addr → Prop} {Ts : List Cond} {own C : String} {b : Addr} {As rest : List Value} {g : JFrame}
theorem vx_callBack (cb : CallB R s args own index y bytes maxL ret ws rm mc ms n) (hM : vx_Met l y ws rm Pc Qc XC mc ms free) (hbl : FrameBlind Pc) : vx_Back l R p e below s args y 3 8 (PreOf R mc ms Pc) (PostOf Qc mc ms free) (vx_Post XC mc ms free) := by
  obtain ⟨hrc, hrs, hfr, hlo, hws, hcw, -, hini, -⟩ := cb
  exact vx_back (bytes := bytes) (maxL := maxL) (ret := ret) hM hbl hrc hrs hfr hlo hws hcw (fun a' U hW => word_at hW (Or.inl (by first | rfl | simp [Cond.onTables, Cond.keeps, Cond.steady])) hini)
theorem vx_runV (S : CallFix p m c cc nL s args Ts own) (hM : vx_Met l y ws rm Pc Qc XC mc ms free) (cw : CallW R s args own C index y bytes maxL ret ws rm mc ms n) (hp : PreV s H C b Pc As)
    (hg : g.method = m) (hn : As.length = n) (hsize : g.locals.size = nL) (hstack : g.stack = As.reverse ++ .ref b :: rest) (hW : 2 * g.monitorRoom + (rest.map fun v => v.category).sum ≤ 8) (hdg : decode cc g.pc = .ok (.invokevirtual index, 3)) (hf : cells + mc ≤ R.cells ∧ slots + ms ≤ R.slots) :
    vx_Run p l e R s m args below meth c H locs cells slots mc ms g rest (Qc (Value.ref b :: As).toArray) XC free := by
  have hK : vx_Back l R p e below s args y 3 8 (PreOf R mc ms Pc) (PostOf Qc mc ms free) (vx_Post XC mc ms free) := vx_callBack cw.1 hM hp.1
  obtain ⟨⟨-, -, -, -, -, -, hcode, -, hy, hlen, hl⟩, hin, hse⟩ := cw
  obtain ⟨hx, hb, hml, ho, -⟩ := S
  obtain ⟨-, ⟨cellB, hcB, hoB, hclB⟩, hPc⟩ := hp
  intro T hT X
  rcases vx_callV X hx (C := C) (bytes := bytes) (maxL := maxL) (ret := ret) ho hl hin hse hcode hy hK (by rw [hT]; exact hcB) hoB hclB hg (hsize.trans hml.symm) (argsL := As) (rest := rest) (fun sig h => hn.trans (hlen sig h)) hstack hW (by rw [hb]; exact hdg)
    (fun vm₁ hW₁ => ⟨hf.1, hf.2, hPc (T.setVm vm₁) hT hW₁⟩) with ⟨v, vm₁, ⟨U', l2, c2, s2⟩, hW₁, X', ⟨g', mk, t, L, e1, e2, hq, h1, hL, h2, h3⟩, st⟩ | ⟨q, vm₁, ⟨U', l2, c2, s2⟩, hW₁, X', ⟨g', mk, t, L, E, ce, e1, e2, hq, hce, hcv, hcl, h1, hL, h2, h3⟩, st⟩
  · dsimp only [Pt.U, Pt.locs, Pt.cells, Pt.slots] at X' e1 e2 h1 h2 h3 st
    subst h1; subst h2; subst h3
    exact Or.inl ⟨v, (T.setVm vm₁).calling g' mk (Value.ref b :: As).toArray, t, U', L, hT, X', hL, e1, e2, hq, st⟩
  · dsimp only [Pt.U, Pt.locs, Pt.cells, Pt.slots] at X' e1 e2 h1 h2 h3 st hcl
    subst h1; subst h2; subst h3
    exact Or.inr ⟨q, (T.setVm vm₁).calling g' mk (Value.ref b :: As).toArray, t, U', L, E, ce, hT, X', hL, e1, e2, hq, hce, hcv, vx_cls hW₁ hcl, st⟩
theorem vx_runS (S : CallFix p m c cc nL s args Ts own) (hM : vx_Met l y ws rm Pc Qc XC mc ms free) (cw : CallB R s args own index y bytes maxL ret ws rm mc ms n ∧ (Cond.static y).before args s = true) (hp : PreS s H Pc As)
    (hg : g.method = m) (hn : As.length = n) (hsize : g.locals.size = nL) (hstack : g.stack = As.reverse ++ rest) (hW : 2 * g.monitorRoom + (rest.map fun v => v.category).sum ≤ 8) (hdg : decode cc g.pc = .ok (.invokestatic index, 3)) (hf : cells + mc ≤ R.cells ∧ slots + ms ≤ R.slots) :
    vx_Run p l e R s m args below meth c H locs cells slots mc ms g rest (Qc As.toArray) XC free := by
  have hK : vx_Back l R p e below s args y 3 8 (PreOf R mc ms Pc) (PostOf Qc mc ms free) (vx_Post XC mc ms free) := vx_callBack cw.1 hM hp.1
  obtain ⟨⟨-, -, -, -, -, -, hcode, hini, hy, hlen, hl⟩, hstt⟩ := cw
  obtain ⟨hx, hb, hml, ho, -⟩ := S
  intro T hT X
  rcases vx_callS X hx (bytes := bytes) (maxL := maxL) (ret := ret) ho hl hstt hini hcode hy hK hg (hsize.trans hml.symm) (argsL := As) (rest := rest) (fun sig h => hn.trans (hlen sig h)) hstack hW (by rw [hb]; exact hdg)
    (fun vm₁ hW₁ => ⟨hf.1, hf.2, hp.2 (T.setVm vm₁) hT hW₁⟩) with ⟨v, vm₁, ⟨U', l2, c2, s2⟩, hW₁, X', ⟨g', mk, t, L, e1, e2, hq, h1, hL, h2, h3⟩, st⟩ | ⟨q, vm₁, ⟨U', l2, c2, s2⟩, hW₁, X', ⟨g', mk, t, L, E, ce, e1, e2, hq, hce, hcv, hcl, h1, hL, h2, h3⟩, st⟩
  · dsimp only [Pt.U, Pt.locs, Pt.cells, Pt.slots] at X' e1 e2 h1 h2 h3 st
    subst h1; subst h2; subst h3
    exact Or.inl ⟨v, (T.setVm vm₁).calling g' mk As.toArray, t, U', L, hT, X', hL, e1, e2, hq, st⟩
  · dsimp only [Pt.U, Pt.locs, Pt.cells, Pt.slots] at X' e1 e2 h1 h2 h3 st hcl
    subst h1; subst h2; subst h3
    exact Or.inr ⟨q, (T.setVm vm₁).calling g' mk As.toArray, t, U', L, E, ce, hT, X', hL, e1, e2, hq, hce, hcv, vx_cls hW₁ hcl, st⟩
end Runs
section Rows
variable {p : Program} {l : Launch} {e : Env} {R : Room} {s : State} {m : MethodId} {args : Array Value} {below : List Frame} {meth : Method} {c : Code} {H : Heap} {locs : List Loc} {cells slots : Nat} {Q : State → Prop}
variable {mc ms : Nat} {free : Addr → Prop} {A0 A1 : Nat → Prop} {H0 : Heap} {a : Array Value} {pc : Nat} {ls : Array Slot} {st0 rest : List Value}
theorem vx_keep {st₀ t T' : State} {L : List Loc} (h0 : st₀.heap = H) (e1 : T'.heap = t.heap) (hS : va_S A0 H0 H locs) (hA : ∀ q, q < H.size → A1 q → A0 q) (hf : ∀ q, free q → A0 q) (hL : ∀ q ∈ L, free q.base) (hF : va_F A1 st₀ t) :
    H.size ≤ T'.heap.size ∧ (∀ q : Nat, q < H.size → ¬ A1 q → T'.heap[q]? = H[q]?) ∧ va_S A0 H0 T'.heap (locs ++ L) := by
  obtain ⟨hz, hk⟩ := hF
  rw [h0] at hz hk
  exact ⟨by rw [e1]; exact hz, fun q h1 h2 => by rw [e1]; exact hk q h1 h2,
    ⟨Nat.le_trans hS.1 (by rw [e1]; exact hz), fun q h1 h2 => by rw [e1, hk q (Nat.lt_of_lt_of_le h1 hS.1) (fun z => h2 (hA q (Nat.lt_of_lt_of_le h1 hS.1) z))]; exact hS.2.1 q h1 h2, fun q hq => by
      rcases List.mem_append.mp hq with h | h
      · exact hS.2.2 q h
      · exact hf _ (hL q h)⟩⟩
theorem vx_calli {S SX : Type} {post : Int32 → S → Prop} {px : SX → Prop} {B : S → State → Prop} {BX : String → SX → State → Prop} {AX : Nat → Prop} (hr : vx_Run p l e R s m args below meth c H locs cells slots mc ms (F0 m pc ls st0) rest (va_Qi post B A1 a) (vx_X px BX AX) free) (hS : va_S A0 H0 H locs) (hA : ∀ q, q < H.size → A1 q → A0 q) (hf : ∀ q, free q → A0 q) (hAX : ∀ q, q < H.size → AX q → A0 q)
    (kx : ∀ (E : String) (ce : Cell) (q9 : Addr) (u : SX) (t : State) (H1 : Heap) (locs1 : List Loc), t.heap = H1 → s.vm.Alike t.vm → px u → BX E u t → H.size ≤ H1.size → (∀ q : Nat, q < H.size → ¬ AX q → H1[q]? = H[q]?) → va_S A0 H0 H1 locs1 → H1[q9]? = some ce → ce.vm = .none → s.vm.findClass E = some ce.cls → vx_W p l e R s m args below meth c H1 locs1 (cells + mc) (slots + ms) Q (F0 m pc ls rest) q9)
    (kk : ∀ (r : Int32) (u : S) (t : State) (H1 : Heap) (locs1 : List Loc), t.heap = H1 → s.vm.Alike t.vm → post r u → B u t → H.size ≤ H1.size → (∀ q : Nat, q < H.size → ¬ A1 q → H1[q]? = H[q]?) → va_S A0 H0 H1 locs1 → W p l e R s m args below meth c H1 locs1 (cells + mc) (slots + ms) Q (F0 m (pc + 3) ls (.int r :: rest))) : W p l e R s m args below meth c H locs cells slots Q (F0 m pc ls st0) := by
  intro T hT X
  rcases hr T hT X with ⟨v, st₀, t, T', L, h0, X', hL, e1, e2, ⟨⟨r, u, hv, hp, hb⟩, hF⟩, st⟩ | ⟨q, st₀, t, T', L, E, ce, h0, X', hL, e1, e2, ⟨u, hp, hb, hF⟩, hce, hcv, hcl, st⟩
  · cases hv
    obtain ⟨k1, k2, k3⟩ := vx_keep h0 e1 hS hA hf hL hF
    obtain ⟨t2, a1, b1⟩ := kk r u t T'.heap (locs ++ L) e1.symm (by rw [← e2]; exact X'.warmed.alike) hp hb k1 k2 k3 T' rfl X'
    exact ⟨t2, st t2 a1, b1⟩
  · obtain ⟨k1, k2, k3⟩ := vx_keep h0 e1 hS hAX hf hL hF
    obtain ⟨t2, a1, b1⟩ := kx E ce q u t T'.heap (locs ++ L) e1.symm (by rw [← e2]; exact X'.warmed.alike) hp hb k1 k2 k3 (by rw [e1]; exact hce) hcv hcl T' rfl X'
    exact ⟨t2, st.trans a1, b1⟩
theorem vx_calll {S SX : Type} {post : Int64 → S → Prop} {px : SX → Prop} {B : S → State → Prop} {BX : String → SX → State → Prop} {AX : Nat → Prop} (hr : vx_Run p l e R s m args below meth c H locs cells slots mc ms (F0 m pc ls st0) rest (va_Ql post B A1 a) (vx_X px BX AX) free) (hS : va_S A0 H0 H locs) (hA : ∀ q, q < H.size → A1 q → A0 q) (hf : ∀ q, free q → A0 q) (hAX : ∀ q, q < H.size → AX q → A0 q)
    (kx : ∀ (E : String) (ce : Cell) (q9 : Addr) (u : SX) (t : State) (H1 : Heap) (locs1 : List Loc), t.heap = H1 → s.vm.Alike t.vm → px u → BX E u t → H.size ≤ H1.size → (∀ q : Nat, q < H.size → ¬ AX q → H1[q]? = H[q]?) → va_S A0 H0 H1 locs1 → H1[q9]? = some ce → ce.vm = .none → s.vm.findClass E = some ce.cls → vx_W p l e R s m args below meth c H1 locs1 (cells + mc) (slots + ms) Q (F0 m pc ls rest) q9)
    (kk : ∀ (r : Int64) (u : S) (t : State) (H1 : Heap) (locs1 : List Loc), t.heap = H1 → s.vm.Alike t.vm → post r u → B u t → H.size ≤ H1.size → (∀ q : Nat, q < H.size → ¬ A1 q → H1[q]? = H[q]?) → va_S A0 H0 H1 locs1 → W p l e R s m args below meth c H1 locs1 (cells + mc) (slots + ms) Q (F0 m (pc + 3) ls (.long r :: rest))) : W p l e R s m args below meth c H locs cells slots Q (F0 m pc ls st0) := by
  intro T hT X
  rcases hr T hT X with ⟨v, st₀, t, T', L, h0, X', hL, e1, e2, ⟨⟨r, u, hv, hp, hb⟩, hF⟩, st⟩ | ⟨q, st₀, t, T', L, E, ce, h0, X', hL, e1, e2, ⟨u, hp, hb, hF⟩, hce, hcv, hcl, st⟩
  · cases hv
    obtain ⟨k1, k2, k3⟩ := vx_keep h0 e1 hS hA hf hL hF
    obtain ⟨t2, a1, b1⟩ := kk r u t T'.heap (locs ++ L) e1.symm (by rw [← e2]; exact X'.warmed.alike) hp hb k1 k2 k3 T' rfl X'
    exact ⟨t2, st t2 a1, b1⟩
  · obtain ⟨k1, k2, k3⟩ := vx_keep h0 e1 hS hAX hf hL hF
    obtain ⟨t2, a1, b1⟩ := kx E ce q u t T'.heap (locs ++ L) e1.symm (by rw [← e2]; exact X'.warmed.alike) hp hb k1 k2 k3 (by rw [e1]; exact hce) hcv hcl T' rfl X'
    exact ⟨t2, st.trans a1, b1⟩
theorem vx_callf {S SX : Type} {post : UInt32 → S → Prop} {px : SX → Prop} {B : S → State → Prop} {BX : String → SX → State → Prop} {AX : Nat → Prop} (hr : vx_Run p l e R s m args below meth c H locs cells slots mc ms (F0 m pc ls st0) rest (va_Qf post B A1 a) (vx_X px BX AX) free) (hS : va_S A0 H0 H locs) (hA : ∀ q, q < H.size → A1 q → A0 q) (hf : ∀ q, free q → A0 q) (hAX : ∀ q, q < H.size → AX q → A0 q)
    (kx : ∀ (E : String) (ce : Cell) (q9 : Addr) (u : SX) (t : State) (H1 : Heap) (locs1 : List Loc), t.heap = H1 → s.vm.Alike t.vm → px u → BX E u t → H.size ≤ H1.size → (∀ q : Nat, q < H.size → ¬ AX q → H1[q]? = H[q]?) → va_S A0 H0 H1 locs1 → H1[q9]? = some ce → ce.vm = .none → s.vm.findClass E = some ce.cls → vx_W p l e R s m args below meth c H1 locs1 (cells + mc) (slots + ms) Q (F0 m pc ls rest) q9)
    (kk : ∀ (r : UInt32) (u : S) (t : State) (H1 : Heap) (locs1 : List Loc), t.heap = H1 → s.vm.Alike t.vm → post r u → B u t → H.size ≤ H1.size → (∀ q : Nat, q < H.size → ¬ A1 q → H1[q]? = H[q]?) → va_S A0 H0 H1 locs1 → W p l e R s m args below meth c H1 locs1 (cells + mc) (slots + ms) Q (F0 m (pc + 3) ls (.float r :: rest))) : W p l e R s m args below meth c H locs cells slots Q (F0 m pc ls st0) := by
  intro T hT X
  rcases hr T hT X with ⟨v, st₀, t, T', L, h0, X', hL, e1, e2, ⟨⟨r, u, hv, hp, hb⟩, hF⟩, st⟩ | ⟨q, st₀, t, T', L, E, ce, h0, X', hL, e1, e2, ⟨u, hp, hb, hF⟩, hce, hcv, hcl, st⟩
  · cases hv
    obtain ⟨k1, k2, k3⟩ := vx_keep h0 e1 hS hA hf hL hF
    obtain ⟨t2, a1, b1⟩ := kk r u t T'.heap (locs ++ L) e1.symm (by rw [← e2]; exact X'.warmed.alike) hp hb k1 k2 k3 T' rfl X'
    exact ⟨t2, st t2 a1, b1⟩
  · obtain ⟨k1, k2, k3⟩ := vx_keep h0 e1 hS hAX hf hL hF
    obtain ⟨t2, a1, b1⟩ := kx E ce q u t T'.heap (locs ++ L) e1.symm (by rw [← e2]; exact X'.warmed.alike) hp hb k1 k2 k3 (by rw [e1]; exact hce) hcv hcl T' rfl X'
    exact ⟨t2, st.trans a1, b1⟩
theorem vx_calld {S SX : Type} {post : UInt64 → S → Prop} {px : SX → Prop} {B : S → State → Prop} {BX : String → SX → State → Prop} {AX : Nat → Prop} (hr : vx_Run p l e R s m args below meth c H locs cells slots mc ms (F0 m pc ls st0) rest (va_Qd post B A1 a) (vx_X px BX AX) free) (hS : va_S A0 H0 H locs) (hA : ∀ q, q < H.size → A1 q → A0 q) (hf : ∀ q, free q → A0 q) (hAX : ∀ q, q < H.size → AX q → A0 q)
    (kx : ∀ (E : String) (ce : Cell) (q9 : Addr) (u : SX) (t : State) (H1 : Heap) (locs1 : List Loc), t.heap = H1 → s.vm.Alike t.vm → px u → BX E u t → H.size ≤ H1.size → (∀ q : Nat, q < H.size → ¬ AX q → H1[q]? = H[q]?) → va_S A0 H0 H1 locs1 → H1[q9]? = some ce → ce.vm = .none → s.vm.findClass E = some ce.cls → vx_W p l e R s m args below meth c H1 locs1 (cells + mc) (slots + ms) Q (F0 m pc ls rest) q9)
    (kk : ∀ (r : UInt64) (u : S) (t : State) (H1 : Heap) (locs1 : List Loc), t.heap = H1 → s.vm.Alike t.vm → post r u → B u t → H.size ≤ H1.size → (∀ q : Nat, q < H.size → ¬ A1 q → H1[q]? = H[q]?) → va_S A0 H0 H1 locs1 → W p l e R s m args below meth c H1 locs1 (cells + mc) (slots + ms) Q (F0 m (pc + 3) ls (.double r :: rest))) : W p l e R s m args below meth c H locs cells slots Q (F0 m pc ls st0) := by
  intro T hT X
  rcases hr T hT X with ⟨v, st₀, t, T', L, h0, X', hL, e1, e2, ⟨⟨r, u, hv, hp, hb⟩, hF⟩, st⟩ | ⟨q, st₀, t, T', L, E, ce, h0, X', hL, e1, e2, ⟨u, hp, hb, hF⟩, hce, hcv, hcl, st⟩
  · cases hv
    obtain ⟨k1, k2, k3⟩ := vx_keep h0 e1 hS hA hf hL hF
    obtain ⟨t2, a1, b1⟩ := kk r u t T'.heap (locs ++ L) e1.symm (by rw [← e2]; exact X'.warmed.alike) hp hb k1 k2 k3 T' rfl X'
    exact ⟨t2, st t2 a1, b1⟩
  · obtain ⟨k1, k2, k3⟩ := vx_keep h0 e1 hS hAX hf hL hF
    obtain ⟨t2, a1, b1⟩ := kx E ce q u t T'.heap (locs ++ L) e1.symm (by rw [← e2]; exact X'.warmed.alike) hp hb k1 k2 k3 (by rw [e1]; exact hce) hcv hcl T' rfl X'
    exact ⟨t2, st.trans a1, b1⟩
theorem vx_callv {S SX : Type} {post : S → Prop} {px : SX → Prop} {B : S → State → Prop} {BX : String → SX → State → Prop} {AX : Nat → Prop} (hr : vx_Run p l e R s m args below meth c H locs cells slots mc ms (F0 m pc ls st0) rest (va_Qv post B A1 a) (vx_X px BX AX) free) (hS : va_S A0 H0 H locs) (hA : ∀ q, q < H.size → A1 q → A0 q) (hf : ∀ q, free q → A0 q) (hAX : ∀ q, q < H.size → AX q → A0 q)
    (kx : ∀ (E : String) (ce : Cell) (q9 : Addr) (u : SX) (t : State) (H1 : Heap) (locs1 : List Loc), t.heap = H1 → s.vm.Alike t.vm → px u → BX E u t → H.size ≤ H1.size → (∀ q : Nat, q < H.size → ¬ AX q → H1[q]? = H[q]?) → va_S A0 H0 H1 locs1 → H1[q9]? = some ce → ce.vm = .none → s.vm.findClass E = some ce.cls → vx_W p l e R s m args below meth c H1 locs1 (cells + mc) (slots + ms) Q (F0 m pc ls rest) q9)
    (kk : ∀ (u : S) (t : State) (H1 : Heap) (locs1 : List Loc), t.heap = H1 → s.vm.Alike t.vm → post u → B u t → H.size ≤ H1.size → (∀ q : Nat, q < H.size → ¬ A1 q → H1[q]? = H[q]?) → va_S A0 H0 H1 locs1 → W p l e R s m args below meth c H1 locs1 (cells + mc) (slots + ms) Q (F0 m (pc + 3) ls (rest))) : W p l e R s m args below meth c H locs cells slots Q (F0 m pc ls st0) := by
  intro T hT X
  rcases hr T hT X with ⟨v, st₀, t, T', L, h0, X', hL, e1, e2, ⟨⟨u, hv, hp, hb⟩, hF⟩, st⟩ | ⟨q, st₀, t, T', L, E, ce, h0, X', hL, e1, e2, ⟨u, hp, hb, hF⟩, hce, hcv, hcl, st⟩
  · cases hv
    obtain ⟨k1, k2, k3⟩ := vx_keep h0 e1 hS hA hf hL hF
    obtain ⟨t2, a1, b1⟩ := kk u t T'.heap (locs ++ L) e1.symm (by rw [← e2]; exact X'.warmed.alike) hp hb k1 k2 k3 T' rfl X'
    exact ⟨t2, st t2 a1, b1⟩
  · obtain ⟨k1, k2, k3⟩ := vx_keep h0 e1 hS hAX hf hL hF
    obtain ⟨t2, a1, b1⟩ := kx E ce q u t T'.heap (locs ++ L) e1.symm (by rw [← e2]; exact X'.warmed.alike) hp hb k1 k2 k3 (by rw [e1]; exact hce) hcv hcl T' rfl X'
    exact ⟨t2, st.trans a1, b1⟩
/-- caught by the row x of this method's table; the rows ahead don't take it -/
theorem vx_catch {own name : String} {E : String} {ce : Cell} {q : Addr} (hown : s.vm.findClass own = some m.cls) (pre : List ExceptionTableEntry) (x : ExceptionTableEntry) (suf : List ExceptionTableEntry) (hsplit : c.exceptionTable.toList = pre ++ x :: suf)
    (hpass : ∀ z ∈ pre, covers z pc = false ∨ (z.catchType ≠ 0 ∧ ∃ nm : String, (Cond.classLink own z.catchType nm).before args s = true ∧ va_Nc E nm s)) (hx : covers x pc = true) (h0 : x.catchType ≠ 0)
    (hlink : (Cond.classLink own x.catchType name).before args s = true) (hcast : (Cond.castable E name).before args s = true) (hcell : H[q]? = some ce) (hv : ce.vm = .none) (hcl : s.vm.findClass E = some ce.cls)
    (kk : W p l e R s m args below meth c H locs cells slots Q (F0 m x.handlerPc ls [.ref q])) : vx_W p l e R s m args below meth c H locs cells slots Q (F0 m pc ls rest) q := by
  intro T hT X
  have hpl : e.platform.magicAccessors = ({} : Platform).magicAccessors := by rw [X.admits.platform]
  obtain ⟨c3, c4, hc3, hc4, hasg⟩ := Cond.castable_spec hcast
  cases Option.some.inj (hc3.symm.trans hcl)
  obtain ⟨c5, hc5, hcl5⟩ := Cond.classLink_spec hown hlink e.platform hpl
  cases Option.some.inj (hc4.symm.trans hc5)
  obtain ⟨vm', X', st⟩ := X.thenCaughtThrough q (g := F0 m pc ls rest) rfl (Steps.refl _) (by rw [hT]; exact hcell) (by rw [hv]; rfl) (by obtain ⟨k9, h9, -⟩ := Vm.findClass_spec hcl; exact ⟨k9, h9⟩) pre x suf hsplit
    (fun z hz => by
      rcases hpass z hz with h | ⟨hz0, nm, hl1, hn1⟩
      · exact Or.inl h
      · obtain ⟨c6, hc6, hcl6⟩ := Cond.classLink_spec hown hl1 e.platform hpl
        obtain ⟨a8, b8, h1, h2, h3⟩ := hn1
        cases Option.some.inj (h1.symm.trans hcl)
        cases Option.some.inj (h2.symm.trans hc6)
        exact Or.inr ⟨hz0, _, hcl6, h3⟩) hx (Or.inr ⟨h0, c4, hcl5, hasg⟩)
  obtain ⟨t, a1, b1⟩ := kk (T.setVm vm') hT X'
  exact ⟨t, st.trans a1, b1⟩
end Rows
section Ends
variable {p : Program} {l : Launch} {e : Env} {R : Room} {s : State} {m : MethodId} {args : Array Value} {below : List Frame} {meth : Method} {c : Code} {H : Heap} {locs : List Loc} {cells slots : Nat} {Q : State → Prop}
variable {mc ms : Nat} {free : Addr → Prop} {A0 A1 : Nat → Prop} {H0 : Heap} {a : Array Value} {ls : Array Slot} {st0 rest : List Value}
variable {Qc : Array Value → State → Outcome → State → Prop} {XC : String → State → State → Prop}
/-- what a body that may throw owes at its end -/
def vx_MQ (below : List Frame) (Qc : Array Value → State → Outcome → State → Prop) (XC : String → State → State → Prop) (a : Array Value) (s : State) (mc ms : Nat) (free : Addr → Prop) : State → Prop := fun t =>
  ∃ o, t.status = .running ∧ Ended t below o ∧ vx_Q Qc XC mc ms free a s o t
theorem vx_ret {g : JFrame} {mc ms : Nat} (k : W p l e R s m args below meth c H locs cells slots (MQ below Qc args s mc ms free) g) : W p l e R s m args below meth c H locs cells slots (vx_MQ below Qc XC args s mc ms free) g := by
  intro T hT X
  obtain ⟨t, a1, o, b1, b2, b3, b4⟩ := k T hT X
  exact ⟨t, a1, o, b1, b2, Or.inl ⟨b3, b4⟩⟩
/-- not caught here: it goes on to the caller -/
theorem vx_widen {g : JFrame} {q : Addr} {k n : Nat} (h1 : cells ≤ k) (h2 : slots ≤ n) (kk : vx_W p l e R s m args below meth c H locs k n Q g q) : vx_W p l e R s m args below meth c H locs cells slots Q g q := fun T hT X => kk T hT (stand_widen X h1 h2)
theorem vx_out {pc : Nat} {E : String} {ce : Cell} {q : Addr} {mc ms : Nat} (hout : ∀ x ∈ c.exceptionTable.toList, covers x pc = false) (hlocks : meth.locks = false) (hcell : H[q]? = some ce) (hv : ce.vm = .none) (hcl : s.vm.findClass E = some ce.cls)
    (hx : ∀ t : State, t.heap = H → s.vm.Alike t.vm → XC E s t) (hf : ∀ z ∈ locs, free z.base) (hc : cells ≤ mc) (hs : slots ≤ ms) :
    vx_W p l e R s m args below meth c H locs cells slots (vx_MQ below Qc XC args s mc ms free) (F0 m pc ls rest) q := by
  intro T hT X
  obtain ⟨st1, hrun, hend, hW, hsm⟩ := X.leaveThrown q (g := F0 m pc ls rest) rfl rfl rfl hout hlocks
  have hcell9 : (T.setFrames (.throwing q :: below)).heap[q]? = some ce := by
    show T.heap[q]? = some ce
    rw [hT]; exact hcell
  exact ⟨_, st1, .threw q, hrun, hend, Or.inr ⟨q, rfl, E, ce, locs, hx _ hT hW.alike, hcell9, hv, hcl, hW, hsm.mono hc hs, hf⟩⟩
theorem vx_frame {U : State} {k n : Nat} (h : s.sameButNew ({ U with vm := s.vm } : State) locs k n) : s.heap.size ≤ U.heap.size ∧ ∀ q : Nat, q < s.heap.size → (∀ z ∈ locs, z.base ≠ q) → U.heap[q]? = s.heap[q]? := by
  obtain ⟨-, h2, -, -, -, h6⟩ := h
  refine ⟨h2, fun q hq hz => ?_⟩
  obtain ⟨c9, e1, e2, e3, e4⟩ := h6 q _ (Array.getElem?_eq_getElem hq)
  have hs : c9.slots = (s.heap[q]).slots := Array.ext_getElem? fun i => e4 i fun hm => hz _ hm rfl
  have h9 : c9 = s.heap[q] := by
    rw [hs] at e2
    exact e2
  have e5 : U.heap[q]? = some c9 := e1
  rw [e5, h9, Array.getElem?_eq_getElem hq]
/-- the words of a throw but the four that speak of the heap -/
def vx_no (w : Cond) : Bool := decide (w ≠ .isRef (.static Bundle.tN "UNASSIGNED_STACK" Bundle.steD)) && decide (w ≠ .isRef (.static Bundle.tN "SUPPRESSED_SENTINEL" Bundle.listD)) && decide (w ≠ .laysStatic Bundle.tN "UNASSIGNED_STACK" Bundle.steD) && decide (w ≠ .laysStatic Bundle.tN "SUPPRESSED_SENTINEL" Bundle.listD)
def vx_at0 (own : String) (ic : Nat) (X : String) (names : List String) : List Cond := (Bundle.ownAtoms0 own ic X names).filter vx_no
def vx_atS (own : String) (ic : Nat) (X : String) (names : List String) : List Cond := (Bundle.ownAtoms own ic X names).filter vx_no
/-- a word that the tables alone decide, or a good one -/
def vx_ot (w : Cond) : Bool := w.onTables || goodWord w
theorem vx_ot_at {args a' : Array Value} {s U : State} {w : Cond} (hW : s.WarmedH U.vm) (hvm : s.vm = U.vm) (hg : vx_ot w = true) (h : w.before args s = true) : w.before a' U = true := by
  simp only [vx_ot, Bool.or_eq_true] at hg
  rcases hg with hg | hg
  · exact va_tabs hg hvm h
  · exact word_at hW (good_of_word hg) h
/-- a list's words: the good ones out of the method's own list, the others by premises of their own -/
theorem vx_hat {args : Array Value} {s : State} {L B : List Cond} (h1 : ∀ w ∈ L.filter goodWord, w.before args s = true) (h2 : ∀ w ∈ L.filter (fun w => !goodWord w), w ∈ B) (h3 : ∀ w ∈ B, w.before args s = true) : ∀ w ∈ L, w.before args s = true := by
  intro w hw
  by_cases g : goodWord w = true
  · exact h1 w (List.mem_filter.mpr ⟨hw, g⟩)
  · refine h3 w (h2 w (List.mem_filter.mpr ⟨hw, ?_⟩))
    show (!goodWord w) = true
    cases hgw : goodWord w
    · rfl
    · exact absurd hgw g
theorem vx_c {args : Array Value} {s : State} {w : Cond} {B : List Cond} (h : w.before args s = true) (t : ∀ w ∈ B, w.before args s = true) : ∀ w' ∈ w :: B, w'.before args s = true := fun w' h' => (List.mem_cons.mp h').elim (fun e => by rw [e]; exact h) (t w')
theorem vx_n {args : Array Value} {s : State} : ∀ w ∈ ([] : List Cond), w.before args s = true := fun _ h => nomatch h
theorem vx_own {args : Array Value} {s : State} {L : List Cond} (h1 : ∀ w ∈ L.filter vx_no, w.before args s = true)
    (hU : (Cond.isRef (.static Bundle.tN "UNASSIGNED_STACK" Bundle.steD)).before args s = true) (hN : (Cond.isRef (.static Bundle.tN "SUPPRESSED_SENTINEL" Bundle.listD)).before args s = true)
    (lU : (Cond.laysStatic Bundle.tN "UNASSIGNED_STACK" Bundle.steD).before args s = true) (lN : (Cond.laysStatic Bundle.tN "SUPPRESSED_SENTINEL" Bundle.listD).before args s = true) : ∀ w ∈ L, w.before args s = true := by
  intro w hw
  by_cases e1 : w = .isRef (.static Bundle.tN "UNASSIGNED_STACK" Bundle.steD)
  · rw [e1]; exact hU
  · by_cases e2 : w = .isRef (.static Bundle.tN "SUPPRESSED_SENTINEL" Bundle.listD)
    · rw [e2]; exact hN
    · by_cases e3 : w = .laysStatic Bundle.tN "UNASSIGNED_STACK" Bundle.steD
      · rw [e3]; exact lU
      · by_cases e4 : w = .laysStatic Bundle.tN "SUPPRESSED_SENTINEL" Bundle.listD
        · rw [e4]; exact lN
        · exact h1 w (List.mem_filter.mpr ⟨hw, by unfold vx_no; rw [decide_eq_true e1, decide_eq_true e2, decide_eq_true e3, decide_eq_true e4]; rfl⟩)
/-- where a static field lies, its class's statics cell in H -/
def vx_L (C n d : String) (A : Nat → Prop) (U : State) (H : Heap) : Prop := ∃ (c : ClassId) (k : Class) (i : Nat) (f : Field) (a : Nat) (cell : Cell), U.vm.findClass C = some c ∧ U.fieldFound? C n d = some (c, k, i, f) ∧ f.isStatic = true ∧ k.statics = some a ∧ H[a]? = some cell ∧ cell.vm.isStatics = true ∧ cell.cls = c ∧ f.slot < cell.slots.size ∧ k.staticTypes[f.slot]? = some f.type ∧ ¬ A a
theorem vx_L.moved {C n d : String} {A : Nat → Prop} {u U : State} {H : Heap} (hvm : u.vm.Alike U.vm) (h : vx_L C n d A u H) : vx_L C n d A U H := by
  obtain ⟨c, k, i, f, a, cell, h1, h2, h3, h4, h5, h6, h7, h8, h9, h10⟩ := h
  obtain ⟨k', hi', he⟩ := State.fieldFound?_setVm hvm h2
  exact ⟨c, k', i, f, a, cell, by rw [hvm.findClass]; exact h1, hi', h3, by rw [he]; exact h4, h5, h6, h7, h8, by rw [he]; exact h9, h10⟩
theorem vx_L.kept {C n d : String} {A : Nat → Prop} {U : State} {H H1 : Heap} (h : vx_L C n d A U H) (hq : ∀ a : Nat, a < H.size → ¬ A a → H1[a]? = H[a]?) : vx_L C n d A U H1 := by
  obtain ⟨c, k, i, f, a, cell, h1, h2, h3, h4, h5, h6, h7, h8, h9, h10⟩ := h
  exact ⟨c, k, i, f, a, cell, h1, h2, h3, h4, by rw [hq a (Array.getElem?_eq_some_iff.mp h5).1 h10]; exact h5, h6, h7, h8, h9, h10⟩
theorem vx_L.narrow {C n d : String} {A B : Nat → Prop} {U : State} {H : Heap} (h : vx_L C n d A U H) (hAB : ∀ q, B q → A q) : vx_L C n d B U H := by
  obtain ⟨c, k, i, f, a, cell, h1, h2, h3, h4, h5, h6, h7, h8, h9, h10⟩ := h
  exact ⟨c, k, i, f, a, cell, h1, h2, h3, h4, h5, h6, h7, h8, h9, fun z => h10 (hAB _ z)⟩
theorem vx_L.word {C n d : String} {A : Nat → Prop} {s : State} {args : Array Value} (h : vx_L C n d A s s.heap) : (Cond.laysStatic C n d).before args s = true := by
  obtain ⟨c, k, i, f, a, cell, h1, h2, h3, h4, h5, h6, h7, h8, h9, -⟩ := h
  show (Cond.laysStatic C n d).holds args s none s [] = true
  exact Cond.laysStatic_of h1 h2 h3 h4 h5 h6 h7 h8 h9
/-- .. and what it holds: null or some reference -/
def vx_Zq (C n d : String) (A : Nat → Prop) (U : State) (H : Heap) : Prop := va_Zq C n d A U H ∧ vx_L C n d A U H
theorem vx_Zq.moved {C n d : String} {A : Nat → Prop} {u U : State} {H : Heap} (hvm : u.vm.Alike U.vm) (h : vx_Zq C n d A u H) : vx_Zq C n d A U H := ⟨va_Zq.moved hvm h.1, vx_L.moved hvm h.2⟩
theorem vx_Zq.kept {C n d : String} {A : Nat → Prop} {U : State} {H H1 : Heap} (h : vx_Zq C n d A U H) (hq : ∀ a : Nat, a < H.size → ¬ A a → H1[a]? = H[a]?) : vx_Zq C n d A U H1 := ⟨va_Zq.kept h.1 hq, vx_L.kept h.2 hq⟩
theorem vx_Zq.narrow {C n d : String} {A B : Nat → Prop} {U : State} {H : Heap} (h : vx_Zq C n d A U H) (hAB : ∀ q, B q → A q) : vx_Zq C n d B U H := ⟨va_Zq.narrow h.1 hAB, vx_L.narrow h.2 hAB⟩
theorem vx_Zqof {args : Array Value} {s : State} {C n d : String} {A : Nat → Prop} (hl : (Cond.laysStatic C n d).before args s = true) (hini : (Cond.initialized C).before args s = true) (h : (Cond.isRef (.static C n d)).before args s = true) (hA : ∀ a : Nat, a < s.heap.size → ¬ A a) : vx_Zq C n d A s s.heap := by
  refine ⟨va_Zqof hl hini h hA, ?_⟩
  obtain ⟨c, k, i, f, a, cell, h1, h2, h3, h4, h5, h6, h7, h8, h9⟩ := Cond.laysStatic_spec hl
  exact ⟨c, k, i, f, a, cell, h1, h2, h3, h4, h5, h6, h7, h8, h9, hA a (Array.getElem?_eq_some_iff.mp h5).1⟩
theorem vx_isRef {C n d : String} {v : Value} {A : Nat → Prop} {s : State} {args : Array Value} (h : va_Z C n d v A s s.heap) (hv : v.isRef = true) : (Cond.isRef (.static C n d)).before args s = true := by
  obtain ⟨cf, kf, fi, f, a, cell, h1, h2, h3, h4, h5, h6, h7, -⟩ := h
  have he : (Term.static C n d).eval args s none [] s = some v := by
    simp [Term.eval, State.fieldNamed?, h1, h2, h4, h5, h6, h7]
  simp only [Cond.before, Cond.holds, Cond.value, he]
  cases v <;> simp_all [Value.isRef]
theorem vx_isRefq {C n d : String} {A : Nat → Prop} {s : State} {args : Array Value} (h : va_Zq C n d A s s.heap) : (Cond.isRef (.static C n d)).before args s = true := by
  rcases h with h | ⟨t, h⟩
  · exact vx_isRef h rfl
  · exact vx_isRef h rfl
/-- the same frame, seen from here: as if the method were called anew in this heap -/
theorem vx_rebase {T : State} (X : Stand p l e R s m args below meth c T locs cells slots) {R' : Room} (hf : R'.frames ≤ R.frames) (hl : R'.locals ≤ R.locals) (hc : cells + R'.cells ≤ R.cells) (hs : slots + R'.slots ≤ R.slots) :
    Stand p l e R' ((T.setVm s.vm).setFrames (.invoking m args :: below)) m args below meth c T [] 0 0 := by
  have htop : (T.setVm s.vm).topJava?.isSome := X.here.top
  have hF : ((T.setVm s.vm).setFrames (.invoking m args :: below)).frames = .invoking m args :: below := State.frames_setFrames _ (State.cur_lt_of_top htop)
  obtain ⟨g₀, hg0⟩ := Option.isSome_iff_exists.mp htop
  obtain ⟨r, hr⟩ := State.topJava?_eq_some.mp hg0
  have hl9 : e.platform.stackLimits (T.setVm s.vm).me = e.platform.stackLimits s.me := X.limits
  have hb9 : (T.setVm s.vm).me.stackBytes = s.me.stackBytes := X.bytes
  refine ⟨X.admits, X.cas, X.clock, hF, ?_, X.hears, X.method, X.code, X.here, X.tail, X.warmed, ?_, ?_, ?_⟩
  · have h := X.room
    have hU : ((T.setVm s.vm).setFrames (.invoking m args :: below)).localsInUse = s.localsInUse := by
      rw [State.localsInUse_invoking hF (meth := meth) (c := c) X.method X.code, State.localsInUse_invoking X.frames X.method X.code]
    simp only [State.hasRoom, Bool.and_eq_true, decide_eq_true_eq] at h ⊢
    obtain ⟨⟨⟨⟨h1, h2, h3, h4, h5, h6⟩, h7⟩, h8⟩, h9⟩ := h
    rw [X.frames, List.length_cons] at h2 h3
    have q1 := X.heapSize
    have q2 := X.used
    simp only [hF, hU, List.length_cons, State.stackLimits_setFrames, State.stackBytes_setFrames, hl9, hb9]
    refine ⟨⟨⟨⟨by omega, by omega, by omega, by omega, by omega, h6⟩, ?_⟩, ?_⟩, X.book⟩
    · show T.heap.size + R'.cells ≤ e.platform.maxCells
      omega
    · show T.slotsUsed + R'.slots ≤ e.platform.maxSlots
      omega
  · rw [State.stackLimits_setFrames]; rfl
  · rw [State.stackBytes_setFrames]; rfl
  · refine ⟨?_, Nat.le_refl _, Nat.le_refl _, ?_, ?_, fun a c9 h9 => ⟨c9, h9, rfl, rfl, fun _ _ => rfl⟩⟩
    · obtain ⟨t, ht, -⟩ := State.frames_cons hr
      show T.setVm s.vm = { ((T.setVm s.vm).setFrames (.invoking m args :: below)).setFrames (T.setVm s.vm).frames with heap := T.heap, slotsUsed := T.slotsUsed }
      rw [State.setFrames_setFrames, State.setFrames_self ht]
      rfl
    · show T.slotsUsed = T.slotsUsed + ((T.heap.toList.drop T.heap.size).map (·.slots.size)).sum
      rw [List.drop_eq_nil_of_le (Nat.le_of_eq Array.length_toList)]
      rfl
    · show ((T.heap.toList.drop T.heap.size).map (·.slots.size)).sum ≤ 0
      rw [List.drop_eq_nil_of_le (Nat.le_of_eq Array.length_toList)]
      exact Nat.le_refl _
/-- 'throw new E()': new; dup; invokespecial; athrow -/
theorem vx_throw0 {cc : ByteArray} {pc : Nat} (hexec : p.tables.exec = Jvm.exec) (hb : c.code = cc) (hl : l.stackTraces = false) {own cls : String} {names : List String} {ik ic mc ms : Nat} {A : Nat → Prop}
    (hown : s.vm.findClass own = some m.cls) (hcls : Bundle.fit cls = true) (hnames : ∀ n ∈ names, Bundle.fit n = true)
    (hk : (Cond.classLink own ik cls).before args s = true) (hini : (Cond.initialized cls).before args s = true) (hat : ∀ w ∈ vx_at0 own ic cls names, w.before args s = true)
    (hgood : ∀ w ∈ Cond.classLink own ik cls :: Cond.initialized cls :: vx_at0 own ic cls names, vx_ot w = true)
    (hU : vx_Zq Bundle.tN "UNASSIGNED_STACK" Bundle.steD A s s.heap) (hN : vx_Zq Bundle.tN "SUPPRESSED_SENTINEL" Bundle.listD A s s.heap) (hS : va_S A s.heap H locs) (hsize : ls.size = c.maxLocals)
    (d0 : decode cc pc = .ok (.new ik, 3)) (d3 : decode cc (pc + 3) = .ok (.dup, 1)) (d4 : decode cc (pc + 4) = .ok (.invokespecial ic, 3)) (d7 : decode cc (pc + 7) = .ok (.athrow, 1))
    (hout : ∀ x ∈ c.exceptionTable.toList, covers x (pc + 7) = false)
    (hRframes : names.length + 3 < R.frames) (hRlocals : (rest.map fun v => v.category).sum + (13 * (names.length + 1) + 42) ≤ R.locals) (hRcells : cells + 1 ≤ R.cells) (hRslots : slots + 6 ≤ R.slots) (hlocks : meth.locks = false)
    (hx : ∀ t : State, s.vm.Alike t.vm → H.size ≤ t.heap.size → (∀ q : Nat, q < H.size → t.heap[q]? = H[q]?) → XC cls s t)
    (hf : ∀ z ∈ locs, free z.base) (hc : cells + 1 ≤ mc) (hs : slots + 6 ≤ ms) :
    W p l e R s m args below meth c H locs cells slots (vx_MQ below Qc XC args s mc ms free) (F0 m pc ls rest) := by
  intro T hT X
  have htr : e.platform.stackTraces = false := (show e.platform.stackTraces = l.stackTraces by rw [X.admits.platform]).trans hl
  have Y := vx_rebase X (R' := { frames := R.frames, locals := R.locals, cells := 1, slots := 6 }) (Nat.le_refl _) (Nat.le_refl _) hRcells hRslots
  obtain ⟨s', hA⟩ : ∃ z, z = (T.setVm s.vm).setFrames (.invoking m args :: below) := ⟨_, rfl⟩
  rw [← hA] at Y
  have hvm : s'.vm = s.vm := by rw [hA]; rfl
  have hhp : s'.heap = H := by rw [hA]; exact hT
  have hW0 : s.WarmedH s'.vm := by rw [hvm]; exact State.WarmedH.refl s
  have hat' : ∀ w ∈ vx_at0 own ic cls names, w.before args s' = true := fun w hw => vx_ot_at hW0 hvm.symm (hgood w (List.mem_cons_of_mem _ (List.mem_cons_of_mem _ hw))) (hat w hw)
  have hk' : (Cond.classLink own ik cls).before args s' = true := vx_ot_at hW0 hvm.symm (hgood _ List.mem_cons_self) hk
  have hini' : (Cond.initialized cls).before args s' = true := vx_ot_at hW0 hvm.symm (hgood _ (List.mem_cons_of_mem _ List.mem_cons_self)) hini
  have hU' : vx_Zq Bundle.tN "UNASSIGNED_STACK" Bundle.steD A s' s'.heap := by rw [hhp]; exact vx_Zq.moved hW0.alike (hU.kept hS.2.1)
  have hN' : vx_Zq Bundle.tN "SUPPRESSED_SENTINEL" Bundle.listD A s' s'.heap := by rw [hhp]; exact vx_Zq.moved hW0.alike (hN.kept hS.2.1)
  have h : ∀ w ∈ Bundle.ownAtoms0 own ic cls names, w.before args s' = true := vx_own hat' (vx_isRefq hU'.1) (vx_isRefq hN'.1) hU'.2.word hN'.2.word
  have hown' : s'.vm.findClass own = some m.cls := by rw [hvm]; exact hown
  have hins : (Cond.instantiable cls 6).before args s' = true := h _ (by simp [Bundle.ownAtoms0])
  obtain ⟨vm₁, cX, kX, hfX, hkX, -, -, X₁, st1⟩ := Y.newCold hexec (own := own) (C := cls) (index := ik) (n := 6) hown' hk' hins hini'
    (g := F0 m pc ls rest) rfl (by rw [hb]; exact d0) (Nat.le_refl _) (Nat.le_refl _)
  generalize hT1 : (T.setVm vm₁).pushCell { cls := cX, slots := kX.instanceTypes.map defaultValue, vm := .none } = T1 at X₁ st1
  have hcat : (Value.ref T.heap.size).category = 1 := rfl
  have hcellA : T1.heap[T.heap.size]? = some (freshCell cX kX) := by rw [← hT1]; exact State.heap_pushCell_size _ _
  have d3' : decode c.code (pc + 3) = .ok (.dup, 1) := by rw [hb]; exact d3
  obtain ⟨U, hsteps, hrun, hend, hW, hsame, ce, hce, hO⟩ := X₁.ctorThrow0 hexec htr (own := own) (cls := cls) (names := names) (ic := ic) hown' hcls hnames h (fun x hx => nomatch hx) hfX hkX hcellA (by rw [hhp, hT]; exact Nat.le_refl _)
    (g := { method := m, pc := pc + 4, locals := ls, stack := .ref T.heap.size :: .ref T.heap.size :: rest, locked := none }) rfl hsize rfl rfl (rest := rest) rfl
    (by rw [hb]; exact d4) (by rw [hb]; exact d7) hout hRframes (by simp only [List.map_cons, List.sum_cons, hcat]; omega) hlocks
  obtain ⟨f1, f2⟩ := vx_frame hsame
  rw [hhp] at f1 f2
  have hWs : s.WarmedH U.vm := State.WarmedH.trans hW0 hW
  have hcl : s.vm.findClass cls = some ce.cls := by
    have h9 := hO.cls
    rw [hvm] at h9
    exact h9
  have hall : s.sameButNew ({ U with vm := s.vm } : State) locs mc ms := by
    subst hA
    obtain ⟨e1, e2⟩ := hsame
    rw [State.setFrames_setFrames] at e1
    have h2 : (T.setVm s.vm).sameButNew ({ U with vm := s.vm } : State) [] (0 + 1) (0 + 6) := ⟨e1, e2⟩
    have h3 := X.same.trans h2
    rw [List.append_nil] at h3
    exact h3.mono hc hs
  refine ⟨U, ?_, .threw T.heap.size, hrun, hend, Or.inr ⟨T.heap.size, rfl, cls, ce, locs, hx U hWs.alike f1 (fun q hq => f2 q hq (fun z hz => nomatch hz)), hce, hO.vm, hcl, hWs, hall, hf⟩⟩
  refine st1 _ ?_
  show Steps p.tables e below (T1.setTop { method := m, pc := pc + 3, locals := ls, stack := .ref T.heap.size :: rest, locked := none }) _
  jvm_step X₁.here [X₁.here.top, hexec, d3', Value.category]
  exact hsteps
/-- 'throw new E("text")': new; dup; ldc; invokespecial; athrow -/
theorem vx_throwS {cc : ByteArray} {pc : Nat} (hexec : p.tables.exec = Jvm.exec) (hb : c.code = cc) (hl : l.stackTraces = false) {own cls text : String} {names : List String} {ik is ic mc ms sa : Nat} {A : Nat → Prop}
    (hown : s.vm.findClass own = some m.cls) (hcls : Bundle.fit cls = true) (hnames : ∀ n ∈ names, Bundle.fit n = true)
    (hk : (Cond.classLink own ik cls).before args s = true) (hini : (Cond.initialized cls).before args s = true) (hstr : vk_R own is text sa s) (hat : ∀ w ∈ vx_atS own ic cls names, w.before args s = true)
    (hgood : ∀ w ∈ Cond.classLink own ik cls :: Cond.initialized cls :: vx_atS own ic cls names, vx_ot w = true)
    (hU : vx_Zq Bundle.tN "UNASSIGNED_STACK" Bundle.steD A s s.heap) (hN : vx_Zq Bundle.tN "SUPPRESSED_SENTINEL" Bundle.listD A s s.heap) (hS : va_S A s.heap H locs) (hsize : ls.size = c.maxLocals)
    (d0 : decode cc pc = .ok (.new ik, 3)) (d3 : decode cc (pc + 3) = .ok (.dup, 1)) (d4 : decode cc (pc + 4) = .ok (.ldc is, 2)) (d6 : decode cc (pc + 6) = .ok (.invokespecial ic, 3)) (d9 : decode cc (pc + 9) = .ok (.athrow, 1))
    (hout : ∀ x ∈ c.exceptionTable.toList, covers x (pc + 9) = false)
    (hRframes : names.length + 3 < R.frames) (hRlocals : (rest.map fun v => v.category).sum + (13 * (names.length + 1) + 43) ≤ R.locals) (hRcells : cells + 1 ≤ R.cells) (hRslots : slots + 6 ≤ R.slots) (hlocks : meth.locks = false)
    (hx : ∀ t : State, s.vm.Alike t.vm → H.size ≤ t.heap.size → (∀ q : Nat, q < H.size → t.heap[q]? = H[q]?) → XC cls s t)
    (hf : ∀ z ∈ locs, free z.base) (hc : cells + 1 ≤ mc) (hs : slots + 6 ≤ ms) :
    W p l e R s m args below meth c H locs cells slots (vx_MQ below Qc XC args s mc ms free) (F0 m pc ls rest) := by
  intro T hT X
  have htr : e.platform.stackTraces = false := (show e.platform.stackTraces = l.stackTraces by rw [X.admits.platform]).trans hl
  have Y := vx_rebase X (R' := { frames := R.frames, locals := R.locals, cells := 1, slots := 6 }) (Nat.le_refl _) (Nat.le_refl _) hRcells hRslots
  obtain ⟨s', hA⟩ : ∃ z, z = (T.setVm s.vm).setFrames (.invoking m args :: below) := ⟨_, rfl⟩
  rw [← hA] at Y
  have hvm : s'.vm = s.vm := by rw [hA]; rfl
  have hhp : s'.heap = H := by rw [hA]; exact hT
  have hW0 : s.WarmedH s'.vm := by rw [hvm]; exact State.WarmedH.refl s
  have hat' : ∀ w ∈ vx_atS own ic cls names, w.before args s' = true := fun w hw => vx_ot_at hW0 hvm.symm (hgood w (List.mem_cons_of_mem _ (List.mem_cons_of_mem _ hw))) (hat w hw)
  have hk' : (Cond.classLink own ik cls).before args s' = true := vx_ot_at hW0 hvm.symm (hgood _ List.mem_cons_self) hk
  have hini' : (Cond.initialized cls).before args s' = true := vx_ot_at hW0 hvm.symm (hgood _ (List.mem_cons_of_mem _ List.mem_cons_self)) hini
  have hU' : vx_Zq Bundle.tN "UNASSIGNED_STACK" Bundle.steD A s' s'.heap := by rw [hhp]; exact vx_Zq.moved hW0.alike (hU.kept hS.2.1)
  have hN' : vx_Zq Bundle.tN "SUPPRESSED_SENTINEL" Bundle.listD A s' s'.heap := by rw [hhp]; exact vx_Zq.moved hW0.alike (hN.kept hS.2.1)
  have h : ∀ w ∈ Bundle.ownAtoms own ic cls names, w.before args s' = true := vx_own hat' (vx_isRefq hU'.1) (vx_isRefq hN'.1) hU'.2.word hN'.2.word
  have hown' : s'.vm.findClass own = some m.cls := by rw [hvm]; exact hown
  have hins : (Cond.instantiable cls 6).before args s' = true := h _ (by simp [Bundle.ownAtoms])
  obtain ⟨vm₁, cX, kX, hfX, hkX, -, -, X₁, st1⟩ := Y.newCold hexec (own := own) (C := cls) (index := ik) (n := 6) hown' hk' hins hini'
    (g := F0 m pc ls rest) rfl (by rw [hb]; exact d0) (Nat.le_refl _) (Nat.le_refl _)
  generalize hT1 : (T.setVm vm₁).pushCell { cls := cX, slots := kX.instanceTypes.map defaultValue, vm := .none } = T1 at X₁ st1
  have hcat : (Value.ref T.heap.size).category = 1 := rfl
  have hcellA : T1.heap[T.heap.size]? = some (freshCell cX kX) := by rw [← hT1]; exact State.heap_pushCell_size _ _
  have d3' : decode c.code (pc + 3) = .ok (.dup, 1) := by rw [hb]; exact d3
  have d4' : decode c.code (pc + 4) = .ok (.ldc is, 2) := by rw [hb]; exact d4
  have hstr' : vk_R own is text sa s' := vk_R.warm hW0 hstr
  obtain ⟨U, hsteps, hrun, hend, hW, hsame, ce, hce, hO⟩ := X₁.ctorThrowS hexec htr (own := own) (cls := cls) (names := names) (ic := ic) hown' hcls hnames h (fun x hx => nomatch hx) hfX hkX hcellA (by rw [hhp, hT]; exact Nat.le_refl _) (msg := .ref sa) rfl
    (g := { method := m, pc := pc + 6, locals := ls, stack := .ref sa :: .ref T.heap.size :: .ref T.heap.size :: rest, locked := none }) rfl hsize rfl rfl (rest := rest) rfl
    (by rw [hb]; exact d6) (by rw [hb]; exact d9) hout hRframes (by simp only [List.map_cons, List.sum_cons, hcat]; omega) hlocks
  obtain ⟨f1, f2⟩ := vx_frame hsame
  rw [hhp] at f1 f2
  have hWs : s.WarmedH U.vm := State.WarmedH.trans hW0 hW
  have hcl : s.vm.findClass cls = some ce.cls := by
    have h9 := hO.cls
    rw [hvm] at h9
    exact h9
  have hall : s.sameButNew ({ U with vm := s.vm } : State) locs mc ms := by
    subst hA
    obtain ⟨e1, e2⟩ := hsame
    rw [State.setFrames_setFrames] at e1
    have h2 : (T.setVm s.vm).sameButNew ({ U with vm := s.vm } : State) [] (0 + 1) (0 + 6) := ⟨e1, e2⟩
    have h3 := X.same.trans h2
    rw [List.append_nil] at h3
    exact h3.mono hc hs
  refine ⟨U, ?_, .threw T.heap.size, hrun, hend, Or.inr ⟨T.heap.size, rfl, cls, ce, locs, hx U hWs.alike f1 (fun q hq => f2 q hq (fun z hz => nomatch hz)), hce, hO.vm, hcl, hWs, hall, hf⟩⟩
  refine st1 _ ?_
  show Steps p.tables e below (T1.setTop { method := m, pc := pc + 3, locals := ls, stack := .ref T.heap.size :: rest, locked := none }) _
  jvm_step X₁.here [X₁.here.top, hexec, d3', Value.category]
  exact X₁.ldcString hexec (own := own) (text := text) (index := is) (a := sa) hown' hstr'.1 hstr'.2
    (g := { method := m, pc := pc + 4, locals := ls, stack := .ref T.heap.size :: .ref T.heap.size :: rest, locked := none }) rfl d4' _ hsteps
/-- 'throw new E("text")', the text by a wide index -/
theorem vx_throwSW {cc : ByteArray} {pc : Nat} (hexec : p.tables.exec = Jvm.exec) (hb : c.code = cc) (hl : l.stackTraces = false) {own cls text : String} {names : List String} {ik is ic mc ms sa : Nat} {A : Nat → Prop}
    (hown : s.vm.findClass own = some m.cls) (hcls : Bundle.fit cls = true) (hnames : ∀ n ∈ names, Bundle.fit n = true)
    (hk : (Cond.classLink own ik cls).before args s = true) (hini : (Cond.initialized cls).before args s = true) (hstr : vk_R own is text sa s) (hat : ∀ w ∈ vx_atS own ic cls names, w.before args s = true)
    (hgood : ∀ w ∈ Cond.classLink own ik cls :: Cond.initialized cls :: vx_atS own ic cls names, vx_ot w = true)
    (hU : vx_Zq Bundle.tN "UNASSIGNED_STACK" Bundle.steD A s s.heap) (hN : vx_Zq Bundle.tN "SUPPRESSED_SENTINEL" Bundle.listD A s s.heap) (hS : va_S A s.heap H locs) (hsize : ls.size = c.maxLocals)
    (d0 : decode cc pc = .ok (.new ik, 3)) (d3 : decode cc (pc + 3) = .ok (.dup, 1)) (d4 : decode cc (pc + 4) = .ok (.ldc_w is, 3)) (d7 : decode cc (pc + 7) = .ok (.invokespecial ic, 3)) (d10 : decode cc (pc + 10) = .ok (.athrow, 1))
    (hout : ∀ x ∈ c.exceptionTable.toList, covers x (pc + 10) = false)
    (hRframes : names.length + 3 < R.frames) (hRlocals : (rest.map fun v => v.category).sum + (13 * (names.length + 1) + 43) ≤ R.locals) (hRcells : cells + 1 ≤ R.cells) (hRslots : slots + 6 ≤ R.slots) (hlocks : meth.locks = false)
    (hx : ∀ t : State, s.vm.Alike t.vm → H.size ≤ t.heap.size → (∀ q : Nat, q < H.size → t.heap[q]? = H[q]?) → XC cls s t)
    (hf : ∀ z ∈ locs, free z.base) (hc : cells + 1 ≤ mc) (hs : slots + 6 ≤ ms) :
    W p l e R s m args below meth c H locs cells slots (vx_MQ below Qc XC args s mc ms free) (F0 m pc ls rest) := by
  intro T hT X
  have htr : e.platform.stackTraces = false := (show e.platform.stackTraces = l.stackTraces by rw [X.admits.platform]).trans hl
  have Y := vx_rebase X (R' := { frames := R.frames, locals := R.locals, cells := 1, slots := 6 }) (Nat.le_refl _) (Nat.le_refl _) hRcells hRslots
  obtain ⟨s', hA⟩ : ∃ z, z = (T.setVm s.vm).setFrames (.invoking m args :: below) := ⟨_, rfl⟩
  rw [← hA] at Y
  have hvm : s'.vm = s.vm := by rw [hA]; rfl
  have hhp : s'.heap = H := by rw [hA]; exact hT
  have hW0 : s.WarmedH s'.vm := by rw [hvm]; exact State.WarmedH.refl s
  have hat' : ∀ w ∈ vx_atS own ic cls names, w.before args s' = true := fun w hw => vx_ot_at hW0 hvm.symm (hgood w (List.mem_cons_of_mem _ (List.mem_cons_of_mem _ hw))) (hat w hw)
  have hk' : (Cond.classLink own ik cls).before args s' = true := vx_ot_at hW0 hvm.symm (hgood _ List.mem_cons_self) hk
  have hini' : (Cond.initialized cls).before args s' = true := vx_ot_at hW0 hvm.symm (hgood _ (List.mem_cons_of_mem _ List.mem_cons_self)) hini
  have hU' : vx_Zq Bundle.tN "UNASSIGNED_STACK" Bundle.steD A s' s'.heap := by rw [hhp]; exact vx_Zq.moved hW0.alike (hU.kept hS.2.1)
  have hN' : vx_Zq Bundle.tN "SUPPRESSED_SENTINEL" Bundle.listD A s' s'.heap := by rw [hhp]; exact vx_Zq.moved hW0.alike (hN.kept hS.2.1)
  have h : ∀ w ∈ Bundle.ownAtoms own ic cls names, w.before args s' = true := vx_own hat' (vx_isRefq hU'.1) (vx_isRefq hN'.1) hU'.2.word hN'.2.word
  have hown' : s'.vm.findClass own = some m.cls := by rw [hvm]; exact hown
  have hins : (Cond.instantiable cls 6).before args s' = true := h _ (by simp [Bundle.ownAtoms])
  obtain ⟨vm₁, cX, kX, hfX, hkX, -, -, X₁, st1⟩ := Y.newCold hexec (own := own) (C := cls) (index := ik) (n := 6) hown' hk' hins hini'
    (g := F0 m pc ls rest) rfl (by rw [hb]; exact d0) (Nat.le_refl _) (Nat.le_refl _)
  generalize hT1 : (T.setVm vm₁).pushCell { cls := cX, slots := kX.instanceTypes.map defaultValue, vm := .none } = T1 at X₁ st1
  have hcat : (Value.ref T.heap.size).category = 1 := rfl
  have hcellA : T1.heap[T.heap.size]? = some (freshCell cX kX) := by rw [← hT1]; exact State.heap_pushCell_size _ _
  have d3' : decode c.code (pc + 3) = .ok (.dup, 1) := by rw [hb]; exact d3
  have d4' : decode c.code (pc + 4) = .ok (.ldc_w is, 3) := by rw [hb]; exact d4
  have hstr' : vk_R own is text sa s' := vk_R.warm hW0 hstr
  obtain ⟨U, hsteps, hrun, hend, hW, hsame, ce, hce, hO⟩ := X₁.ctorThrowS hexec htr (own := own) (cls := cls) (names := names) (ic := ic) hown' hcls hnames h (fun x hx => nomatch hx) hfX hkX hcellA (by rw [hhp, hT]; exact Nat.le_refl _) (msg := .ref sa) rfl
    (g := { method := m, pc := pc + 7, locals := ls, stack := .ref sa :: .ref T.heap.size :: .ref T.heap.size :: rest, locked := none }) rfl hsize rfl rfl (rest := rest) rfl
    (by rw [hb]; exact d7) (by rw [hb]; exact d10) hout hRframes (by simp only [List.map_cons, List.sum_cons, hcat]; omega) hlocks
  obtain ⟨f1, f2⟩ := vx_frame hsame
  rw [hhp] at f1 f2
  have hWs : s.WarmedH U.vm := State.WarmedH.trans hW0 hW
  have hcl : s.vm.findClass cls = some ce.cls := by
    have h9 := hO.cls
    rw [hvm] at h9
    exact h9
  have hall : s.sameButNew ({ U with vm := s.vm } : State) locs mc ms := by
    subst hA
    obtain ⟨e1, e2⟩ := hsame
    rw [State.setFrames_setFrames] at e1
    have h2 : (T.setVm s.vm).sameButNew ({ U with vm := s.vm } : State) [] (0 + 1) (0 + 6) := ⟨e1, e2⟩
    have h3 := X.same.trans h2
    rw [List.append_nil] at h3
    exact h3.mono hc hs
  refine ⟨U, ?_, .threw T.heap.size, hrun, hend, Or.inr ⟨T.heap.size, rfl, cls, ce, locs, hx U hWs.alike f1 (fun q hq => f2 q hq (fun z hz => nomatch hz)), hce, hO.vm, hcl, hWs, hall, hf⟩⟩
  refine st1 _ ?_
  show Steps p.tables e below (T1.setTop { method := m, pc := pc + 3, locals := ls, stack := .ref T.heap.size :: rest, locked := none }) _
  jvm_step X₁.here [X₁.here.top, hexec, d3', Value.category]
  exact X₁.ldcStringW hexec (own := own) (text := text) (index := is) (a := sa) hown' hstr'.1 hstr'.2
    (g := { method := m, pc := pc + 4, locals := ls, stack := .ref T.heap.size :: .ref T.heap.size :: rest, locked := none }) rfl d4' _ hsteps
end Ends
section Bodies
variable {l : Launch}
theorem vx_ofW {y : MethodName} {ws ws' : List Cond} {rm : Room} {Pc : Array Value → State → Prop} {Qc : Array Value → State → Outcome → State → Prop} {XC : String → State → State → Prop} {mc ms : Nat} {free : Addr → Prop} {cc : ByteArray} {maxL : Nat} {ret : Option FieldType}
    (hy : plainName y.cls = true) (hw : ws = Cond.code y cc maxL ret :: ws')
    (body : ∀ p e s m args below meth c s₁, BodyLoose p l y (headSpec ws rm) cc maxL ret e s m args below meth c s₁ → c.maxLocals = maxL → (∀ x ∈ c.exceptionTable.toList, False) → Pc args s →
      W p l e (headSpec ws rm).room s m args below meth c s.heap [] 0 0 (vx_MQ below Qc XC args s mc ms free) (entryFrame m args maxL)) : vx_Met l y ws rm Pc Qc XC mc ms free := by
  refine MetFree.of_bodyS (code := cc) (maxLocals := maxL) (ret := ret) hy ?_ ?_
  · intro args s m h hn
    obtain ⟨meth, c, h1, h2, h3, h4, h5, h6, -, -⟩ := Cond.code_spec hn (atoms_spec (ws := ws) h _ (by rw [hw]; exact List.mem_cons_self))
    exact ⟨meth, c, h1, h2, h3, h4, h5, h6⟩
  · intro p e s m args below meth c s₁ B hml hP _
    have hh0 : s₁.heap = s.heap := by rw [B.state]; rfl
    have ht : ∀ x ∈ c.exceptionTable.toList, False := by
      obtain ⟨meth9, c9, h1, h2, -, -, -, -, h7, -⟩ := Cond.code_spec B.named (atoms_spec (ws := ws) B.pre _ (by rw [hw]; exact List.mem_cons_self))
      cases Option.some.inj (h1.symm.trans B.method)
      cases Option.some.inj (h2.symm.trans (Stand.of_body B).code)
      intro x hx
      rw [Array.isEmpty_iff.mp h7] at hx
      cases hx
    obtain ⟨t, a1, o, b1, b2, b3⟩ := body p e s m args below meth c s₁ B hml ht hP s₁ hh0 (Stand.of_body B)
    exact ⟨t, o, a1, b1, b2, b3⟩
/-- the table of a body with handlers -/
theorem vx_table {p : Program} {x y : MethodName} {S : Spec} {cc bytes : ByteArray} {maxL maxL' : Nat} {ret ret' : Option FieldType} {e : Env} {s s₁ : State} {m : MethodId} {args : Array Value} {below : List Frame} {meth : Method} {c : Code} {hh : List (Nat × Nat × Nat × Nat)}
    (B : BodyLoose p l y S cc maxL ret e s m args below meth c s₁) (h : (Cond.codeWith y bytes maxL' ret' hh).before args s = true) : c.exceptionTable.toList = tableOf hh := by
  obtain ⟨m9, meth9, c9, hn9, h1, h2, -, -, h6, -⟩ := Cond.codeWith_spec h
  cases Option.some.inj (hn9.symm.trans B.named)
  cases Option.some.inj (h1.symm.trans B.method)
  cases Option.some.inj (h2.symm.trans (Stand.of_body B).code)
  rw [← h6, table_eq]
end Bodies
end VXA
/-! ===== END ===== -/
/-! ===== BEGIN a static call of a method with an exception table ===== -/
section VXS
variable {p : Program} {l : Launch} {e : Env} {R : Room} {s : State} {m : MethodId} {args : Array Value} {below : List Frame} {meth : Method} {c : Code} {T : State} {H : Heap} {locs : List Loc} {cells slots : Nat}
abbrev vx_CSW (R : Room) (s : State) (args : Array Value) (own : String) (index : Nat) (y : MethodName) (bytes : ByteArray) (maxL : Nat) (ret : Option FieldType) (hh : List (Nat × Nat × Nat × Nat)) (ws : List Cond) (rm : Room) (mc ms n : Nat) : Prop :=
  (rm.cells = mc ∧ rm.slots = ms ∧ rm.frames + 1 ≤ R.frames ∧ 8 + (maxL + 11) + rm.locals ≤ R.locals ∧ (∀ w ∈ ws, ∀ (a' : Array Value) (U : State), s.WarmedH U.vm → w.before a' U = true) ∧ Cond.codeWith y bytes maxL ret hh ∈ ws) ∧
  (Cond.codeWith y bytes maxL ret hh).before args s = true ∧ (Cond.initialized y.cls).before args s = true ∧ (y.cls ≠ "java/lang/invoke/MethodHandle" ∧ y.cls ≠ "java/lang/invoke/VarHandle") ∧
  (∀ sig, parseMethodDescriptor y.desc = some sig → n = sig.parameters.length) ∧ (Cond.methodLink own index y).before args s = true ∧ (Cond.static y).before args s = true
theorem vx_cwSW {own : String} {index maxL mc ms : Nat} {y : MethodName} {bytes : ByteArray} {ret : Option FieldType} {hh : List (Nat × Nat × Nat × Nat)} {Ts ws ws' : List Cond} {rm : Room} (n : Nat) (ht : ∀ w ∈ Ts, w.before args s = true) (hT : GoodIn Ts (va_wsS own index y ws)) (hw : ws = Cond.codeWith y bytes maxL ret hh :: ws') (hrc : rm.cells = mc) (hrs : rm.slots = ms)
    (hd : y.cls ≠ "java/lang/invoke/MethodHandle" ∧ y.cls ≠ "java/lang/invoke/VarHandle" ∧ (parseMethodDescriptor y.desc).map (fun d => d.parameters.length) = some n) (hR : rm.frames + 1 ≤ R.frames ∧ 8 + (maxL + 11) + rm.locals ≤ R.locals) :
    vx_CSW R s args own index y bytes maxL ret hh ws rm mc ms n := by
  have ok : ∀ w ∈ va_wsS own index y ws, w.before args s = true := fun w h => ht w (hT w h).1
  have hG : GoodIn Ts ws := fun w h => hT w (by unfold va_wsS; exact List.mem_append_right _ h)
  have hc : Cond.codeWith y bytes maxL ret hh ∈ ws := by rw [hw]; exact List.mem_cons_self
  refine ⟨⟨hrc, hrs, hR.1, hR.2, pay_in ht hG, hc⟩, ht _ (hG _ hc).1, ok _ (by simp [va_wsS]), ⟨hd.1, hd.2.1⟩, fun sig h => ?_, ok _ (by simp [va_wsS]), ok _ (by simp [va_wsS])⟩
  have h2 := hd.2.2
  rw [h] at h2
  exact (Option.some.inj h2).symm
theorem vx_callSW (X : Stand p l e R s m args below meth c T locs cells slots) (hexec : p.tables.exec = Jvm.exec) {own : String} {index : Nat} {y : MethodName} {bytes : ByteArray} {maxL : Nat} {ret : Option FieldType} {hh : List (Nat × Nat × Nat × Nat)}
    (hown : s.vm.findClass own = some m.cls) (hlink : (Cond.methodLink own index y).before args s = true) (hstat : (Cond.static y).before args s = true) (hinit : (Cond.initialized y.cls).before args s = true)
    (hcode : (Cond.codeWith y bytes maxL ret hh).before args s = true) (hy : y.cls ≠ "java/lang/invoke/MethodHandle" ∧ y.cls ≠ "java/lang/invoke/VarHandle")
    {W9 : Nat} {Pre : Pt → Array Value → Prop} {Post : Pt → Array Value → Option Value → Pt → Prop} (hK : Back l R p e below s args y 3 W9 Pre Post)
    {g : JFrame} (hg : g.method = m) (hsize : g.locals.size = c.maxLocals) {argsL rest : List Value} (hlen : ∀ sig, parseMethodDescriptor y.desc = some sig → argsL.length = sig.parameters.length)
    (hstack : g.stack = argsL.reverse ++ rest) (hW : 2 * g.monitorRoom + (rest.map fun v => v.category).sum ≤ W9) (hdg : decode c.code g.pc = .ok (.invokestatic index, 3))
    (hpre : ∀ vm₁, s.WarmedH vm₁ → Pre ⟨T.setVm vm₁, locs, cells, slots⟩ argsL.toArray) :
    ∃ (v : Option Value) (vm₁ : Vm) (B : Pt), s.WarmedH vm₁ ∧ Stand p l e R s m args below meth c B.U B.locs B.cells B.slots ∧ Post ⟨T.setVm vm₁, locs, cells, slots⟩ argsL.toArray v B ∧
      ∀ target, Steps p.tables e below (B.U.setTop { g with pc := g.pc + 3, stack := v.toList ++ rest }) target → Steps p.tables e below (T.setTop g) target := by
  obtain ⟨mk, methM, cM, hnamed, hmethM, -, -, -, -, -, -, hsigM⟩ := Cond.codeWith_spec hcode
  have hstatic : methM.isStatic = true := Cond.static_spec hnamed hmethM hstat
  obtain ⟨kP, hkP, -⟩ := className_of_methodNamed hnamed
  have hinitP : kP.init = .initialized := Cond.initialized_spec (findClass_of_methodNamed hnamed) hkP hinit
  obtain ⟨vm₁, X₁, hstep₁⟩ := X.invokestatic hexec hown hlink hnamed hmethM hstatic hkP hinitP hy (g := g) hg (argsL := argsL) (rest := rest) (hlen _ hsigM) hstack hdg
  obtain ⟨v, B, X', hpost, hsteps⟩ := hK m meth c ⟨T.setVm vm₁, locs, cells, slots⟩ { g with stack := rest } (.invokestatic index) mk argsL.toArray X₁ hg hsize hdg hW (X₁.named hnamed) (hpre vm₁ X₁.warmed)
  exact ⟨v, vm₁, B, X₁.warmed, X', hpost, fun target h => hstep₁ _ fun acts => by rw [doInvoke_state]; exact hsteps.trans h⟩
theorem vx_runSW {y : MethodName} {bytes cc : ByteArray} {maxL nL mc ms n index : Nat} {ret : Option FieldType} {hh : List (Nat × Nat × Nat × Nat)} {ws : List Cond} {rm : Room} {Pc : Array Value → State → Prop} {Qc : Array Value → State → Outcome → State → Prop} {free : Addr → Prop} {Ts : List Cond} {own : String} {As rest : List Value} {g : JFrame}
    (S : CallFix p m c cc nL s args Ts own) (hM : Met l y ws rm Pc Qc mc ms free) (cw : vx_CSW R s args own index y bytes maxL ret hh ws rm mc ms n) (hp : PreS s H Pc As)
    (hg : g.method = m) (hn : As.length = n) (hsize : g.locals.size = nL) (hstack : g.stack = As.reverse ++ rest) (hW : 2 * g.monitorRoom + (rest.map fun v => v.category).sum ≤ 8) (hdg : decode cc g.pc = .ok (.invokestatic index, 3)) (hf : cells + mc ≤ R.cells ∧ slots + ms ≤ R.slots) :
    va_Run p l e R s m args below meth c H locs cells slots mc ms g rest (Qc As.toArray) (free) := by
  obtain ⟨⟨hrc, hrs, hfr, hlo, hws, hcw⟩, hcode, hini, hy, hlen, hl, hstt⟩ := cw
  have hK : Back l R p e below s args y 3 8 (PreOf R mc ms Pc) (PostOf Qc mc ms free) := va_backW (hh := hh) (bytes := bytes) (maxL := maxL) (ret := ret) hM hp.1 hrc hrs hfr hlo hws hcw (fun a' U hW => word_at hW (Or.inl (by first | rfl | simp [Cond.onTables, Cond.keeps, Cond.steady])) hini)
  obtain ⟨hx, hb, hml, ho, -⟩ := S
  intro T hT X
  obtain ⟨v, vm₁, ⟨U', l2, c2, s2⟩, hW₁, X', ⟨g', mk, t, L, e1, e2, hq, h1, hL, h2, h3⟩, st⟩ := vx_callSW X hx (hh := hh) (bytes := bytes) (maxL := maxL) (ret := ret) ho hl hstt hini hcode hy hK hg (hsize.trans hml.symm) (argsL := As) (rest := rest) (fun sig h => hn.trans (hlen sig h)) hstack hW (by rw [hb]; exact hdg)
    (fun vm₁ hW₁ => ⟨hf.1, hf.2, hp.2 (T.setVm vm₁) hT hW₁⟩)
  dsimp only [Pt.U, Pt.locs, Pt.cells, Pt.slots] at X' e1 e2 h1 h2 h3 st
  subst h1; subst h2; subst h3
  exact ⟨v, (T.setVm vm₁).calling g' mk As.toArray, t, U', L, hT, X', hL, e1, e2, hq, st⟩
/-- not caught here, past rows that name other classes: it goes on to the caller -/
theorem vx_outP {p : Program} {l : Launch} {e : Env} {R : Room} {s : State} {m : MethodId} {args : Array Value} {below : List Frame} {meth : Method} {c : Code} {H : Heap} {locs : List Loc} {cells slots : Nat} {free : Addr → Prop} {ls : Array Slot} {rest : List Value} {Qc : Array Value → State → Outcome → State → Prop} {XC : String → State → State → Prop}
    {pc : Nat} {own E : String} {ce : Cell} {q : Addr} {mc ms : Nat} (hown : s.vm.findClass own = some m.cls) (hlocks : meth.locks = false)
    (hpass : ∀ z ∈ c.exceptionTable.toList, covers z pc = false ∨ (z.catchType ≠ 0 ∧ ∃ nm : String, (Cond.classLink own z.catchType nm).before args s = true ∧ va_Nc E nm s)) (hcell : H[q]? = some ce) (hv : ce.vm = .none) (hcl : s.vm.findClass E = some ce.cls)
    (hx : ∀ t : State, t.heap = H → s.vm.Alike t.vm → XC E s t) (hf : ∀ z ∈ locs, free z.base) (hc : cells ≤ mc) (hs : slots ≤ ms) :
    vx_W p l e R s m args below meth c H locs cells slots (vx_MQ below Qc XC args s mc ms free) (F0 m pc ls rest) q := by
  intro T hT X
  have hpl : e.platform.magicAccessors = ({} : Platform).magicAccessors := by rw [X.admits.platform]
  obtain ⟨vm', hW', X', st⟩ := X.outThrough hlocks q (g := F0 m pc ls rest) rfl rfl rfl (cell := ce) (by rw [hT]; exact hcell) (by rw [hv]; rfl)
    (by obtain ⟨k9, h9, -⟩ := Vm.findClass_spec hcl; exact ⟨k9, h9⟩) (fun z hz => by
      rcases hpass z hz with h | ⟨hz0, nm, hl1, hn1⟩
      · exact Or.inl h
      · obtain ⟨c6, hc6, hcl6⟩ := Cond.classLink_spec hown hl1 e.platform hpl
        obtain ⟨a8, b8, h1, h2, h3⟩ := hn1
        cases Option.some.inj (h1.symm.trans hcl)
        cases Option.some.inj (h2.symm.trans hc6)
        exact Or.inr ⟨hz0, _, hcl6, h3⟩)
  obtain ⟨g₀, hfr⟩ := X'.frames_eq
  have hcell9 : ((T.setVm vm').setFrames (.throwing q :: below)).heap[q]? = some ce := by
    show T.heap[q]? = some ce
    rw [hT]; exact hcell
  have hend : Ended ((T.setVm vm').setFrames (.throwing q :: below)) below (.threw q) := State.frames_setFrames _ (State.cur_lt_of_frames hfr)
  refine ⟨(T.setVm vm').setFrames (.throwing q :: below), ?_, .threw q, X'.here.running, hend, Or.inr ⟨q, rfl, E, ce, locs, hx _ hT (X'.ends _).1.alike, hcell9, hv, hcl, (X'.ends _).1, (X'.ends _).2.mono hc hs, hf⟩⟩
  rw [X.pushThrowing_eq]
  exact st
/-- a thing of a world lies in the heap -/
theorem vx_lt {D : va_G} {cl : List vw_C} {ws : va_W} {H1 : Heap} (h : va_P D cl ws H1) {k : Nat} {q : Nat × va_E} (hk : ws[k]? = some q) : q.1 < H1.size := (h k q hk).lt
end VXS
/-! ===== END ===== -/
/-! ===== BEGIN methods with a table of their own: called by a name, returning or throwing ===== -/
section VXH
/-! vx_backW, vx_callVX, vx_callSX, vx_callVW, vx_runVW, vx_runVX, vx_runSX, vx_ofWH follow the same proofs as their sisters above (Free/Laws.lean, Shelf42/LK1.lean); vx_outP calls Shelf42/NT130.lean (outThrough). -/
section
variable {l : Launch} {R : Room} {p : Program} {e : Env} {below : List Frame} {s : State} {sargs : Array Value} {y : MethodName} {len W9 : Nat}
theorem vx_backW {ws : List Cond} {rm : Room} {Pc : Array Value → State → Prop} {Qc : Array Value → State → Outcome → State → Prop} {XC : String → State → State → Prop} {mc ms : Nat} {free : Addr → Prop} {bytes : ByteArray} {maxL : Nat} {ret : Option FieldType} {hh : List (Nat × Nat × Nat × Nat)}
    (hM : vx_Met l y ws rm Pc Qc XC mc ms free) (hblind : FrameBlind Pc) (hrc : rm.cells = mc) (hrs : rm.slots = ms)
    (hframes : rm.frames + 1 ≤ R.frames) (hlocals : W9 + (maxL + 11) + rm.locals ≤ R.locals)
    (hws : ∀ w ∈ ws, ∀ a' U, s.WarmedH U.vm → w.before a' U = true) (hcode : Cond.codeWith y bytes maxL ret hh ∈ ws) (hinit : ∀ a' U, s.WarmedH U.vm → (Cond.initialized y.cls).before a' U = true) :
    vx_Back l R p e below s sargs y len W9 (PreOf R mc ms Pc) (PostOf Qc mc ms free) (vx_Post XC mc ms free) := by
  intro m meth c A g ig mk a X hg hsize hdg hW hn hp
  have h1 : (headSpec ws rm).pre.before a A.U = true := atoms_intro fun w hw => hws w hw _ _ X.warmed
  have h2 : (Cond.codeWith y bytes maxL ret hh).before a A.U = true := hws _ hcode _ _ X.warmed
  have h3 : (Cond.initialized y.cls).before a A.U = true := hinit _ _ X.warmed
  have h4 : A.cells + (headSpec ws rm).room.cells ≤ R.cells := by rw [show (headSpec ws rm).room.cells = mc from hrc]; exact hp.1
  have h5 : A.slots + (headSpec ws rm).room.slots ≤ R.slots := by rw [show (headSpec ws rm).room.slots = ms from hrs]; exact hp.2.1
  have hPc : Pc a (A.U.calling g mk a) := hblind _ _ _ _ hp.2.2
  obtain ⟨U, Ls, c0, s0⟩ := A
  dsimp only [Pt.U, Pt.locs, Pt.cells, Pt.slots] at h1 h2 h3 h4 h5 X hn hPc ⊢
  obtain ⟨m9, methY, cY, hn9, hmY, hcY, -, hlY, -⟩ := Cond.codeWith_spec h2
  cases Option.some.inj (hn9.symm.trans hn)
  obtain ⟨kY, hkY, -⟩ := className_of_methodNamed hn
  have hinitY : kY.init = .initialized := Cond.initialized_spec (findClass_of_methodNamed hn) hkY h3
  have h : At U g.method c below := by rw [hg]; exact X.here
  have hlocals9 : W9 + (maxL + 11) + (headSpec ws rm).room.locals ≤ R.locals := hlocals
  have happ : (headSpec ws rm).appliesLoose y e.platform (U.calling g mk a) = true :=
    Spec.appliesLoose_calling (g := g) h hdg hn hkY hinitY
      (X.room_calling (g := g) (R' := (headSpec ws rm).room) hsize hmY hcY hframes (by rw [hlY]; omega) h4 h5) h1
  obtain ⟨mid, hmid⟩ := h.above
  have hfr : (U.setTop g).frames = (.java g :: mid) ++ below := by rw [State.frames_setTop' g h.top, hmid]; rfl
  obtain ⟨o, s₂, hsteps, -, hend, hq⟩ := Steps.callFree hM p X.admits X.cas X.clock (acts := []) hfr happ hPc trivial
  have hq' : vx_Q Qc XC mc ms free a (U.calling g mk a) o s₂ := hq
  rw [State.frames_setTop' g h.top] at hend
  obtain ⟨g₀, hg0⟩ := Option.isSome_iff_exists.mp h.top
  obtain ⟨r, hr⟩ := State.topJava?_eq_some.mp hg0
  have hr' : (({ U with heap := s₂.heap, slotsUsed := s₂.slotsUsed } : State).setVm s₂.vm).frames = .java g₀ :: r := hr
  rcases hq' with ⟨hqc, L, hfe, hL⟩ | ⟨q, rfl, E, ce, L, hx, hce, hcv, hcl, hW₂, hsm, hL⟩
  · obtain ⟨⟨v, rfl⟩, hW₂, e2, q2, q3, q4, q5, q6⟩ := id hfe
    have e3 : s₂ = ({ (U.calling g mk a).setFrames s₂.frames with heap := s₂.heap, slotsUsed := s₂.slotsUsed } : State).setVm s₂.vm := by
      have : s₂ = ({ s₂ with vm := (U.calling g mk a).vm } : State).setVm s₂.vm := rfl
      rw [e2] at this
      exact this
    obtain ⟨c₂, i₂, len₂, hc₂, hd₂, hf₂⟩ := hend
    have hW' : U.WarmedH s₂.vm := hW₂
    have hcc : c₂ = c := by
      have h1 : s₂.code? g.method = U.code? g.method := by
        rw [State.code?_eq, State.code?_eq, hW'.alike.method?]
      exact Option.some.inj (hc₂.symm.trans (h1.trans h.code))
    subst hcc
    have hlen : len₂ = len := by rw [hdg] at hd₂; cases hd₂; rfl
    subst hlen
    have hs₂ : s₂ = (({ U with heap := s₂.heap, slotsUsed := s₂.slotsUsed } : State).setVm s₂.vm).setTop { g with pc := g.pc + len₂, stack := v.toList ++ g.stack } := by
      refine e3.trans ?_
      rw [hf₂, State.calling_eq h.top, State.setFrames_setFrames, State.setTop_of_frames _ hr', hr]
      rfl
    have hsame : U.sameButNew ({ U with heap := s₂.heap, slotsUsed := s₂.slotsUsed } : State) L mc ms := by
      refine ⟨?_, q2, q3, q4, q5, q6⟩
      obtain ⟨t, ht, -⟩ := State.frames_cons hr
      show ({ U with heap := s₂.heap, slotsUsed := s₂.slotsUsed } : State) = { U.setFrames U.frames with heap := s₂.heap, slotsUsed := s₂.slotsUsed }
      rw [State.setFrames_self ht]
    subst hg
    refine Or.inl ⟨v, ⟨(({ U with heap := s₂.heap, slotsUsed := s₂.slotsUsed } : State).setVm s₂.vm), Ls ++ L, c0 + mc, s0 + ms⟩,
      ⟨X.admits, X.cas, X.clock, X.frames, X.room, X.hears, X.method, X.code, (X.here.setHeapUsed s₂.heap s₂.slotsUsed).setVm hW'.alike, X.tail, State.WarmedH.trans X.warmed hW', X.limits, X.bytes, X.same.trans (hsame.setVm s.vm)⟩,
      ⟨g, mk, s₂, L, rfl, rfl, hqc, rfl, hL, rfl, rfl⟩, ?_⟩
    show Steps p.tables e below _ ((({ U with heap := s₂.heap, slotsUsed := s₂.slotsUsed } : State).setVm s₂.vm).setTop { g with pc := g.pc + len₂, stack := v.toList ++ g.stack })
    rw [← hs₂]
    exact hsteps
  · obtain ⟨e2, q2, q3, q4, q5, q6⟩ := id hsm
    have e3 : s₂ = ({ (U.calling g mk a).setFrames s₂.frames with heap := s₂.heap, slotsUsed := s₂.slotsUsed } : State).setVm s₂.vm := by
      have : s₂ = ({ s₂ with vm := (U.calling g mk a).vm } : State).setVm s₂.vm := rfl
      rw [e2] at this
      exact this
    have hf₂ : s₂.frames = .throwing q :: .java g :: U.frames.tail := hend
    have hW' : U.WarmedH s₂.vm := hW₂
    have hs₂ : s₂ = ((({ U with heap := s₂.heap, slotsUsed := s₂.slotsUsed } : State).setVm s₂.vm).setTop g).pushFrame (.throwing q) := by
      refine e3.trans ?_
      rw [hf₂, State.calling_eq h.top, State.setFrames_setFrames, State.pushFrame, State.frames_setTop _ hr', State.setTop_of_frames _ hr', State.setFrames_setFrames, hr]
      rfl
    have hsame : U.sameButNew ({ U with heap := s₂.heap, slotsUsed := s₂.slotsUsed } : State) L mc ms := by
      refine ⟨?_, q2, q3, q4, q5, q6⟩
      obtain ⟨t, ht, -⟩ := State.frames_cons hr
      show ({ U with heap := s₂.heap, slotsUsed := s₂.slotsUsed } : State) = { U.setFrames U.frames with heap := s₂.heap, slotsUsed := s₂.slotsUsed }
      rw [State.setFrames_self ht]
    subst hg
    refine Or.inr ⟨q, ⟨(({ U with heap := s₂.heap, slotsUsed := s₂.slotsUsed } : State).setVm s₂.vm), Ls ++ L, c0 + mc, s0 + ms⟩,
      ⟨X.admits, X.cas, X.clock, X.frames, X.room, X.hears, X.method, X.code, (X.here.setHeapUsed s₂.heap s₂.slotsUsed).setVm hW'.alike, X.tail, State.WarmedH.trans X.warmed hW', X.limits, X.bytes, X.same.trans (hsame.setVm s.vm)⟩,
      ⟨g, mk, s₂, L, E, ce, rfl, rfl, hx, hce, hcv, hcl, rfl, hL, rfl, rfl⟩, ?_⟩
    show Steps p.tables e below _ (((({ U with heap := s₂.heap, slotsUsed := s₂.slotsUsed } : State).setVm s₂.vm).setTop g).pushFrame (.throwing q))
    rw [← hs₂]
    exact hsteps
end
variable {p : Program} {l : Launch} {e : Env} {R : Room} {s : State} {m : MethodId} {args : Array Value} {below : List Frame} {meth : Method} {c : Code} {T : State} {H : Heap} {locs : List Loc} {cells slots : Nat}
theorem vx_callVX (X : Stand p l e R s m args below meth c T locs cells slots) (hexec : p.tables.exec = Jvm.exec) {own C : String} {index : Nat} {y : MethodName} {bytes : ByteArray} {maxL : Nat} {ret : Option FieldType} {hh : List (Nat × Nat × Nat × Nat)}
    (hown : s.vm.findClass own = some m.cls) (hlink : (Cond.methodLink own index y).before args s = true) (hinst : (Cond.instanceMethod y).before args s = true) (hsel : (Cond.selects C y y).before args s = true)
    (hcode : (Cond.codeWith y bytes maxL ret hh).before args s = true) (hy : y.cls ≠ "java/lang/invoke/MethodHandle" ∧ y.cls ≠ "java/lang/invoke/VarHandle")
    {W9 : Nat} {Pre : Pt → Array Value → Prop} {Post : Pt → Array Value → Option Value → Pt → Prop} {PostX : Pt → Array Value → Addr → Pt → Prop} (hK : vx_Back l R p e below s args y 3 W9 Pre Post PostX)
    {b : Addr} {cellB : Cell} (hcell : T.heap[b]? = some cellB) (hobj : cellB.vm.isStatics = false) (hcls : s.vm.findClass C = some cellB.cls)
    {g : JFrame} (hg : g.method = m) (hsize : g.locals.size = c.maxLocals) {argsL rest : List Value} (hlen : ∀ sig, parseMethodDescriptor y.desc = some sig → argsL.length = sig.parameters.length)
    (hstack : g.stack = argsL.reverse ++ .ref b :: rest) (hW : 2 * g.monitorRoom + (rest.map fun v => v.category).sum ≤ W9) (hdg : decode c.code g.pc = .ok (.invokevirtual index, 3))
    (hpre : ∀ vm₁, s.WarmedH vm₁ → Pre ⟨T.setVm vm₁, locs, cells, slots⟩ (Value.ref b :: argsL).toArray) :
    (∃ (v : Option Value) (vm₁ : Vm) (B : Pt), s.WarmedH vm₁ ∧ Stand p l e R s m args below meth c B.U B.locs B.cells B.slots ∧ Post ⟨T.setVm vm₁, locs, cells, slots⟩ (Value.ref b :: argsL).toArray v B ∧
      ∀ target, Steps p.tables e below (B.U.setTop { g with pc := g.pc + 3, stack := v.toList ++ rest }) target → Steps p.tables e below (T.setTop g) target) ∨
    (∃ (q : Addr) (vm₁ : Vm) (B : Pt), s.WarmedH vm₁ ∧ Stand p l e R s m args below meth c B.U B.locs B.cells B.slots ∧ PostX ⟨T.setVm vm₁, locs, cells, slots⟩ (Value.ref b :: argsL).toArray q B ∧
      Steps p.tables e below (T.setTop g) ((B.U.setTop { g with stack := rest }).pushFrame (.throwing q))) := by
  obtain ⟨mk, methM, hnamed, hmethM, hstM, habM⟩ := Cond.instanceMethod_spec hinst
  obtain ⟨m8, methM', cM, hn8, hmethM', -, -, -, -, -, -, hsigM⟩ := Cond.codeWith_spec hcode
  cases Option.some.inj (hn8.symm.trans hnamed)
  cases hmethM.symm.trans hmethM'
  obtain ⟨c2, r2, m2, q1, q2, q3, q4, kP, hkP, hkPi⟩ := Cond.selects_spec hsel
  cases hcls.symm.trans q1
  cases (State.methodFound?_of_named hnamed hy).symm.trans q2
  cases hnamed.symm.trans q3
  have hselP : selectMethod e.platform s.vm cellB.cls mk = .method mk := by rw [Launch.admits_selectMethod X.admits]; exact q4
  obtain ⟨vm₁, X₁, hstep₁⟩ := X.invokevirtual hexec hown hlink hnamed hmethM hstM hkP hkPi hy (a := b) (cell := cellB) hcell
    (fun z h => by rw [h] at hobj; cases hobj) hselP hmethM habM hkP hkPi (g := g) hg (argsL := argsL) (rest := rest) (hlen _ hsigM) hstack hdg
  rcases hK m meth c ⟨T.setVm vm₁, locs, cells, slots⟩ { g with stack := rest } (.invokevirtual index) mk (Value.ref b :: argsL).toArray X₁ hg hsize hdg hW (X₁.named hnamed) (hpre vm₁ X₁.warmed) with ⟨v, B, X', hpost, hsteps⟩ | ⟨q, B, X', hpost, hsteps⟩
  · exact Or.inl ⟨v, vm₁, B, X₁.warmed, X', hpost, fun target h => hstep₁ _ fun acts => by rw [doInvoke_state]; exact hsteps.trans h⟩
  · exact Or.inr ⟨q, vm₁, B, X₁.warmed, X', hpost, hstep₁ _ fun acts => by rw [doInvoke_state]; exact hsteps⟩
theorem vx_callSX (X : Stand p l e R s m args below meth c T locs cells slots) (hexec : p.tables.exec = Jvm.exec) {own : String} {index : Nat} {y : MethodName} {bytes : ByteArray} {maxL : Nat} {ret : Option FieldType} {hh : List (Nat × Nat × Nat × Nat)}
    (hown : s.vm.findClass own = some m.cls) (hlink : (Cond.methodLink own index y).before args s = true) (hstat : (Cond.static y).before args s = true) (hinit : (Cond.initialized y.cls).before args s = true)
    (hcode : (Cond.codeWith y bytes maxL ret hh).before args s = true) (hy : y.cls ≠ "java/lang/invoke/MethodHandle" ∧ y.cls ≠ "java/lang/invoke/VarHandle")
    {W9 : Nat} {Pre : Pt → Array Value → Prop} {Post : Pt → Array Value → Option Value → Pt → Prop} {PostX : Pt → Array Value → Addr → Pt → Prop} (hK : vx_Back l R p e below s args y 3 W9 Pre Post PostX)
    {g : JFrame} (hg : g.method = m) (hsize : g.locals.size = c.maxLocals) {argsL rest : List Value} (hlen : ∀ sig, parseMethodDescriptor y.desc = some sig → argsL.length = sig.parameters.length)
    (hstack : g.stack = argsL.reverse ++ rest) (hW : 2 * g.monitorRoom + (rest.map fun v => v.category).sum ≤ W9) (hdg : decode c.code g.pc = .ok (.invokestatic index, 3))
    (hpre : ∀ vm₁, s.WarmedH vm₁ → Pre ⟨T.setVm vm₁, locs, cells, slots⟩ argsL.toArray) :
    (∃ (v : Option Value) (vm₁ : Vm) (B : Pt), s.WarmedH vm₁ ∧ Stand p l e R s m args below meth c B.U B.locs B.cells B.slots ∧ Post ⟨T.setVm vm₁, locs, cells, slots⟩ argsL.toArray v B ∧
      ∀ target, Steps p.tables e below (B.U.setTop { g with pc := g.pc + 3, stack := v.toList ++ rest }) target → Steps p.tables e below (T.setTop g) target) ∨
    (∃ (q : Addr) (vm₁ : Vm) (B : Pt), s.WarmedH vm₁ ∧ Stand p l e R s m args below meth c B.U B.locs B.cells B.slots ∧ PostX ⟨T.setVm vm₁, locs, cells, slots⟩ argsL.toArray q B ∧
      Steps p.tables e below (T.setTop g) ((B.U.setTop { g with stack := rest }).pushFrame (.throwing q))) := by
  obtain ⟨mk, methM, cM, hnamed, hmethM, -, -, -, -, -, -, hsigM⟩ := Cond.codeWith_spec hcode
  have hstatic : methM.isStatic = true := Cond.static_spec hnamed hmethM hstat
  obtain ⟨kP, hkP, -⟩ := className_of_methodNamed hnamed
  have hinitP : kP.init = .initialized := Cond.initialized_spec (findClass_of_methodNamed hnamed) hkP hinit
  obtain ⟨vm₁, X₁, hstep₁⟩ := X.invokestatic hexec hown hlink hnamed hmethM hstatic hkP hinitP hy (g := g) hg (argsL := argsL) (rest := rest) (hlen _ hsigM) hstack hdg
  rcases hK m meth c ⟨T.setVm vm₁, locs, cells, slots⟩ { g with stack := rest } (.invokestatic index) mk argsL.toArray X₁ hg hsize hdg hW (X₁.named hnamed) (hpre vm₁ X₁.warmed) with ⟨v, B, X', hpost, hsteps⟩ | ⟨q, B, X', hpost, hsteps⟩
  · exact Or.inl ⟨v, vm₁, B, X₁.warmed, X', hpost, fun target h => hstep₁ _ fun acts => by rw [doInvoke_state]; exact hsteps.trans h⟩
  · exact Or.inr ⟨q, vm₁, B, X₁.warmed, X', hpost, hstep₁ _ fun acts => by rw [doInvoke_state]; exact hsteps⟩
theorem vx_callVW (X : Stand p l e R s m args below meth c T locs cells slots) (hexec : p.tables.exec = Jvm.exec) {own C : String} {index : Nat} {y : MethodName} {bytes : ByteArray} {maxL : Nat} {ret : Option FieldType} {hh : List (Nat × Nat × Nat × Nat)}
    (hown : s.vm.findClass own = some m.cls) (hlink : (Cond.methodLink own index y).before args s = true) (hinst : (Cond.instanceMethod y).before args s = true) (hsel : (Cond.selects C y y).before args s = true)
    (hcode : (Cond.codeWith y bytes maxL ret hh).before args s = true) (hy : y.cls ≠ "java/lang/invoke/MethodHandle" ∧ y.cls ≠ "java/lang/invoke/VarHandle")
    {W9 : Nat} {Pre : Pt → Array Value → Prop} {Post : Pt → Array Value → Option Value → Pt → Prop} (hK : Back l R p e below s args y 3 W9 Pre Post)
    {b : Addr} {cellB : Cell} (hcell : T.heap[b]? = some cellB) (hobj : cellB.vm.isStatics = false) (hcls : s.vm.findClass C = some cellB.cls)
    {g : JFrame} (hg : g.method = m) (hsize : g.locals.size = c.maxLocals) {argsL rest : List Value} (hlen : ∀ sig, parseMethodDescriptor y.desc = some sig → argsL.length = sig.parameters.length)
    (hstack : g.stack = argsL.reverse ++ .ref b :: rest) (hW : 2 * g.monitorRoom + (rest.map fun v => v.category).sum ≤ W9) (hdg : decode c.code g.pc = .ok (.invokevirtual index, 3))
    (hpre : ∀ vm₁, s.WarmedH vm₁ → Pre ⟨T.setVm vm₁, locs, cells, slots⟩ (Value.ref b :: argsL).toArray) :
    ∃ (v : Option Value) (vm₁ : Vm) (B : Pt), s.WarmedH vm₁ ∧ Stand p l e R s m args below meth c B.U B.locs B.cells B.slots ∧ Post ⟨T.setVm vm₁, locs, cells, slots⟩ (Value.ref b :: argsL).toArray v B ∧
      ∀ target, Steps p.tables e below (B.U.setTop { g with pc := g.pc + 3, stack := v.toList ++ rest }) target → Steps p.tables e below (T.setTop g) target := by
  obtain ⟨mk, methM, hnamed, hmethM, hstM, habM⟩ := Cond.instanceMethod_spec hinst
  obtain ⟨m8, methM', cM, hn8, hmethM', -, -, -, -, -, -, hsigM⟩ := Cond.codeWith_spec hcode
  cases Option.some.inj (hn8.symm.trans hnamed)
  cases hmethM.symm.trans hmethM'
  obtain ⟨c2, r2, m2, q1, q2, q3, q4, kP, hkP, hkPi⟩ := Cond.selects_spec hsel
  cases hcls.symm.trans q1
  cases (State.methodFound?_of_named hnamed hy).symm.trans q2
  cases hnamed.symm.trans q3
  have hselP : selectMethod e.platform s.vm cellB.cls mk = .method mk := by rw [Launch.admits_selectMethod X.admits]; exact q4
  obtain ⟨vm₁, X₁, hstep₁⟩ := X.invokevirtual hexec hown hlink hnamed hmethM hstM hkP hkPi hy (a := b) (cell := cellB) hcell
    (fun z h => by rw [h] at hobj; cases hobj) hselP hmethM habM hkP hkPi (g := g) hg (argsL := argsL) (rest := rest) (hlen _ hsigM) hstack hdg
  obtain ⟨v, B, X', hpost, hsteps⟩ := hK m meth c ⟨T.setVm vm₁, locs, cells, slots⟩ { g with stack := rest } (.invokevirtual index) mk (Value.ref b :: argsL).toArray X₁ hg hsize hdg hW (X₁.named hnamed) (hpre vm₁ X₁.warmed)
  exact ⟨v, vm₁, B, X₁.warmed, X', hpost, fun target h => hstep₁ _ fun acts => by rw [doInvoke_state]; exact hsteps.trans h⟩
abbrev vx_CVW (R : Room) (s : State) (args : Array Value) (own C : String) (index : Nat) (y : MethodName) (bytes : ByteArray) (maxL : Nat) (ret : Option FieldType) (hh : List (Nat × Nat × Nat × Nat)) (ws : List Cond) (rm : Room) (mc ms n : Nat) : Prop :=
  (rm.cells = mc ∧ rm.slots = ms ∧ rm.frames + 1 ≤ R.frames ∧ 8 + (maxL + 11) + rm.locals ≤ R.locals ∧ (∀ w ∈ ws, ∀ (a' : Array Value) (U : State), s.WarmedH U.vm → w.before a' U = true) ∧ Cond.codeWith y bytes maxL ret hh ∈ ws) ∧
  (Cond.codeWith y bytes maxL ret hh).before args s = true ∧ (Cond.initialized y.cls).before args s = true ∧ (y.cls ≠ "java/lang/invoke/MethodHandle" ∧ y.cls ≠ "java/lang/invoke/VarHandle") ∧
  (∀ sig, parseMethodDescriptor y.desc = some sig → n = sig.parameters.length) ∧ (Cond.methodLink own index y).before args s = true ∧ (Cond.instanceMethod y).before args s = true ∧ (Cond.selects C y y).before args s = true
theorem vx_cwVW {own C : String} {index maxL mc ms : Nat} {y : MethodName} {bytes : ByteArray} {ret : Option FieldType} {hh : List (Nat × Nat × Nat × Nat)} {Ts ws ws' : List Cond} {rm : Room} (n : Nat) (ht : ∀ w ∈ Ts, w.before args s = true) (hT : GoodIn Ts (wsV own index C y ws)) (hw : ws = Cond.codeWith y bytes maxL ret hh :: ws') (hrc : rm.cells = mc) (hrs : rm.slots = ms)
    (hd : y.cls = C ∧ y.cls ≠ "java/lang/invoke/MethodHandle" ∧ y.cls ≠ "java/lang/invoke/VarHandle" ∧ (parseMethodDescriptor y.desc).map (fun d => d.parameters.length) = some n) (hR : rm.frames + 1 ≤ R.frames ∧ 8 + (maxL + 11) + rm.locals ≤ R.locals) :
    vx_CVW R s args own C index y bytes maxL ret hh ws rm mc ms n := by
  obtain ⟨hC, hd⟩ := hd
  subst hC
  have ok : ∀ w ∈ wsV own index y.cls y ws, w.before args s = true := fun w h => ht w (hT w h).1
  have hG : GoodIn Ts ws := fun w h => hT w (by unfold wsV; exact List.mem_append_right _ h)
  have hc : Cond.codeWith y bytes maxL ret hh ∈ ws := by rw [hw]; exact List.mem_cons_self
  refine ⟨⟨hrc, hrs, hR.1, hR.2, pay_in ht hG, hc⟩, ht _ (hG _ hc).1, ok _ (by simp [wsV]), ⟨hd.1, hd.2.1⟩, fun sig h => ?_, ok _ (by simp [wsV]), ok _ (by simp [wsV]), ok _ (by simp [wsV])⟩
  have h2 := hd.2.2
  rw [h] at h2
  exact (Option.some.inj h2).symm
theorem vx_runVW {y : MethodName} {bytes cc : ByteArray} {maxL nL mc ms n index : Nat} {ret : Option FieldType} {hh : List (Nat × Nat × Nat × Nat)} {ws : List Cond} {rm : Room} {Pc : Array Value → State → Prop} {Qc : Array Value → State → Outcome → State → Prop} {free : Addr → Prop} {Ts : List Cond} {own C : String} {b : Addr} {As rest : List Value} {g : JFrame}
    (S : CallFix p m c cc nL s args Ts own) (hM : Met l y ws rm Pc Qc mc ms free) (cw : vx_CVW R s args own C index y bytes maxL ret hh ws rm mc ms n) (hp : PreV s H C b Pc As)
    (hg : g.method = m) (hn : As.length = n) (hsize : g.locals.size = nL) (hstack : g.stack = As.reverse ++ .ref b :: rest) (hW : 2 * g.monitorRoom + (rest.map fun v => v.category).sum ≤ 8) (hdg : decode cc g.pc = .ok (.invokevirtual index, 3)) (hf : cells + mc ≤ R.cells ∧ slots + ms ≤ R.slots) :
    va_Run p l e R s m args below meth c H locs cells slots mc ms g rest (Qc (Value.ref b :: As).toArray) free := by
  obtain ⟨⟨hrc, hrs, hfr, hlo, hws, hcw⟩, hcode, hini, hy, hlen, hl, hin, hse⟩ := cw
  have hK : Back l R p e below s args y 3 8 (PreOf R mc ms Pc) (PostOf Qc mc ms free) := va_backW (hh := hh) (bytes := bytes) (maxL := maxL) (ret := ret) hM hp.1 hrc hrs hfr hlo hws hcw (fun a' U hW => word_at hW (Or.inl (by first | rfl | simp [Cond.onTables, Cond.keeps, Cond.steady])) hini)
  obtain ⟨hx, hb, hml, ho, -⟩ := S
  obtain ⟨-, ⟨cellB, hcB, hoB, hclB⟩, hPc⟩ := hp
  intro T hT X
  obtain ⟨v, vm₁, ⟨U', l2, c2, s2⟩, hW₁, X', ⟨g', mk, t, L, e1, e2, hq, h1, hL, h2, h3⟩, st⟩ := vx_callVW X hx (C := C) (hh := hh) (bytes := bytes) (maxL := maxL) (ret := ret) ho hl hin hse hcode hy hK (by rw [hT]; exact hcB) hoB hclB hg (hsize.trans hml.symm) (argsL := As) (rest := rest) (fun sig h => hn.trans (hlen sig h)) hstack hW (by rw [hb]; exact hdg)
    (fun vm₁ hW₁ => ⟨hf.1, hf.2, hPc (T.setVm vm₁) hT hW₁⟩)
  dsimp only [Pt.U, Pt.locs, Pt.cells, Pt.slots] at X' e1 e2 h1 h2 h3 st
  subst h1; subst h2; subst h3
  exact ⟨v, (T.setVm vm₁).calling g' mk (Value.ref b :: As).toArray, t, U', L, hT, X', hL, e1, e2, hq, st⟩
section
variable {y : MethodName} {bytes cc : ByteArray} {maxL nL mc ms n index : Nat} {ret : Option FieldType} {ws : List Cond} {rm : Room} {Pc : Array Value → State → Prop} {Qc : Array Value → State → Outcome → State → Prop} {XC : String → State → State → Prop} {free : Addr → Prop} {Ts : List Cond} {own C : String} {b : Addr} {As rest : List Value} {g : JFrame}
theorem vx_runVX {hh : List (Nat × Nat × Nat × Nat)} (S : CallFix p m c cc nL s args Ts own) (hM : vx_Met l y ws rm Pc Qc XC mc ms free) (cw : vx_CVW R s args own C index y bytes maxL ret hh ws rm mc ms n) (hp : PreV s H C b Pc As)
    (hg : g.method = m) (hn : As.length = n) (hsize : g.locals.size = nL) (hstack : g.stack = As.reverse ++ .ref b :: rest) (hW : 2 * g.monitorRoom + (rest.map fun v => v.category).sum ≤ 8) (hdg : decode cc g.pc = .ok (.invokevirtual index, 3)) (hf : cells + mc ≤ R.cells ∧ slots + ms ≤ R.slots) :
    vx_Run p l e R s m args below meth c H locs cells slots mc ms g rest (Qc (Value.ref b :: As).toArray) XC free := by
  obtain ⟨⟨hrc, hrs, hfr, hlo, hws, hcw⟩, hcode, hini, hy, hlen, hl, hin, hse⟩ := cw
  have hK : vx_Back l R p e below s args y 3 8 (PreOf R mc ms Pc) (PostOf Qc mc ms free) (vx_Post XC mc ms free) := vx_backW (hh := hh) (bytes := bytes) (maxL := maxL) (ret := ret) hM hp.1 hrc hrs hfr hlo hws hcw (fun a' U hW => word_at hW (Or.inl (by first | rfl | simp [Cond.onTables, Cond.keeps, Cond.steady])) hini)
  obtain ⟨hx, hb, hml, ho, -⟩ := S
  obtain ⟨-, ⟨cellB, hcB, hoB, hclB⟩, hPc⟩ := hp
  intro T hT X
  rcases vx_callVX X hx (C := C) (hh := hh) (bytes := bytes) (maxL := maxL) (ret := ret) ho hl hin hse hcode hy hK (by rw [hT]; exact hcB) hoB hclB hg (hsize.trans hml.symm) (argsL := As) (rest := rest) (fun sig h => hn.trans (hlen sig h)) hstack hW (by rw [hb]; exact hdg)
    (fun vm₁ hW₁ => ⟨hf.1, hf.2, hPc (T.setVm vm₁) hT hW₁⟩) with ⟨v, vm₁, ⟨U', l2, c2, s2⟩, hW₁, X', ⟨g', mk, t, L, e1, e2, hq, h1, hL, h2, h3⟩, st⟩ | ⟨q, vm₁, ⟨U', l2, c2, s2⟩, hW₁, X', ⟨g', mk, t, L, E, ce, e1, e2, hq, hce, hcv, hcl, h1, hL, h2, h3⟩, st⟩
  · dsimp only [Pt.U, Pt.locs, Pt.cells, Pt.slots] at X' e1 e2 h1 h2 h3 st
    subst h1; subst h2; subst h3
    exact Or.inl ⟨v, (T.setVm vm₁).calling g' mk (Value.ref b :: As).toArray, t, U', L, hT, X', hL, e1, e2, hq, st⟩
  · dsimp only [Pt.U, Pt.locs, Pt.cells, Pt.slots] at X' e1 e2 h1 h2 h3 st hcl
    subst h1; subst h2; subst h3
    exact Or.inr ⟨q, (T.setVm vm₁).calling g' mk (Value.ref b :: As).toArray, t, U', L, E, ce, hT, X', hL, e1, e2, hq, hce, hcv, vx_cls hW₁ hcl, st⟩
theorem vx_runSX {hh : List (Nat × Nat × Nat × Nat)} (S : CallFix p m c cc nL s args Ts own) (hM : vx_Met l y ws rm Pc Qc XC mc ms free) (cw : vx_CSW R s args own index y bytes maxL ret hh ws rm mc ms n) (hp : PreS s H Pc As)
    (hg : g.method = m) (hn : As.length = n) (hsize : g.locals.size = nL) (hstack : g.stack = As.reverse ++ rest) (hW : 2 * g.monitorRoom + (rest.map fun v => v.category).sum ≤ 8) (hdg : decode cc g.pc = .ok (.invokestatic index, 3)) (hf : cells + mc ≤ R.cells ∧ slots + ms ≤ R.slots) :
    vx_Run p l e R s m args below meth c H locs cells slots mc ms g rest (Qc As.toArray) XC free := by
  obtain ⟨⟨hrc, hrs, hfr, hlo, hws, hcw⟩, hcode, hini, hy, hlen, hl, hstt⟩ := cw
  have hK : vx_Back l R p e below s args y 3 8 (PreOf R mc ms Pc) (PostOf Qc mc ms free) (vx_Post XC mc ms free) := vx_backW (hh := hh) (bytes := bytes) (maxL := maxL) (ret := ret) hM hp.1 hrc hrs hfr hlo hws hcw (fun a' U hW => word_at hW (Or.inl (by first | rfl | simp [Cond.onTables, Cond.keeps, Cond.steady])) hini)
  obtain ⟨hx, hb, hml, ho, -⟩ := S
  intro T hT X
  rcases vx_callSX X hx (hh := hh) (bytes := bytes) (maxL := maxL) (ret := ret) ho hl hstt hini hcode hy hK hg (hsize.trans hml.symm) (argsL := As) (rest := rest) (fun sig h => hn.trans (hlen sig h)) hstack hW (by rw [hb]; exact hdg)
    (fun vm₁ hW₁ => ⟨hf.1, hf.2, hp.2 (T.setVm vm₁) hT hW₁⟩) with ⟨v, vm₁, ⟨U', l2, c2, s2⟩, hW₁, X', ⟨g', mk, t, L, e1, e2, hq, h1, hL, h2, h3⟩, st⟩ | ⟨q, vm₁, ⟨U', l2, c2, s2⟩, hW₁, X', ⟨g', mk, t, L, E, ce, e1, e2, hq, hce, hcv, hcl, h1, hL, h2, h3⟩, st⟩
  · dsimp only [Pt.U, Pt.locs, Pt.cells, Pt.slots] at X' e1 e2 h1 h2 h3 st
    subst h1; subst h2; subst h3
    exact Or.inl ⟨v, (T.setVm vm₁).calling g' mk As.toArray, t, U', L, hT, X', hL, e1, e2, hq, st⟩
  · dsimp only [Pt.U, Pt.locs, Pt.cells, Pt.slots] at X' e1 e2 h1 h2 h3 st hcl
    subst h1; subst h2; subst h3
    exact Or.inr ⟨q, (T.setVm vm₁).calling g' mk As.toArray, t, U', L, E, ce, hT, X', hL, e1, e2, hq, hce, hcv, vx_cls hW₁ hcl, st⟩
end
end VXH
theorem vx_ofWH {l : Launch} {y : MethodName} {ws ws' : List Cond} {rm : Room} {Pc : Array Value → State → Prop} {Qc : Array Value → State → Outcome → State → Prop} {XC : String → State → State → Prop} {mc ms : Nat} {free : Addr → Prop} {cc : ByteArray} {maxL : Nat} {ret : Option FieldType} {hh : List (Nat × Nat × Nat × Nat)}
    (hy : plainName y.cls = true) (hw : ws = Cond.codeWith y cc maxL ret hh :: ws')
    (body : ∀ p e s m args below meth c s₁, BodyLoose p l y (headSpec ws rm) cc maxL ret e s m args below meth c s₁ → c.maxLocals = maxL → Pc args s →
      W p l e (headSpec ws rm).room s m args below meth c s.heap [] 0 0 (vx_MQ below Qc XC args s mc ms free) (entryFrame m args maxL)) : vx_Met l y ws rm Pc Qc XC mc ms free := by
  refine MetFree.of_bodyS (code := cc) (maxLocals := maxL) (ret := ret) hy ?_ ?_
  · intro args s m h hn
    obtain ⟨m9, meth, c, hn9, h1, h2, h3, h4, -, h5, h6, -⟩ := Cond.codeWith_spec (atoms_spec (ws := ws) h _ (by rw [hw]; exact List.mem_cons_self))
    cases hn.symm.trans hn9
    exact ⟨meth, c, h1, h2, h3, h4, h5, h6⟩
  · intro p e s m args below meth c s₁ B hml hP _
    have hh0 : s₁.heap = s.heap := by rw [B.state]; rfl
    obtain ⟨t, a1, o, b1, b2, b3⟩ := body p e s m args below meth c s₁ B hml hP s₁ hh0 (Stand.of_body B)
    exact ⟨t, o, a1, b1, b2, b3⟩
/-! ===== END ===== -/
end
section
def RX0 : String := "OptionLine$Bundle"
def TX0 : u_T := fun k => match k with
  | 0 => ("OptionLine$Bundle", "starts", "[I", true)
  | 1 => ("OptionLine$Bundle", "packetOfPiece", "[I", true)
  | 2 => ("OptionLine$Bundle", "hasCome", "[Z", true)
  | 3 => ("OptionLine$Bundle", "firstOnLine", "[I", true)
  | 4 => ("OptionLine$Bundle", "lastOverLine", "[I", true)
  | 5 => ("OptionLine$Bundle", "givenPackets", "[I", true)
  | 6 => ("OptionLine$Bundle", "packets", "I", false)
  | 7 => ("OptionLine$Bundle", "givenCount", "I", false)
  | _ => ("OptionLine$Bundle", "nextNumber", "I", false)
def tyX0 : Nat → FieldType := fun k => match k with
  | 0 => .array .int
  | 1 => .array .int
  | 2 => .array .boolean
  | 3 => .array .int
  | 4 => .array .int
  | 5 => .array .int
  | 6 => .int
  | 7 => .int
  | _ => .int
theorem nmX0 : ∀ a, a < 9 → ∀ b, b < 9 → a ≠ b → (TX0 a).2.1 ≠ (TX0 b).2.1 := by decide +kernel
theorem tyX0_ok : ∀ k, k < 9 → parseFieldDescriptor (TX0 k).2.2.1 = some (tyX0 k) := by decide +kernel
abbrev cX0_init : ByteArray := prog_2_method_1_code
def yX0_init : MethodName := ⟨RX0, "<init>", "()V"⟩
abbrev cX0_addPacket : ByteArray := prog_2_method_2_code
def yX0_addPacket : MethodName := ⟨RX0, "addPacket", "(I)I"⟩
abbrev cX0_hasPieceOn : ByteArray := prog_2_method_3_code
def yX0_hasPieceOn : MethodName := ⟨RX0, "hasPieceOn", "(I)Z"⟩
abbrev cX0_takePiece : ByteArray := prog_2_method_4_code
def yX0_takePiece : MethodName := ⟨RX0, "takePiece", "(I)I"⟩
abbrev cX0_bring : ByteArray := prog_2_method_5_code
def yX0_bring : MethodName := ⟨RX0, "bring", "(I)I"⟩
abbrev cX0_advance : ByteArray := prog_2_method_6_code
def yX0_advance : MethodName := ⟨RX0, "advance", "()Z"⟩
abbrev cX0_advanceFromFirst : ByteArray := prog_2_method_7_code
def yX0_advanceFromFirst : MethodName := ⟨RX0, "advanceFromFirst", "(I)Z"⟩
abbrev cX0_give : ByteArray := prog_2_method_8_code
def yX0_give : MethodName := ⟨RX0, "give", "(I)V"⟩
abbrev cX0_firstNotCome : ByteArray := prog_2_method_9_code
def yX0_firstNotCome : MethodName := ⟨RX0, "firstNotCome", "(I)I"⟩
abbrev cX0_bound : ByteArray := prog_2_method_10_code
def yX0_bound : MethodName := ⟨RX0, "bound", "()I"⟩
def RX1 : String := "OptionLine$End"
def TX1 : u_T := fun k => match k with
  | 0 => ("OptionLine$End", "wishes", "[I", true)
  | 1 => ("OptionLine$End", "allowed", "[I", true)
  | 2 => ("OptionLine$End", "askedFor", "[I", true)
  | 3 => ("OptionLine$End", "row", "LOptionLine$FrameRow;", true)
  | 4 => ("OptionLine$End", "magic", "I", false)
  | 5 => ("OptionLine$End", "state", "I", false)
  | 6 => ("OptionLine$End", "timer", "I", false)
  | 7 => ("OptionLine$End", "sentRequests", "I", false)
  | 8 => ("OptionLine$End", "lastId", "I", false)
  | 9 => ("OptionLine$End", "looped", "Z", false)
  | _ => ("OptionLine$End", "missedFrames", "I", false)
def tyX1 : Nat → FieldType := fun k => match k with
  | 0 => .array .int
  | 1 => .array .int
  | 2 => .array .int
  | 3 => .object "OptionLine$FrameRow"
  | 4 => .int
  | 5 => .int
  | 6 => .int
  | 7 => .int
  | 8 => .int
  | 9 => .boolean
  | _ => .int
theorem nmX1 : ∀ a, a < 11 → ∀ b, b < 11 → a ≠ b → (TX1 a).2.1 ≠ (TX1 b).2.1 := by decide +kernel
theorem tyX1_ok : ∀ k, k < 11 → parseFieldDescriptor (TX1 k).2.2.1 = some (tyX1 k) := by decide +kernel
abbrev cX1_init : ByteArray := prog_3_method_1_code
def yX1_init : MethodName := ⟨RX1, "<init>", "(I)V"⟩
abbrev cX1_changeWish : ByteArray := prog_3_method_2_code
def yX1_changeWish : MethodName := ⟨RX1, "changeWish", "(II)I"⟩
abbrev cX1_changeAllowed : ByteArray := prog_3_method_3_code
def yX1_changeAllowed : MethodName := ⟨RX1, "changeAllowed", "(II)I"⟩
abbrev cX1_changeMagic : ByteArray := prog_3_method_4_code
def yX1_changeMagic : MethodName := ⟨RX1, "changeMagic", "(I)I"⟩
abbrev cX1_begin : ByteArray := prog_3_method_5_code
def yX1_begin : MethodName := ⟨RX1, "begin", "()I"⟩
abbrev cX1_finish : ByteArray := prog_3_method_6_code
def yX1_finish : MethodName := ⟨RX1, "finish", "()I"⟩
abbrev cX1_tick : ByteArray := prog_3_method_7_code
def yX1_tick : MethodName := ⟨RX1, "tick", "()Z"⟩
abbrev cX1_hear : ByteArray := prog_3_method_8_code
def yX1_hear : MethodName := ⟨RX1, "hear", "(LOptionLine$Frame;)V"⟩
abbrev cX1_hearRequest : ByteArray := prog_3_method_9_code
def yX1_hearRequest : MethodName := ⟨RX1, "hearRequest", "(LOptionLine$Frame;)V"⟩
abbrev cX1_hearAnswer : ByteArray := prog_3_method_10_code
def yX1_hearAnswer : MethodName := ⟨RX1, "hearAnswer", "(LOptionLine$Frame;)V"⟩
abbrev cX1_changeAskedFor : ByteArray := prog_3_method_11_code
def yX1_changeAskedFor : MethodName := ⟨RX1, "changeAskedFor", "(LOptionLine$Frame;)V"⟩
abbrev cX1_ask : ByteArray := prog_3_method_12_code
def yX1_ask : MethodName := ⟨RX1, "ask", "()Z"⟩
abbrev cX1_sendStop : ByteArray := prog_3_method_13_code
def yX1_sendStop : MethodName := ⟨RX1, "sendStop", "()V"⟩
abbrev cX1_answer : ByteArray := prog_3_method_14_code
def yX1_answer : MethodName := ⟨RX1, "answer", "(LOptionLine$Frame;)V"⟩
abbrev cX1_kindOfAnswer : ByteArray := prog_3_method_15_code
def yX1_kindOfAnswer : MethodName := ⟨RX1, "kindOfAnswer", "([I)I"⟩
abbrev cX1_toldOptions : ByteArray := prog_3_method_16_code
def yX1_toldOptions : MethodName := ⟨RX1, "toldOptions", "(I[I)[I"⟩
abbrev cX1_isUnknown : ByteArray := prog_3_method_17_code
def yX1_isUnknown : MethodName := ⟨RX1, "isUnknown", "(II)Z"⟩
abbrev cX1_isRefused : ByteArray := prog_3_method_18_code
def yX1_isRefused : MethodName := ⟨RX1, "isRefused", "(II)Z"⟩
abbrev cX1_allows : ByteArray := prog_3_method_19_code
def yX1_allows : MethodName := ⟨RX1, "allows", "(II)Z"⟩
abbrev cX1_lowestAllowed : ByteArray := prog_3_method_20_code
def yX1_lowestAllowed : MethodName := ⟨RX1, "lowestAllowed", "(I)I"⟩
abbrev cX1_tellNothing : ByteArray := prog_3_method_21_code
def yX1_tellNothing : MethodName := ⟨RX1, "tellNothing", "()[I"⟩
def RX2 : String := "OptionLine$Frame"
def TX2 : u_T := fun k => match k with
  | 0 => ("OptionLine$Frame", "kind", "I", true)
  | 1 => ("OptionLine$Frame", "id", "I", true)
  | 2 => ("OptionLine$Frame", "magic", "I", true)
  | 3 => ("OptionLine$Frame", "values", "[I", true)
  | _ => ("OptionLine$Frame", "behind", "LOptionLine$Frame;", false)
def tyX2 : Nat → FieldType := fun k => match k with
  | 0 => .int
  | 1 => .int
  | 2 => .int
  | 3 => .array .int
  | _ => .object "OptionLine$Frame"
theorem nmX2 : ∀ a, a < 5 → ∀ b, b < 5 → a ≠ b → (TX2 a).2.1 ≠ (TX2 b).2.1 := by decide +kernel
theorem tyX2_ok : ∀ k, k < 5 → parseFieldDescriptor (TX2 k).2.2.1 = some (tyX2 k) := by decide +kernel
abbrev cX2_init : ByteArray := prog_4_method_1_code
def yX2_init : MethodName := ⟨RX2, "<init>", "(III[I)V"⟩
def RX3 : String := "OptionLine$FrameRow"
def TX3 : u_T := fun k => match k with
  | 0 => ("OptionLine$FrameRow", "first", "LOptionLine$Frame;", false)
  | 1 => ("OptionLine$FrameRow", "last", "LOptionLine$Frame;", false)
  | _ => ("OptionLine$FrameRow", "count", "I", false)
def tyX3 : Nat → FieldType := fun k => match k with
  | 0 => .object "OptionLine$Frame"
  | 1 => .object "OptionLine$Frame"
  | _ => .int
theorem nmX3 : ∀ a, a < 3 → ∀ b, b < 3 → a ≠ b → (TX3 a).2.1 ≠ (TX3 b).2.1 := by decide +kernel
theorem tyX3_ok : ∀ k, k < 3 → parseFieldDescriptor (TX3 k).2.2.1 = some (tyX3 k) := by decide +kernel
abbrev cX3_init : ByteArray := prog_5_method_1_code
def yX3_init : MethodName := ⟨RX3, "<init>", "()V"⟩
abbrev cX3_put : ByteArray := prog_5_method_2_code
def yX3_put : MethodName := ⟨RX3, "put", "(LOptionLine$Frame;)V"⟩
abbrev cX3_takeFirst : ByteArray := prog_5_method_3_code
def yX3_takeFirst : MethodName := ⟨RX3, "takeFirst", "()LOptionLine$Frame;"⟩
def RX4 : String := "OptionLine"
def TX4 : u_T := fun k => match k with
  | 0 => ("OptionLine", "endZero", "LOptionLine$End;", true)
  | 1 => ("OptionLine", "endOne", "LOptionLine$End;", true)
  | _ => ("OptionLine", "bundle", "LOptionLine$Bundle;", true)
def tyX4 : Nat → FieldType := fun k => match k with
  | 0 => .object "OptionLine$End"
  | 1 => .object "OptionLine$End"
  | _ => .object "OptionLine$Bundle"
theorem nmX4 : ∀ a, a < 3 → ∀ b, b < 3 → a ≠ b → (TX4 a).2.1 ≠ (TX4 b).2.1 := by decide +kernel
theorem tyX4_ok : ∀ k, k < 3 → parseFieldDescriptor (TX4 k).2.2.1 = some (tyX4 k) := by decide +kernel
abbrev cX4_init : ByteArray := prog_1_method_1_code
def yX4_init : MethodName := ⟨RX4, "<init>", "()V"⟩
abbrev cX4_wish : ByteArray := prog_1_method_2_code
def yX4_wish : MethodName := ⟨RX4, "wish", "(III)I"⟩
abbrev cX4_allow : ByteArray := prog_1_method_3_code
def yX4_allow : MethodName := ⟨RX4, "allow", "(III)I"⟩
abbrev cX4_setMagic : ByteArray := prog_1_method_4_code
def yX4_setMagic : MethodName := ⟨RX4, "setMagic", "(II)I"⟩
abbrev cX4_open : ByteArray := prog_1_method_5_code
def yX4_open : MethodName := ⟨RX4, "open", "(I)I"⟩
abbrev cX4_close : ByteArray := prog_1_method_6_code
def yX4_close : MethodName := ⟨RX4, "close", "(I)I"⟩
abbrev cX4_deliver : ByteArray := prog_1_method_7_code
def yX4_deliver : MethodName := ⟨RX4, "deliver", "(I)I"⟩
abbrev cX4_lose : ByteArray := prog_1_method_8_code
def yX4_lose : MethodName := ⟨RX4, "lose", "(I)I"⟩
abbrev cX4_loop : ByteArray := prog_1_method_9_code
def yX4_loop : MethodName := ⟨RX4, "loop", "(I)I"⟩
abbrev cX4_pass : ByteArray := prog_1_method_10_code
def yX4_pass : MethodName := ⟨RX4, "pass", "(I)I"⟩
abbrev cX4_stateOf : ByteArray := prog_1_method_11_code
def yX4_stateOf : MethodName := ⟨RX4, "stateOf", "(I)I"⟩
abbrev cX4_asked : ByteArray := prog_1_method_12_code
def yX4_asked : MethodName := ⟨RX4, "asked", "(II)I"⟩
abbrev cX4_requests : ByteArray := prog_1_method_13_code
def yX4_requests : MethodName := ⟨RX4, "requests", "(I)I"⟩
abbrev cX4_isLooped : ByteArray := prog_1_method_14_code
def yX4_isLooped : MethodName := ⟨RX4, "isLooped", "(I)Z"⟩
abbrev cX4_underWay : ByteArray := prog_1_method_15_code
def yX4_underWay : MethodName := ⟨RX4, "underWay", "(I)I"⟩
abbrev cX4_missed : ByteArray := prog_1_method_16_code
def yX4_missed : MethodName := ⟨RX4, "missed", "(I)I"⟩
abbrev cX4_send : ByteArray := prog_1_method_17_code
def yX4_send : MethodName := ⟨RX4, "send", "(I)I"⟩
abbrev cX4_come : ByteArray := prog_1_method_18_code
def yX4_come : MethodName := ⟨RX4, "come", "(I)I"⟩
abbrev cX4_drop : ByteArray := prog_1_method_19_code
def yX4_drop : MethodName := ⟨RX4, "drop", "(I)I"⟩
abbrev cX4_given : ByteArray := prog_1_method_20_code
def yX4_given : MethodName := ⟨RX4, "given", "()I"⟩
abbrev cX4_givenAt : ByteArray := prog_1_method_21_code
def yX4_givenAt : MethodName := ⟨RX4, "givenAt", "(I)I"⟩
abbrev cX4_next : ByteArray := prog_1_method_22_code
def yX4_next : MethodName := ⟨RX4, "next", "()I"⟩
abbrev cX4_endAt : ByteArray := prog_1_method_23_code
def yX4_endAt : MethodName := ⟨RX4, "endAt", "(I)LOptionLine$End;"⟩
abbrev cX4_refuseNoOption : ByteArray := prog_1_method_24_code
def yX4_refuseNoOption : MethodName := ⟨RX4, "refuseNoOption", "(I)V"⟩
abbrev cX4_takeFrame : ByteArray := prog_1_method_25_code
def yX4_takeFrame : MethodName := ⟨RX4, "takeFrame", "(LOptionLine$End;)LOptionLine$Frame;"⟩
abbrev cX4_refuseEmptyLine : ByteArray := prog_1_method_26_code
def yX4_refuseEmptyLine : MethodName := ⟨RX4, "refuseEmptyLine", "(I)V"⟩
def RX5 : String := "OptionLineModel"
def TX5 : u_T := fun k => match k with
  | 0 => ("OptionLineModel", "thrown", "I", false)
  | 1 => ("OptionLineModel", "wishes", "[I", true)
  | 2 => ("OptionLineModel", "allowed", "[I", true)
  | 3 => ("OptionLineModel", "asks", "[I", true)
  | 4 => ("OptionLineModel", "magic", "[I", true)
  | 5 => ("OptionLineModel", "state", "[I", true)
  | 6 => ("OptionLineModel", "lastId", "[I", true)
  | 7 => ("OptionLineModel", "requests", "[I", true)
  | 8 => ("OptionLineModel", "timer", "[I", true)
  | 9 => ("OptionLineModel", "isLooped", "[Z", true)
  | 10 => ("OptionLineModel", "missed", "[I", true)
  | 11 => ("OptionLineModel", "head", "[I", true)
  | 12 => ("OptionLineModel", "many", "[I", true)
  | 13 => ("OptionLineModel", "kind", "[I", true)
  | 14 => ("OptionLineModel", "id", "[I", true)
  | 15 => ("OptionLineModel", "number", "[I", true)
  | 16 => ("OptionLineModel", "told", "[I", true)
  | 17 => ("OptionLineModel", "packets", "I", false)
  | 18 => ("OptionLineModel", "pieces", "I", false)
  | 19 => ("OptionLineModel", "firstOf", "[I", true)
  | 20 => ("OptionLineModel", "packetOf", "[I", true)
  | 21 => ("OptionLineModel", "isHere", "[Z", true)
  | 22 => ("OptionLineModel", "onLine", "[I", true)
  | 23 => ("OptionLineModel", "latest", "[I", true)
  | 24 => ("OptionLineModel", "next", "I", false)
  | 25 => ("OptionLineModel", "given", "I", false)
  | _ => ("OptionLineModel", "row", "[I", true)
def tyX5 : Nat → FieldType := fun k => match k with
  | 0 => .int
  | 1 => .array .int
  | 2 => .array .int
  | 3 => .array .int
  | 4 => .array .int
  | 5 => .array .int
  | 6 => .array .int
  | 7 => .array .int
  | 8 => .array .int
  | 9 => .array .boolean
  | 10 => .array .int
  | 11 => .array .int
  | 12 => .array .int
  | 13 => .array .int
  | 14 => .array .int
  | 15 => .array .int
  | 16 => .array .int
  | 17 => .int
  | 18 => .int
  | 19 => .array .int
  | 20 => .array .int
  | 21 => .array .boolean
  | 22 => .array .int
  | 23 => .array .int
  | 24 => .int
  | 25 => .int
  | _ => .array .int
theorem nmX5 : ∀ a, a < 27 → ∀ b, b < 27 → a ≠ b → (TX5 a).2.1 ≠ (TX5 b).2.1 := by decide +kernel
theorem tyX5_ok : ∀ k, k < 27 → parseFieldDescriptor (TX5 k).2.2.1 = some (tyX5 k) := by decide +kernel
abbrev cX5_init : ByteArray := prog_7_method_1_code
def yX5_init : MethodName := ⟨RX5, "<init>", "()V"⟩
abbrev cX5_thrown : ByteArray := prog_7_method_2_code
def yX5_thrown : MethodName := ⟨RX5, "thrown", "()I"⟩
abbrev cX5_in : ByteArray := prog_7_method_3_code
def yX5_in : MethodName := ⟨RX5, "in", "(III)Z"⟩
abbrev cX5_isEnd : ByteArray := prog_7_method_4_code
def yX5_isEnd : MethodName := ⟨RX5, "isEnd", "(I)Z"⟩
abbrev cX5_isOption : ByteArray := prog_7_method_5_code
def yX5_isOption : MethodName := ⟨RX5, "isOption", "(I)Z"⟩
abbrev cX5_wish : ByteArray := prog_7_method_6_code
def yX5_wish : MethodName := ⟨RX5, "wish", "(III)I"⟩
abbrev cX5_allow : ByteArray := prog_7_method_7_code
def yX5_allow : MethodName := ⟨RX5, "allow", "(III)I"⟩
abbrev cX5_setMagic : ByteArray := prog_7_method_8_code
def yX5_setMagic : MethodName := ⟨RX5, "setMagic", "(II)I"⟩
abbrev cX5_sends : ByteArray := prog_7_method_9_code
def yX5_sends : MethodName := ⟨RX5, "sends", "(IIII)V"⟩
abbrev cX5_place : ByteArray := prog_7_method_10_code
def yX5_place : MethodName := ⟨RX5, "place", "(I)I"⟩
abbrev cX5_valueIn : ByteArray := prog_7_method_11_code
def yX5_valueIn : MethodName := ⟨RX5, "valueIn", "(II)I"⟩
abbrev cX5_begs : ByteArray := prog_7_method_12_code
def yX5_begs : MethodName := ⟨RX5, "begs", "(I)Z"⟩
abbrev cX5_lowest : ByteArray := prog_7_method_13_code
def yX5_lowest : MethodName := ⟨RX5, "lowest", "(I)I"⟩
abbrev cX5_answers : ByteArray := prog_7_method_14_code
def yX5_answers : MethodName := ⟨RX5, "answers", "(III)V"⟩
abbrev cX5_comesRequest : ByteArray := prog_7_method_15_code
def yX5_comesRequest : MethodName := ⟨RX5, "comesRequest", "(IIII)V"⟩
abbrev cX5_comesAnswer : ByteArray := prog_7_method_16_code
def yX5_comesAnswer : MethodName := ⟨RX5, "comesAnswer", "(III)V"⟩
abbrev cX5_comes : ByteArray := prog_7_method_17_code
def yX5_comes : MethodName := ⟨RX5, "comes", "(II)V"⟩
abbrev cX5_takes : ByteArray := prog_7_method_18_code
def yX5_takes : MethodName := ⟨RX5, "takes", "(I)I"⟩
abbrev cX5_open : ByteArray := prog_7_method_19_code
def yX5_open : MethodName := ⟨RX5, "open", "(I)I"⟩
abbrev cX5_close : ByteArray := prog_7_method_20_code
def yX5_close : MethodName := ⟨RX5, "close", "(I)I"⟩
abbrev cX5_asksFrame : ByteArray := prog_7_method_21_code
def yX5_asksFrame : MethodName := ⟨RX5, "asksFrame", "(I)Z"⟩
abbrev cX5_deliver : ByteArray := prog_7_method_22_code
def yX5_deliver : MethodName := ⟨RX5, "deliver", "(I)I"⟩
abbrev cX5_lose : ByteArray := prog_7_method_23_code
def yX5_lose : MethodName := ⟨RX5, "lose", "(I)I"⟩
abbrev cX5_loop : ByteArray := prog_7_method_24_code
def yX5_loop : MethodName := ⟨RX5, "loop", "(I)I"⟩
abbrev cX5_goesBy : ByteArray := prog_7_method_25_code
def yX5_goesBy : MethodName := ⟨RX5, "goesBy", "(I)I"⟩
abbrev cX5_pass : ByteArray := prog_7_method_26_code
def yX5_pass : MethodName := ⟨RX5, "pass", "(I)I"⟩
abbrev cX5_asksEnd : ByteArray := prog_7_method_27_code
def yX5_asksEnd : MethodName := ⟨RX5, "asksEnd", "(I)Z"⟩
abbrev cX5_stateOf : ByteArray := prog_7_method_28_code
def yX5_stateOf : MethodName := ⟨RX5, "stateOf", "(I)I"⟩
abbrev cX5_asked : ByteArray := prog_7_method_29_code
def yX5_asked : MethodName := ⟨RX5, "asked", "(II)I"⟩
abbrev cX5_requests : ByteArray := prog_7_method_30_code
def yX5_requests : MethodName := ⟨RX5, "requests", "(I)I"⟩
abbrev cX5_isLooped : ByteArray := prog_7_method_31_code
def yX5_isLooped : MethodName := ⟨RX5, "isLooped", "(I)Z"⟩
abbrev cX5_underWay : ByteArray := prog_7_method_32_code
def yX5_underWay : MethodName := ⟨RX5, "underWay", "(I)I"⟩
abbrev cX5_missed : ByteArray := prog_7_method_33_code
def yX5_missed : MethodName := ⟨RX5, "missed", "(I)I"⟩
abbrev cX5_send : ByteArray := prog_7_method_34_code
def yX5_send : MethodName := ⟨RX5, "send", "(I)I"⟩
abbrev cX5_bound : ByteArray := prog_7_method_35_code
def yX5_bound : MethodName := ⟨RX5, "bound", "()I"⟩
abbrev cX5_missing : ByteArray := prog_7_method_36_code
def yX5_missing : MethodName := ⟨RX5, "missing", "(I)I"⟩
abbrev cX5_goesOn : ByteArray := prog_7_method_37_code
def yX5_goesOn : MethodName := ⟨RX5, "goesOn", "()Z"⟩
abbrev cX5_asksLine : ByteArray := prog_7_method_38_code
def yX5_asksLine : MethodName := ⟨RX5, "asksLine", "(I)Z"⟩
abbrev cX5_come : ByteArray := prog_7_method_39_code
def yX5_come : MethodName := ⟨RX5, "come", "(I)I"⟩
abbrev cX5_drop : ByteArray := prog_7_method_40_code
def yX5_drop : MethodName := ⟨RX5, "drop", "(I)I"⟩
abbrev cX5_given : ByteArray := prog_7_method_41_code
def yX5_given : MethodName := ⟨RX5, "given", "()I"⟩
abbrev cX5_givenAt : ByteArray := prog_7_method_42_code
def yX5_givenAt : MethodName := ⟨RX5, "givenAt", "(I)I"⟩
abbrev cX5_next : ByteArray := prog_7_method_43_code
def yX5_next : MethodName := ⟨RX5, "next", "()I"⟩
def RJx145de : String := "java/io/Serializable"
def TJx145de : u_T := fun k => match k with
  | _ => ("", "", "", false)
def tyJx145de : Nat → FieldType := fun k => match k with
  | _ => .int
def RJx8e188 : String := "java/lang/Cloneable"
def TJx8e188 : u_T := fun k => match k with
  | _ => ("", "", "", false)
def tyJx8e188 : Nat → FieldType := fun k => match k with
  | _ => .int
def RJ9 : String := "java/lang/Math"
def TJ9 : u_T := fun k => match k with
  | _ => ("", "", "", false)
def tyJ9 : Nat → FieldType := fun k => match k with
  | _ => .int
abbrev cJ9_min_7cf53 : ByteArray := prog_13_method_69_code
def yJ9_min_7cf53 : MethodName := ⟨RJ9, "min", "(II)I"⟩
def RJ0 : String := "java/lang/String"
def TJ0 : u_T := fun k => match k with
  | _ => ("", "", "", false)
def tyJ0 : Nat → FieldType := fun k => match k with
  | _ => .int
def RJ10 : String := "java/lang/System"
def TJ10 : u_T := fun k => match k with
  | _ => ("", "", "", false)
def tyJ10 : Nat → FieldType := fun k => match k with
  | _ => .int
def RJ7 : String := "java/util/Arrays"
def TJ7 : u_T := fun k => match k with
  | _ => ("", "", "", false)
def tyJ7 : Nat → FieldType := fun k => match k with
  | _ => .int
abbrev cJ7_fill_53178 : ByteArray := prog_18_method_103_code
def yJ7_fill_53178 : MethodName := ⟨RJ7, "fill", "([II)V"⟩
abbrev cJ7_copyOf_59c91 : ByteArray := prog_18_method_123_code
def yJ7_copyOf_59c91 : MethodName := ⟨RJ7, "copyOf", "([II)[I"⟩
def RL : String := "OptionLineLaw"
abbrev cL_wish : ByteArray := method_3_code
def yL_wish : MethodName := ⟨RL, "wish", "(LOptionLine;III[J)I"⟩
abbrev cL_allow : ByteArray := method_4_code
def yL_allow : MethodName := ⟨RL, "allow", "(LOptionLine;III[J)I"⟩
abbrev cL_setMagic : ByteArray := method_5_code
def yL_setMagic : MethodName := ⟨RL, "setMagic", "(LOptionLine;II[J)I"⟩
abbrev cL_open : ByteArray := method_6_code
def yL_open : MethodName := ⟨RL, "open", "(LOptionLine;I[J)I"⟩
abbrev cL_close : ByteArray := method_7_code
def yL_close : MethodName := ⟨RL, "close", "(LOptionLine;I[J)I"⟩
abbrev cL_deliver : ByteArray := method_8_code
def yL_deliver : MethodName := ⟨RL, "deliver", "(LOptionLine;I[J)I"⟩
abbrev cL_lose : ByteArray := method_9_code
def yL_lose : MethodName := ⟨RL, "lose", "(LOptionLine;I[J)I"⟩
abbrev cL_loop : ByteArray := method_10_code
def yL_loop : MethodName := ⟨RL, "loop", "(LOptionLine;I[J)I"⟩
abbrev cL_pass : ByteArray := method_11_code
def yL_pass : MethodName := ⟨RL, "pass", "(LOptionLine;I[J)I"⟩
abbrev cL_stateOf : ByteArray := method_12_code
def yL_stateOf : MethodName := ⟨RL, "stateOf", "(LOptionLine;I[J)I"⟩
abbrev cL_asked : ByteArray := method_13_code
def yL_asked : MethodName := ⟨RL, "asked", "(LOptionLine;II[J)I"⟩
abbrev cL_requests : ByteArray := method_14_code
def yL_requests : MethodName := ⟨RL, "requests", "(LOptionLine;I[J)I"⟩
abbrev cL_isLooped : ByteArray := method_15_code
def yL_isLooped : MethodName := ⟨RL, "isLooped", "(LOptionLine;I[J)I"⟩
abbrev cL_underWay : ByteArray := method_16_code
def yL_underWay : MethodName := ⟨RL, "underWay", "(LOptionLine;I[J)I"⟩
abbrev cL_missed : ByteArray := method_17_code
def yL_missed : MethodName := ⟨RL, "missed", "(LOptionLine;I[J)I"⟩
abbrev cL_send : ByteArray := method_18_code
def yL_send : MethodName := ⟨RL, "send", "(LOptionLine;I[J)I"⟩
abbrev cL_come : ByteArray := method_19_code
def yL_come : MethodName := ⟨RL, "come", "(LOptionLine;I[J)I"⟩
abbrev cL_drop : ByteArray := method_20_code
def yL_drop : MethodName := ⟨RL, "drop", "(LOptionLine;I[J)I"⟩
abbrev cL_givenAt : ByteArray := method_21_code
def yL_givenAt : MethodName := ⟨RL, "givenAt", "(LOptionLine;I[J)I"⟩
abbrev cL_law : ByteArray := code
def yL_law : MethodName := ⟨RL, "law", "([I)Z"⟩
abbrev vwCl : List vw_C := [(RX0, TX0, 9), (RX1, TX1, 11), (RX2, TX2, 5), (RX3, TX3, 3), (RX4, TX4, 3), (RX5, TX5, 27)]
end
section
/-! rows of kit/laws/EXCEPTIONS.to-paste (calls of constructors that may throw), pasted -/
section VXIA
variable {p : Program} {l : Launch} {e : Env} {R : Room} {s : State} {m : MethodId} {args : Array Value} {below : List Frame} {meth : Method} {c : Code} {T : State} {locs : List Loc} {cells slots : Nat}
theorem vx_callI (X : Stand p l e R s m args below meth c T locs cells slots) (hexec : p.tables.exec = Jvm.exec) {own : String} {index : Nat} {y : MethodName} {bytes : ByteArray} {maxL : Nat}
    (hown : s.vm.findClass own = some m.cls) (hy1 : y.name = "<init>") (hlink : (Cond.methodLink own index y).before args s = true) (hinst : (Cond.instanceMethod y).before args s = true)
    (hcode : (Cond.code y bytes maxL none).before args s = true) (hy : y.cls ≠ "java/lang/invoke/MethodHandle" ∧ y.cls ≠ "java/lang/invoke/VarHandle")
    {W9 : Nat} {Pre : Pt → Array Value → Prop} {Post : Pt → Array Value → Option Value → Pt → Prop} {PostX : Pt → Array Value → Addr → Pt → Prop} (hK : vx_Back l R p e below s args y 3 W9 Pre Post PostX)
    {g : JFrame} (hg : g.method = m) (hsize : g.locals.size = c.maxLocals) {a : Addr} {argsL rest : List Value} (hlen : ∀ sig, parseMethodDescriptor y.desc = some sig → argsL.length = sig.parameters.length)
    (hstack : g.stack = argsL.reverse ++ .ref a :: rest) (hW : 2 * g.monitorRoom + (rest.map fun v => v.category).sum ≤ W9) (hdg : decode c.code g.pc = .ok (.invokespecial index, 3))
    (hpre : ∀ vm₁, s.WarmedH vm₁ → Pre ⟨T.setVm vm₁, locs, cells, slots⟩ (Value.ref a :: argsL).toArray) :
    (∃ (v : Option Value) (vm₁ : Vm) (B : Pt), s.WarmedH vm₁ ∧ Stand p l e R s m args below meth c B.U B.locs B.cells B.slots ∧ Post ⟨T.setVm vm₁, locs, cells, slots⟩ (Value.ref a :: argsL).toArray v B ∧
      ∀ target, Steps p.tables e below (B.U.setTop { g with pc := g.pc + 3, stack := v.toList ++ rest }) target → Steps p.tables e below (T.setTop g) target) ∨
    (∃ (q : Addr) (vm₁ : Vm) (B : Pt), s.WarmedH vm₁ ∧ Stand p l e R s m args below meth c B.U B.locs B.cells B.slots ∧ PostX ⟨T.setVm vm₁, locs, cells, slots⟩ (Value.ref a :: argsL).toArray q B ∧
      Steps p.tables e below (T.setTop g) ((B.U.setTop { g with stack := rest }).pushFrame (.throwing q))) := by
  subst hg
  have hpl : e.platform.magicAccessors = ({} : Platform).magicAccessors := by rw [X.admits.platform]
  obtain ⟨mk, methM, cM, kP, vm₁, hnamed, hmethM, hcodeM, -, hlocalsM, -, hkP, -, hW₁, hstep₁⟩ := Steps.initColdArgs (e := e) X.here hexec X.warmed hpl hown hy1 hy hlink hinst hcode (f := g) rfl hlen hstack hdg
  have X₁ := X.noted hW₁
  rcases hK g.method meth c ⟨T.setVm vm₁, locs, cells, slots⟩ { g with stack := rest } (.invokespecial index) mk (Value.ref a :: argsL).toArray X₁ rfl hsize hdg hW (X₁.named hnamed) (hpre vm₁ X₁.warmed) with ⟨v, B, X', hpost, hsteps⟩ | ⟨q, B, X', hpost, hsteps⟩
  · exact Or.inl ⟨v, vm₁, B, X₁.warmed, X', hpost, fun target h => hstep₁ _ fun acts => by rw [doInvoke_state]; exact hsteps.trans h⟩
  · exact Or.inr ⟨q, vm₁, B, X₁.warmed, X', hpost, hstep₁ _ fun acts => by rw [doInvoke_state]; exact hsteps⟩
end VXIA
section VXIB
variable {p : Program} {l : Launch} {e : Env} {R : Room} {s : State} {m : MethodId} {args : Array Value} {below : List Frame} {meth : Method} {c : Code} {H : Heap} {locs : List Loc} {cells slots : Nat}
variable {y : MethodName} {bytes cc : ByteArray} {maxL nL mc ms n index : Nat} {ret : Option FieldType} {ws : List Cond} {rm : Room} {Pc : Array Value → State → Prop} {Qc : Array Value → State → Outcome → State → Prop} {XC : String → State → State → Prop} {free : Addr → Prop} {Ts : List Cond} {own C : String} {b : Addr} {As rest : List Value} {g : JFrame}
theorem vx_runI (S : CallFix p m c cc nL s args Ts own) (hM : vx_Met l y ws rm Pc Qc XC mc ms free) (cw : CallB R s args own index y bytes maxL none ws rm mc ms n ∧ y.name = "<init>" ∧ (Cond.instanceMethod y).before args s = true) (hp : PreS s H Pc (.ref b :: As))
    (hg : g.method = m) (hn : As.length = n) (hsize : g.locals.size = nL) (hstack : g.stack = As.reverse ++ .ref b :: rest) (hW : 2 * g.monitorRoom + (rest.map fun v => v.category).sum ≤ 8) (hdg : decode cc g.pc = .ok (.invokespecial index, 3)) (hf : cells + mc ≤ R.cells ∧ slots + ms ≤ R.slots) :
    vx_Run p l e R s m args below meth c H locs cells slots mc ms g rest (Qc (Value.ref b :: As).toArray) XC free := by
  have hK : vx_Back l R p e below s args y 3 8 (PreOf R mc ms Pc) (PostOf Qc mc ms free) (vx_Post XC mc ms free) := vx_callBack cw.1 hM hp.1
  obtain ⟨⟨-, -, -, -, -, -, hcode, -, hy, hlen, hl⟩, hy1, hin⟩ := cw
  obtain ⟨hx, hb, hml, ho, -⟩ := S
  have hPc := hp.2
  intro T hT X
  rcases vx_callI X hx (bytes := bytes) (maxL := maxL) ho hy1 hl hin hcode hy hK hg (hsize.trans hml.symm) (a := b) (argsL := As) (rest := rest) (fun sig h => hn.trans (hlen sig h)) hstack hW (by rw [hb]; exact hdg)
    (fun vm₁ hW₁ => ⟨hf.1, hf.2, hPc (T.setVm vm₁) hT hW₁⟩) with ⟨v, vm₁, ⟨U', l2, c2, s2⟩, hW₁, X', ⟨g', mk, t, L, e1, e2, hq, h1, hL, h2, h3⟩, st⟩ | ⟨q, vm₁, ⟨U', l2, c2, s2⟩, hW₁, X', ⟨g', mk, t, L, E, ce, e1, e2, hq, hce, hcv, hcl, h1, hL, h2, h3⟩, st⟩
  · dsimp only [Pt.U, Pt.locs, Pt.cells, Pt.slots] at X' e1 e2 h1 h2 h3 st
    subst h1; subst h2; subst h3
    exact Or.inl ⟨v, (T.setVm vm₁).calling g' mk (Value.ref b :: As).toArray, t, U', L, hT, X', hL, e1, e2, hq, st⟩
  · dsimp only [Pt.U, Pt.locs, Pt.cells, Pt.slots] at X' e1 e2 h1 h2 h3 st hcl
    subst h1; subst h2; subst h3
    exact Or.inr ⟨q, (T.setVm vm₁).calling g' mk (Value.ref b :: As).toArray, t, U', L, E, ce, hT, X', hL, e1, e2, hq, hce, hcv, vx_cls hW₁ hcl, st⟩
end VXIB
/-! ===== END ===== -/
/-! ===== BEGIN a private constructor of a nest mate that throws ===== -/
section VXIC
variable {p : Program} {l : Launch} {e : Env} {R : Room} {s : State} {m : MethodId} {args : Array Value} {below : List Frame} {meth : Method} {c : Code} {T : State} {locs : List Loc} {cells slots : Nat}
theorem vx_callIN (X : Stand p l e R s m args below meth c T locs cells slots) (hexec : p.tables.exec = Jvm.exec) {own : String} {index : Nat} {host : String} {y : MethodName} {bytes : ByteArray} {maxL : Nat}
    (hown : s.vm.findClass own = some m.cls) (hy1 : y.name = "<init>") (hlink : (Cond.methodLinkNest own index y host).before args s = true) (hinst : (Cond.instanceMethod y).before args s = true)
    (hcode : (Cond.code y bytes maxL none).before args s = true) (hy : y.cls ≠ "java/lang/invoke/MethodHandle" ∧ y.cls ≠ "java/lang/invoke/VarHandle")
    {W9 : Nat} {Pre : Pt → Array Value → Prop} {Post : Pt → Array Value → Option Value → Pt → Prop} {PostX : Pt → Array Value → Addr → Pt → Prop} (hK : vx_Back l R p e below s args y 3 W9 Pre Post PostX)
    {g : JFrame} (hg : g.method = m) (hsize : g.locals.size = c.maxLocals) {a : Addr} {argsL rest : List Value} (hlen : ∀ sig, parseMethodDescriptor y.desc = some sig → argsL.length = sig.parameters.length)
    (hstack : g.stack = argsL.reverse ++ .ref a :: rest) (hW : 2 * g.monitorRoom + (rest.map fun v => v.category).sum ≤ W9) (hdg : decode c.code g.pc = .ok (.invokespecial index, 3))
    (hpre : ∀ vm₁, s.WarmedH vm₁ → Pre ⟨T.setVm vm₁, locs, cells, slots⟩ (Value.ref a :: argsL).toArray) :
    (∃ (v : Option Value) (vm₁ : Vm) (B : Pt), s.WarmedH vm₁ ∧ Stand p l e R s m args below meth c B.U B.locs B.cells B.slots ∧ Post ⟨T.setVm vm₁, locs, cells, slots⟩ (Value.ref a :: argsL).toArray v B ∧
      ∀ target, Steps p.tables e below (B.U.setTop { g with pc := g.pc + 3, stack := v.toList ++ rest }) target → Steps p.tables e below (T.setTop g) target) ∨
    (∃ (q : Addr) (vm₁ : Vm) (B : Pt), s.WarmedH vm₁ ∧ Stand p l e R s m args below meth c B.U B.locs B.cells B.slots ∧ PostX ⟨T.setVm vm₁, locs, cells, slots⟩ (Value.ref a :: argsL).toArray q B ∧
      Steps p.tables e below (T.setTop g) ((B.U.setTop { g with stack := rest }).pushFrame (.throwing q))) := by
  subst hg
  have hpl : e.platform.magicAccessors = ({} : Platform).magicAccessors := by rw [X.admits.platform]
  obtain ⟨mk, methM, cM, kP, vm₁, hnamed, hmethM, hcodeM, -, hlocalsM, -, hkP, -, hW₁, hstep₁⟩ := Steps.initColdArgsNest (e := e) X.here hexec X.warmed hpl hown hy1 hy hlink hinst hcode (f := g) rfl hlen hstack hdg
  have X₁ := X.noted hW₁
  rcases hK g.method meth c ⟨T.setVm vm₁, locs, cells, slots⟩ { g with stack := rest } (.invokespecial index) mk (Value.ref a :: argsL).toArray X₁ rfl hsize hdg hW (X₁.named hnamed) (hpre vm₁ X₁.warmed) with ⟨v, B, X', hpost, hsteps⟩ | ⟨q, B, X', hpost, hsteps⟩
  · exact Or.inl ⟨v, vm₁, B, X₁.warmed, X', hpost, fun target h => hstep₁ _ fun acts => by rw [doInvoke_state]; exact hsteps.trans h⟩
  · exact Or.inr ⟨q, vm₁, B, X₁.warmed, X', hpost, hstep₁ _ fun acts => by rw [doInvoke_state]; exact hsteps⟩
end VXIC
section VXID
variable {p : Program} {l : Launch} {e : Env} {R : Room} {s : State} {m : MethodId} {args : Array Value} {below : List Frame} {meth : Method} {c : Code} {H : Heap} {locs : List Loc} {cells slots : Nat}
theorem vx_runIN {y : MethodName} {bytes cc : ByteArray} {maxL nL mc ms n index : Nat} {ws : List Cond} {rm : Room} {Pc : Array Value → State → Prop} {Qc : Array Value → State → Outcome → State → Prop} {XC : String → State → State → Prop} {free : Addr → Prop} {Ts : List Cond} {own host : String} {b : Addr} {As rest : List Value} {g : JFrame}
    (S : CallFix p m c cc nL s args Ts own) (hM : vx_Met l y ws rm Pc Qc XC mc ms free) (cw : va_CN R s args own index y host bytes maxL none ws rm mc ms n ∧ y.name = "<init>" ∧ (Cond.instanceMethod y).before args s = true) (hp : PreS s H Pc (.ref b :: As))
    (hg : g.method = m) (hn : As.length = n) (hsize : g.locals.size = nL) (hstack : g.stack = As.reverse ++ .ref b :: rest) (hW : 2 * g.monitorRoom + (rest.map fun v => v.category).sum ≤ 8) (hdg : decode cc g.pc = .ok (.invokespecial index, 3)) (hf : cells + mc ≤ R.cells ∧ slots + ms ≤ R.slots) :
    vx_Run p l e R s m args below meth c H locs cells slots mc ms g rest (Qc (Value.ref b :: As).toArray) XC free := by
  obtain ⟨⟨⟨hrc, hrs, hfr, hlo, hws, hcw⟩, hcode, hini, hy, hlen, hl⟩, hx1, hx2⟩ := cw
  have hK : vx_Back l R p e below s args y 3 8 (PreOf R mc ms Pc) (PostOf Qc mc ms free) (vx_Post XC mc ms free) := vx_back (bytes := bytes) (maxL := maxL) (ret := none) hM hp.1 hrc hrs hfr hlo hws hcw (fun a' U hW => word_at hW (Or.inl (by first | rfl | simp [Cond.onTables, Cond.keeps, Cond.steady])) hini)
  obtain ⟨hx, hb, hml, ho, -⟩ := S
  have hPc := hp.2
  intro T hT X
  rcases vx_callIN X hx (bytes := bytes) (maxL := maxL) ho hx1 hl hx2 hcode hy hK hg (hsize.trans hml.symm) (a := b) (argsL := As) (rest := rest) (fun sig h => hn.trans (hlen sig h)) hstack hW (by rw [hb]; exact hdg)
    (fun vm₁ hW₁ => ⟨hf.1, hf.2, hPc (T.setVm vm₁) hT hW₁⟩) with ⟨v, vm₁, ⟨U', l2, c2, s2⟩, hW₁, X', ⟨g', mk, t, L, e1, e2, hq, h1, hL, h2, h3⟩, st⟩ | ⟨q, vm₁, ⟨U', l2, c2, s2⟩, hW₁, X', ⟨g', mk, t, L, E, ce, e1, e2, hq, hce, hcv, hcl, h1, hL, h2, h3⟩, st⟩
  · dsimp only [Pt.U, Pt.locs, Pt.cells, Pt.slots] at X' e1 e2 h1 h2 h3 st
    subst h1; subst h2; subst h3
    exact Or.inl ⟨v, (T.setVm vm₁).calling g' mk (Value.ref b :: As).toArray, t, U', L, hT, X', hL, e1, e2, hq, st⟩
  · dsimp only [Pt.U, Pt.locs, Pt.cells, Pt.slots] at X' e1 e2 h1 h2 h3 st hcl
    subst h1; subst h2; subst h3
    exact Or.inr ⟨q, (T.setVm vm₁).calling g' mk (Value.ref b :: As).toArray, t, U', L, E, ce, hT, X', hL, e1, e2, hq, hce, hcv, vx_cls hW₁ hcl, st⟩
end VXID
end
section
/-! A world is a partial map of addresses to cells; every method of the claim uses the same words and the same two-way contract. -/
section HP
/-- the good words of the tables, one list for every method -/
def gW : List Cond := lw_tbl.filter goodWord
theorem gW_mem (i : Nat) {w : Cond} (h : lw_tbl[i]? = some w) (g : goodWord w = true) : w ∈ gW := List.mem_filter.mpr ⟨List.mem_of_getElem? h, g⟩
theorem gW_all {ws : List Cond} (ps : List Nat) (h : ws = ps.filterMap (fun i => lw_tbl[i]?)) (g : ws.all goodWord = true) : ∀ w ∈ ws, w ∈ gW := by
  intro w hw
  have h1 := List.all_eq_true.mp g w hw
  rw [h] at hw
  obtain ⟨i, -, hi⟩ := List.mem_filterMap.mp hw
  exact gW_mem i hi h1
theorem gW_pay {args : Array Value} {s : State} (hts : ∀ w ∈ gW, w.before args s = true) {hd : Cond} (hhd : hd ∈ gW) : ∀ w ∈ hd :: gW, ∀ (a' : Array Value) (U : State), s.WarmedH U.vm → w.before a' U = true := by
  intro w hw a' U hW
  have hw' : w ∈ gW := by
    rcases List.mem_cons.mp hw with h | h
    · rw [h]; exact hhd
    · exact h
  exact word_at hW (good_of_word (List.mem_filter.mp hw').2) (hts w hw')
/-- the other words -/
def hOw (w : Cond) : Bool := match w with
  | .castable _ _ => true
  | .declares _ => true
  | .fieldLinkNest _ _ _ _ _ _ => true
  | .methodLinkNest _ _ _ _ => true
  | _ => false
theorem hOw_warm {w : Cond} (hm : hOw w = true) {s U : State} (hW : s.WarmedH U.vm) (h : va_Nw w s) : va_Nw w U := by
  cases w <;> first | exact va_Nw.warmC hW h | exact va_Nw.warmD hW h | exact va_Nw.warmF hW h | exact va_Nw.warmM hW h | simp [hOw] at hm
theorem hOw_tabs {w : Cond} (hm : hOw w = true) : w.onTables = true := by
  cases w <;> first | rfl | simp [hOw] at hm
def hOt : List Cond := lw_tbl.filter hOw
def hStr : List (String × Nat × String) := lw_tbl.filterMap (fun w => match w with | .stringRef a k t => some (a, k, t) | _ => none)
abbrev hC : List vw_C := [(RX0, TX0, 9), (RX1, TX1, 11), (RX2, TX2, 5), (RX3, TX3, 3), (RX4, TX4, 3), (RX5, TX5, 27)]
def eI : String := "java/lang/IndexOutOfBoundsException"
def eA : String := "java/lang/IllegalArgumentException"
def eS : String := "java/lang/IllegalStateException"
def hNcs : List (String × String) := [(eI, eA), (eI, eS), (eA, eI), (eA, eS), (eS, eI), (eS, eA)]
abbrev hG : Type := va_G × (ClassId × ClassId × ClassId) × Nat
abbrev cI (G : hG) : ClassId := G.2.1.1
abbrev cZ (G : hG) : ClassId := G.2.1.2.1
abbrev cJ (G : hG) : ClassId := G.2.1.2.2
abbrev hTy (G : hG) : List (ClassId × FieldType) := [(cI G, .int), (cZ G, .boolean), (cJ G, .long)]
def hFr (G : hG) : Nat → Prop := fun q => G.2.2 ≤ q
/-- what the tables, the statics and the strings are, at a method's start -/
def hK (G : hG) (U : State) : Prop :=
  va_K G.1 hC (hTy G) U ∧ vx_Zq Bundle.tN "UNASSIGNED_STACK" Bundle.steD (hFr G) U U.heap ∧ vx_Zq Bundle.tN "SUPPRESSED_SENTINEL" Bundle.listD (hFr G) U U.heap ∧
  (∀ w ∈ hOt, va_Nw w U) ∧ (∀ q ∈ hStr, ∃ sa : Nat, vk_R q.1 q.2.1 q.2.2 sa U) ∧ (∀ q ∈ hNcs, va_Nc q.1 q.2 U) ∧ G.2.2 ≤ U.heap.size
theorem hK.warm {G : hG} {s U : State} (h : hK G s) (hW : s.WarmedH U.vm) (hz : s.heap.size ≤ U.heap.size) (hq : ∀ a : Nat, a < s.heap.size → ¬ hFr G a → U.heap[a]? = s.heap[a]?) : hK G U :=
  ⟨va_K.moved hW.alike h.1, vx_Zq.moved hW.alike (h.2.1.kept hq), vx_Zq.moved hW.alike (h.2.2.1.kept hq), fun w hw => hOw_warm (List.mem_filter.mp hw).2 hW (h.2.2.2.1 w hw),
    fun q hq => by obtain ⟨sa, h9⟩ := h.2.2.2.2.1 q hq; exact ⟨sa, vk_R.warm hW h9⟩, fun q hq => va_Nc.moved hW.alike (h.2.2.2.2.2.1 q hq), Nat.le_trans h.2.2.2.2.2.2 hz⟩
abbrev hM : Type := Nat → Option va_E
/-- the heap holds the map's cells -/
def hW (G : hG) (f : hM) (H : Heap) : Prop := ∃ (L : List Nat) (g : Nat → va_E), (∀ a e, f a = some e → a ∈ L ∧ g a = e) ∧ va_P G.1 hC (va_pl L g) H ∧ va_D (hFr G) (va_pl L g)
/-- the cells of the map outside S stay -/
def hKeep (S : List Nat) (f f1 : hM) : Prop := ∀ a e, f a = some e → a ∉ S → f1 a = some e
theorem hKeep.rf {S : List Nat} {f : hM} : hKeep S f f := fun _ _ h _ => h
theorem hKeep.tr {S : List Nat} {f f1 f2 : hM} (h : hKeep S f f1) (h2 : hKeep S f1 f2) : hKeep S f f2 := fun a e q n => h2 a e (h a e q n) n
theorem hKeep.mono {S T : List Nat} {f f1 : hM} (h : hKeep S f f1) (hs : ∀ a, a ∈ S → a ∈ T) : hKeep T f f1 := fun a e q n => h a e q (fun z => n (hs a z))
theorem hKeep.up {S : List Nat} {f : hM} {a : Nat} {e : Option va_E} (h : a ∈ S) : hKeep S f (va_up f a e) := fun b x q n => by rw [va_up_ne _ _ (fun z => n (by rw [z]; exact h))]; exact q
theorem hKeep.new {S : List Nat} {f : hM} {a : Nat} {e : Option va_E} (h : f a = none) : hKeep S f (va_up f a e) := fun b x q _ => by
  rw [va_up_ne _ _ (fun z => by rw [z, h] at q; cases q)]; exact q
def hTag (e : va_E) : Nat := match e with
  | .inl _ => 0
  | .inr o => o.1 + 1
theorem hne {f : hM} {a b : Nat} {x y : va_E} (ha : f a = some x) (hb : f b = some y) (h : hTag x ≠ hTag y) : a ≠ b := fun e => by
  rw [e, hb] at ha
  cases ha
  exact h rfl
theorem hnew {f : hM} {a q : Nat} {x : va_E} (ha : f a = some x) (hq : f q = none) : a ≠ q := fun e => by
  rw [e, hq] at ha
  cases ha
theorem nin0 {a : Nat} : a ∉ ([] : List Nat) := List.not_mem_nil
theorem ninc {a b : Nat} {l : List Nat} (h : a ≠ b) (t : a ∉ l) : a ∉ b :: l := fun z => (List.mem_cons.mp z).elim h t
/-! what a method owes -/
def hPre (G : hG) (av : List Value) (f : hM) : Array Value → State → Prop := va_Pc av (fun U => hK G U ∧ hW G f U.heap)
def hQ (G : hG) (P : Option Value → hM → Prop) : Array Value → State → Outcome → State → Prop := fun _ st oc t => (∃ (v : Option Value) (f1 : hM), oc = .returned v ∧ P v f1 ∧ hW G f1 t.heap) ∧ va_F (hFr G) st t
def hX (G : hG) (PX : String → hM → Prop) : String → State → State → Prop := fun E st t => (∃ f1 : hM, PX E f1 ∧ hW G f1 t.heap) ∧ va_F (hFr G) st t
theorem hPre.blind {G : hG} {av : List Value} {f : hM} : FrameBlind (hPre G av f) := fun _ U g mk h => ⟨h.1, hK.warm (U := U.calling g mk _) h.2.1 (State.WarmedH.refl U) (Nat.le_refl _) (fun _ _ _ => rfl), h.2.2⟩
def CT (l : Launch) (y : MethodName) (hd : Cond) (fr lo mc ms : Nat) (G : hG) (av : List Value) (f : hM) (P : Option Value → hM → Prop) (PX : String → hM → Prop) : Prop :=
  vx_Met l y (hd :: gW) { frames := fr, cells := mc, slots := ms, locals := lo } (hPre G av f) (hQ G P) (hX G PX) mc ms (hFr G)
def hB (p : Program) (l : Launch) (s : State) (m : MethodId) (args : Array Value) (meth : Method) (c : Code) (cc : ByteArray) (nL : Nat) (own : String) (G : hG) : Prop :=
  p.tables.exec = Jvm.exec ∧ c.code = cc ∧ c.maxLocals = nL ∧ s.vm.findClass own = some m.cls ∧ (∀ w ∈ gW, w.before args s = true) ∧ meth.locks = false ∧ hK G s ∧ l.stackTraces = false
theorem hp_start {l : Launch} (hl : l.stackTraces = false) {own : String} {y : MethodName} {cc : ByteArray} {maxL : Nat} {ret : Option FieldType} {fr lo mc ms : Nat} {G : hG} {av : List Value} {f : hM} {P : Option Value → hM → Prop} {PX : String → hM → Prop}
    (hy : plainName y.cls = true) (ho : y.cls = own) (hlen : (lg_sl av).length ≤ maxL)
    (body : ∀ (p : Program) (e : Env) (s : State) (m : MethodId) (args : Array Value) (below : List Frame) (meth : Method) (c : Code), hB p l s m args meth c cc maxL own G → meth.sig.returnType = ret → meth.name = y.name → (∀ x ∈ c.exceptionTable.toList, False) →
      hW G f s.heap → va_S (hFr G) s.heap s.heap [] → ∀ ls : Array Slot, lv_has ls maxL (lv_args 0 av) → W p l e { frames := fr, cells := mc, slots := ms, locals := lo } s m args below meth c s.heap [] 0 0 (vx_MQ below (hQ G P) (hX G PX) args s mc ms (hFr G)) (F0 m 0 ls [])) :
    CT l y (.code y cc maxL ret) fr lo mc ms G av f P PX := by
  refine vx_ofW (cc := cc) (maxL := maxL) (ret := ret) hy rfl ?_
  intro p e s m args below meth c s₁ B hml hout hv
  obtain ⟨rfl, hk, hw⟩ := hv
  have hts := atoms_spec (ws := (Cond.code y cc maxL ret) :: gW) B.pre
  have hown : s.vm.findClass own = some m.cls := by rw [← ho]; exact findClass_of_methodNamed B.named
  have hl2 := lv_entry av (n := maxL) hlen
  rw [lg_entry_eq]
  exact body p e s m _ below meth c ⟨B.exec, B.bytes, hml, hown, fun w h => hts w (List.mem_cons_of_mem _ h), B.notSynchronized, hk, hl⟩ B.returns (name_of_methodNamed B.named B.method).1 hout hw va_S.rf _ hl2
/-- the start of a method with handlers -/
theorem hp_startH {l : Launch} (hl : l.stackTraces = false) {own : String} {y : MethodName} {cc : ByteArray} {maxL : Nat} {ret : Option FieldType} {hh : List (Nat × Nat × Nat × Nat)} {fr lo mc ms : Nat} {G : hG} {av : List Value} {f : hM} {P : Option Value → hM → Prop} {PX : String → hM → Prop}
    (hy : plainName y.cls = true) (ho : y.cls = own) (hlen : (lg_sl av).length ≤ maxL)
    (body : ∀ (p : Program) (e : Env) (s : State) (m : MethodId) (args : Array Value) (below : List Frame) (meth : Method) (c : Code), hB p l s m args meth c cc maxL own G → meth.sig.returnType = ret → c.exceptionTable.toList = tableOf hh →
      hW G f s.heap → va_S (hFr G) s.heap s.heap [] → ∀ ls : Array Slot, lv_has ls maxL (lv_args 0 av) → W p l e { frames := fr, cells := mc, slots := ms, locals := lo } s m args below meth c s.heap [] 0 0 (vx_MQ below (hQ G P) (hX G PX) args s mc ms (hFr G)) (F0 m 0 ls [])) :
    CT l y (.codeWith y cc maxL ret hh) fr lo mc ms G av f P PX := by
  refine vx_ofWH (cc := cc) (maxL := maxL) (ret := ret) (hh := hh) hy rfl ?_
  intro p e s m args below meth c s₁ B hml hv
  obtain ⟨rfl, hk, hw⟩ := hv
  have hts := atoms_spec (ws := (Cond.codeWith y cc maxL ret hh) :: gW) B.pre
  have hown : s.vm.findClass own = some m.cls := by rw [← ho]; exact findClass_of_methodNamed B.named
  have hl2 := lv_entry av (n := maxL) hlen
  rw [lg_entry_eq]
  exact body p e s m _ below meth c ⟨B.exec, B.bytes, hml, hown, fun w h => hts w (List.mem_cons_of_mem _ h), B.notSynchronized, hk, hl⟩ B.returns (vx_table (x := y) B (hts _ List.mem_cons_self)) hw va_S.rf _ hl2
section Rows9
variable {p : Program} {l : Launch} {e : Env} {R : Room} {s : State} {m : MethodId} {args : Array Value} {below : List Frame} {meth : Method} {c : Code} {H : Heap} {locs : List Loc} {cells slots : Nat} {Q : State → Prop}
variable {cc : ByteArray} {nL pc : Nat} {own : String} {G : hG} {f : hM} {ls : Array Slot} {rest : List Value} {a : Nat}
theorem hp_get (B0 : hB p l s m args meth c cc nL own G) (hw : hW G f H) (ci : Nat) {C : String} {T : u_T} {N : Nat} (hc : hC[ci]? = some (C, T, N)) (hin : ∀ w ∈ u_ws C T N, w ∈ gW) {fs : List Value} (ha : f a = some (.inr (ci, fs))) (k : Nat) (hk : k < N) {index : Nat} (hlink : Cond.fieldLink own index (T k).1 (T k).2.1 (T k).2.2.1 ∈ gW) {v : Value} (hv : fs[k]? = some v) (hdg : decode cc pc = .ok (.getfield index, 3))
    (kk : W p l e R s m args below meth c H locs cells slots Q (F0 m (pc + 3) ls (v :: rest))) : W p l e R s m args below meth c H locs cells slots Q (F0 m pc ls (.ref a :: rest)) := by
  obtain ⟨hx, hb, hml, hown, hts, hlk, hk0, hl⟩ := B0
  obtain ⟨L, g, hf, hP, hD⟩ := hw
  obtain ⟨hL, hg⟩ := hf a _ ha
  obtain ⟨i, hi⟩ := va_pl_get (X := []) (f := g) hL
  rw [hg] at hi
  exact va_get (D := G.1) (cl := hC) (tys := hTy G) hx hb hts hin hown hk0.1 hP i hi hc k hk (hts _ hlink) (fun _ h9 => h9) hv hdg kk
theorem hp_getN (B0 : hB p l s m args meth c cc nL own G) (hw : hW G f H) (ci : Nat) {C : String} {T : u_T} {N : Nat} (hc : hC[ci]? = some (C, T, N)) (hin : ∀ w ∈ u_ws C T N, w ∈ gW) {fs : List Value} (ha : f a = some (.inr (ci, fs))) (k : Nat) (hk : k < N) {index : Nat} {host : String} (hlink : Cond.fieldLinkNest own index (T k).1 (T k).2.1 (T k).2.2.1 host ∈ hOt) {v : Value} (hv : fs[k]? = some v) (hdg : decode cc pc = .ok (.getfield index, 3))
    (kk : W p l e R s m args below meth c H locs cells slots Q (F0 m (pc + 3) ls (v :: rest))) : W p l e R s m args below meth c H locs cells slots Q (F0 m pc ls (.ref a :: rest)) := by
  obtain ⟨hx, hb, hml, hown, hts, hlk, hk0, hl⟩ := B0
  obtain ⟨L, g, hf, hP, hD⟩ := hw
  obtain ⟨hL, hg⟩ := hf a _ ha
  obtain ⟨i, hi⟩ := va_pl_get (X := []) (f := g) hL
  rw [hg] at hi
  exact va_getN (D := G.1) (cl := hC) (tys := hTy G) hx hb hts hin hown hk0.1 hP i hi hc k hk (va_Nw.use rfl (hk0.2.2.2.1 _ hlink)) (fun _ h9 => h9) hv hdg kk
theorem hW.set {e0 e1 : va_E} {L : List Nat} {g : Nat → va_E} {H1 : Heap} {i : Nat} (hf : ∀ a e, f a = some e → a ∈ L ∧ g a = e) (hD : va_D (hFr G) ([] ++ va_pl L g)) (hL : a ∈ L) (hi : ([] ++ va_pl L g)[i]? = some (a, g a)) (hP1 : va_P G.1 hC (([] ++ va_pl L g).set i (a, e1)) H1) (hD1 : va_D (hFr G) (([] ++ va_pl L g).set i (a, e1))) : hW G (va_up f a (some e1)) H1 := by
  rw [va_pl_set hD hL hi] at hP1 hD1
  refine ⟨L, va_up g a e1, fun b x hb => ?_, hP1, hD1⟩
  by_cases hba : b = a
  · rw [hba, va_up_self] at hb
    cases hb
    rw [hba, va_up_self]
    exact ⟨hL, rfl⟩
  · rw [va_up_ne _ _ hba] at hb
    rw [va_up_ne _ _ hba]
    exact hf b x hb
theorem hp_put (B0 : hB p l s m args meth c cc nL own G) (hw : hW G f H) (hS : va_S (hFr G) s.heap H locs) (ci : Nat) {C : String} {T : u_T} {N : Nat} (hc : hC[ci]? = some (C, T, N)) (hin : ∀ w ∈ u_ws C T N, w ∈ gW) (ty0 : Nat → FieldType) (hty : ∀ k, k < N → parseFieldDescriptor (T k).2.2.1 = some (ty0 k)) (hnm : ∀ a, a < N → ∀ b, b < N → a ≠ b → (T a).2.1 ≠ (T b).2.1) {fs fs1 : List Value} (ha : f a = some (.inr (ci, fs))) (k : Nat) (hk : k < N) {index : Nat} (hlink : Cond.fieldLink own index (T k).1 (T k).2.1 (T k).2.2.1 ∈ gW) (hfin : (T k).2.2.2 = false) {ty : FieldType} {v : Value} (hd : parseFieldDescriptor (T k).2.2.1 = some ty) (hn : narrow ty v = v) (hfit : fits ty v = true) (hl : k < fs.length) (hfs : fs.set k v = fs1) (hdg : decode cc pc = .ok (.putfield index, 3))
    (kk : ∀ (H1 : Heap) (locs1 : List Loc) (f1 : hM), f1 = va_up f a (some (.inr (ci, fs1))) → hW G f1 H1 → va_S (hFr G) s.heap H1 locs1 → W p l e R s m args below meth c H1 locs1 cells slots Q (F0 m (pc + 3) ls rest)) : W p l e R s m args below meth c H locs cells slots Q (F0 m pc ls (v :: .ref a :: rest)) := by
  obtain ⟨hx, hb, hml, hown, hts, hlk, hk0, hl9⟩ := B0
  obtain ⟨L, g, hf, hP, hD⟩ := hw
  obtain ⟨hL, hg⟩ := hf a _ ha
  obtain ⟨i, hi0⟩ := va_pl_get (X := []) (f := g) hL
  have hi := hi0
  rw [hg] at hi
  subst hfs
  exact va_put (D := G.1) (cl := hC) (tys := hTy G) hx hb hts hin ty0 hty hnm hown hk0.1 hP hD hS i hi hc k hk (hts _ hlink) (fun _ h9 => h9) hfin hd hn hfit hl hdg (fun H1 locs1 hP1 hD1 hS1 => kk H1 locs1 _ rfl (hW.set (e0 := .inr (ci, fs)) hf hD hL hi0 hP1 hD1) hS1)
theorem hp_putF (B0 : hB p l s m args meth c cc nL own G) (hw : hW G f H) (hS : va_S (hFr G) s.heap H locs) (ci : Nat) {C : String} {T : u_T} {N : Nat} (hc : hC[ci]? = some (C, T, N)) (hin : ∀ w ∈ u_ws C T N, w ∈ gW) (ty0 : Nat → FieldType) (hty : ∀ k, k < N → parseFieldDescriptor (T k).2.2.1 = some (ty0 k)) (hnm : ∀ a, a < N → ∀ b, b < N → a ≠ b → (T a).2.1 ≠ (T b).2.1) {fs fs1 : List Value} (ha : f a = some (.inr (ci, fs))) (k : Nat) (hk : k < N) {index : Nat} (hlink : Cond.fieldLink own index (T k).1 (T k).2.1 (T k).2.2.1 ∈ gW) (hfin : (T k).2.2.2 = true) (hin2 : meth.name = "<init>") (hdecl : (T k).1 = own) {ty : FieldType} {v : Value} (hd : parseFieldDescriptor (T k).2.2.1 = some ty) (hn : narrow ty v = v) (hfit : fits ty v = true) (hl : k < fs.length) (hfs : fs.set k v = fs1) (hdg : decode cc pc = .ok (.putfield index, 3))
    (kk : ∀ (H1 : Heap) (locs1 : List Loc) (f1 : hM), f1 = va_up f a (some (.inr (ci, fs1))) → hW G f1 H1 → va_S (hFr G) s.heap H1 locs1 → W p l e R s m args below meth c H1 locs1 cells slots Q (F0 m (pc + 3) ls rest)) : W p l e R s m args below meth c H locs cells slots Q (F0 m pc ls (v :: .ref a :: rest)) := by
  obtain ⟨hx, hb, hml, hown, hts, hlk, hk0, hl9⟩ := B0
  obtain ⟨L, g, hf, hP, hD⟩ := hw
  obtain ⟨hL, hg⟩ := hf a _ ha
  obtain ⟨i, hi0⟩ := va_pl_get (X := []) (f := g) hL
  have hi := hi0
  rw [hg] at hi
  subst hfs
  exact va_putF (D := G.1) (cl := hC) (tys := hTy G) hx hb hts hin ty0 hty hnm hown hk0.1 hP hD hS i hi hc k hk (hts _ hlink) (fun _ h9 => h9) hfin hin2 hdecl hd hn hfit hl hdg (fun H1 locs1 hP1 hD1 hS1 => kk H1 locs1 _ rfl (hW.set (e0 := .inr (ci, fs)) hf hD hL hi0 hP1 hD1) hS1)
theorem hp_putN (B0 : hB p l s m args meth c cc nL own G) (hw : hW G f H) (hS : va_S (hFr G) s.heap H locs) (ci : Nat) {C : String} {T : u_T} {N : Nat} (hc : hC[ci]? = some (C, T, N)) (hin : ∀ w ∈ u_ws C T N, w ∈ gW) (ty0 : Nat → FieldType) (hty : ∀ k, k < N → parseFieldDescriptor (T k).2.2.1 = some (ty0 k)) (hnm : ∀ a, a < N → ∀ b, b < N → a ≠ b → (T a).2.1 ≠ (T b).2.1) {fs fs1 : List Value} (ha : f a = some (.inr (ci, fs))) (k : Nat) (hk : k < N) {index : Nat} {host : String} (hlink : Cond.fieldLinkNest own index (T k).1 (T k).2.1 (T k).2.2.1 host ∈ hOt) (hfin : (T k).2.2.2 = false) {ty : FieldType} {v : Value} (hd : parseFieldDescriptor (T k).2.2.1 = some ty) (hn : narrow ty v = v) (hfit : fits ty v = true) (hl : k < fs.length) (hfs : fs.set k v = fs1) (hdg : decode cc pc = .ok (.putfield index, 3))
    (kk : ∀ (H1 : Heap) (locs1 : List Loc) (f1 : hM), f1 = va_up f a (some (.inr (ci, fs1))) → hW G f1 H1 → va_S (hFr G) s.heap H1 locs1 → W p l e R s m args below meth c H1 locs1 cells slots Q (F0 m (pc + 3) ls rest)) : W p l e R s m args below meth c H locs cells slots Q (F0 m pc ls (v :: .ref a :: rest)) := by
  obtain ⟨hx, hb, hml, hown, hts, hlk, hk0, hl9⟩ := B0
  obtain ⟨L, g, hf, hP, hD⟩ := hw
  obtain ⟨hL, hg⟩ := hf a _ ha
  obtain ⟨i, hi0⟩ := va_pl_get (X := []) (f := g) hL
  have hi := hi0
  rw [hg] at hi
  subst hfs
  exact va_putN (D := G.1) (cl := hC) (tys := hTy G) hx hb hts hin ty0 hty hnm hown hk0.1 hP hD hS i hi hc k hk (va_Nw.use rfl (hk0.2.2.2.1 _ hlink)) (fun _ h9 => h9) hfin hd hn hfit hl hdg (fun H1 locs1 hP1 hD1 hS1 => kk H1 locs1 _ rfl (hW.set (e0 := .inr (ci, fs)) hf hD hL hi0 hP1 hD1) hS1)
theorem hp_iald (B0 : hB p l s m args meth c cc nL own G) (hw : hW G f H) {n : Nat} {x : Nat → Int32} (ha : f a = some (.inl (cI G, n, .inl x))) {i : Int32} (hin : vp_in i n) (hdg : decode cc pc = .ok (.iaload, 1))
    (kk : W p l e R s m args below meth c H locs cells slots Q (F0 m (pc + 1) ls (.int (x i.toNatClampNeg) :: rest))) : W p l e R s m args below meth c H locs cells slots Q (F0 m pc ls (.int i :: .ref a :: rest)) := by
  obtain ⟨hx, hb, hml, hown, hts, hlk, hk0, hl⟩ := B0
  obtain ⟨L, g, hf, hP, hD⟩ := hw
  obtain ⟨hL, hg⟩ := hf a _ ha
  obtain ⟨j, hj⟩ := va_pl_get (X := []) (f := g) hL
  rw [hg] at hj
  exact va_iald (D := G.1) (cl := hC) (tys := hTy G) hx hb hk0.1 hP j 0 hj rfl hin hdg kk
theorem hp_zald (B0 : hB p l s m args meth c cc nL own G) (hw : hW G f H) {n : Nat} {x : Nat → Int32} (ha : f a = some (.inl (cZ G, n, .inl x))) {i : Int32} (hin : vp_in i n) (hdg : decode cc pc = .ok (.baload, 1))
    (kk : W p l e R s m args below meth c H locs cells slots Q (F0 m (pc + 1) ls (.int (x i.toNatClampNeg) :: rest))) : W p l e R s m args below meth c H locs cells slots Q (F0 m pc ls (.int i :: .ref a :: rest)) := by
  obtain ⟨hx, hb, hml, hown, hts, hlk, hk0, hl⟩ := B0
  obtain ⟨L, g, hf, hP, hD⟩ := hw
  obtain ⟨hL, hg⟩ := hf a _ ha
  obtain ⟨j, hj⟩ := va_pl_get (X := []) (f := g) hL
  rw [hg] at hj
  exact va_zald (D := G.1) (cl := hC) (tys := hTy G) hx hb hk0.1 hP j 1 hj rfl hin hdg kk
theorem hp_lald (B0 : hB p l s m args meth c cc nL own G) (hw : hW G f H) {n : Nat} {x : Nat → Int64} (ha : f a = some (.inl (cJ G, n, .inr (.inl x)))) {i : Int32} (hin : vp_in i n) (hdg : decode cc pc = .ok (.laload, 1))
    (kk : W p l e R s m args below meth c H locs cells slots Q (F0 m (pc + 1) ls (.long (x i.toNatClampNeg) :: rest))) : W p l e R s m args below meth c H locs cells slots Q (F0 m pc ls (.int i :: .ref a :: rest)) := by
  obtain ⟨hx, hb, hml, hown, hts, hlk, hk0, hl⟩ := B0
  obtain ⟨L, g, hf, hP, hD⟩ := hw
  obtain ⟨hL, hg⟩ := hf a _ ha
  obtain ⟨j, hj⟩ := va_pl_get (X := []) (f := g) hL
  rw [hg] at hj
  exact va_lald (D := G.1) (cl := hC) (tys := hTy G) hx hb hk0.1 hP j 2 hj rfl hin hdg kk
theorem hp_iast (B0 : hB p l s m args meth c cc nL own G) (hw : hW G f H) (hS : va_S (hFr G) s.heap H locs) {n : Nat} {x : Nat → Int32} (ha : f a = some (.inl (cI G, n, .inl x))) {i v : Int32} (hin : vp_in i n) (hdg : decode cc pc = .ok (.iastore, 1))
    (kk : ∀ (H1 : Heap) (locs1 : List Loc) (f1 : hM), f1 = va_up f a (some (.inl (cI G, n, .inl (upd x i.toNatClampNeg v)))) → hW G f1 H1 → va_S (hFr G) s.heap H1 locs1 → W p l e R s m args below meth c H1 locs1 cells slots Q (F0 m (pc + 1) ls rest)) : W p l e R s m args below meth c H locs cells slots Q (F0 m pc ls (.int v :: .int i :: .ref a :: rest)) := by
  obtain ⟨hx, hb, hml, hown, hts, hlk, hk0, hl9⟩ := B0
  obtain ⟨L, g, hf, hP, hD⟩ := hw
  obtain ⟨hL, hg⟩ := hf a _ ha
  obtain ⟨j, hj0⟩ := va_pl_get (X := []) (f := g) hL
  have hj := hj0
  rw [hg] at hj
  exact va_iast (D := G.1) (cl := hC) (tys := hTy G) hx hb hk0.1 hP hD hS j 0 hj rfl hin hdg (fun H1 locs1 hP1 hD1 hS1 => kk H1 locs1 _ rfl (hW.set (e0 := .inl (cI G, n, .inl x)) hf hD hL hj0 hP1 hD1) hS1)
theorem hp_zast (B0 : hB p l s m args meth c cc nL own G) (hw : hW G f H) (hS : va_S (hFr G) s.heap H locs) {n : Nat} {x : Nat → Int32} (ha : f a = some (.inl (cZ G, n, .inl x))) {i v : Int32} (hin : vp_in i n) (hdg : decode cc pc = .ok (.bastore, 1))
    (kk : ∀ (H1 : Heap) (locs1 : List Loc) (f1 : hM), f1 = va_up f a (some (.inl (cZ G, n, .inl (upd x i.toNatClampNeg (vp_nar .boolean v))))) → hW G f1 H1 → va_S (hFr G) s.heap H1 locs1 → W p l e R s m args below meth c H1 locs1 cells slots Q (F0 m (pc + 1) ls rest)) : W p l e R s m args below meth c H locs cells slots Q (F0 m pc ls (.int v :: .int i :: .ref a :: rest)) := by
  obtain ⟨hx, hb, hml, hown, hts, hlk, hk0, hl9⟩ := B0
  obtain ⟨L, g, hf, hP, hD⟩ := hw
  obtain ⟨hL, hg⟩ := hf a _ ha
  obtain ⟨j, hj0⟩ := va_pl_get (X := []) (f := g) hL
  have hj := hj0
  rw [hg] at hj
  exact va_zast (D := G.1) (cl := hC) (tys := hTy G) hx hb hk0.1 hP hD hS j 1 hj rfl hin hdg (fun H1 locs1 hP1 hD1 hS1 => kk H1 locs1 _ rfl (hW.set (e0 := .inl (cZ G, n, .inl x)) hf hD hL hj0 hP1 hD1) hS1)
theorem hp_last (B0 : hB p l s m args meth c cc nL own G) (hw : hW G f H) (hS : va_S (hFr G) s.heap H locs) {n : Nat} {x : Nat → Int64} (ha : f a = some (.inl (cJ G, n, .inr (.inl x)))) {i : Int32} {v : Int64} (hin : vp_in i n) (hdg : decode cc pc = .ok (.lastore, 1))
    (kk : ∀ (H1 : Heap) (locs1 : List Loc) (f1 : hM), f1 = va_up f a (some (.inl (cJ G, n, .inr (.inl (vp_updL x i.toNatClampNeg v))))) → hW G f1 H1 → va_S (hFr G) s.heap H1 locs1 → W p l e R s m args below meth c H1 locs1 cells slots Q (F0 m (pc + 1) ls rest)) : W p l e R s m args below meth c H locs cells slots Q (F0 m pc ls (.long v :: .int i :: .ref a :: rest)) := by
  obtain ⟨hx, hb, hml, hown, hts, hlk, hk0, hl9⟩ := B0
  obtain ⟨L, g, hf, hP, hD⟩ := hw
  obtain ⟨hL, hg⟩ := hf a _ ha
  obtain ⟨j, hj0⟩ := va_pl_get (X := []) (f := g) hL
  have hj := hj0
  rw [hg] at hj
  exact va_last (D := G.1) (cl := hC) (tys := hTy G) hx hb hk0.1 hP hD hS j 2 hj rfl hin hdg (fun H1 locs1 hP1 hD1 hS1 => kk H1 locs1 _ rfl (hW.set (e0 := .inl (cJ G, n, .inr (.inl x))) hf hD hL hj0 hP1 hD1) hS1)
end Rows9
end HP
end
section
/-! Making cells, calls, ends, throws, handlers. -/
section HQ9
variable {p : Program} {l : Launch} {e : Env} {R : Room} {s : State} {m : MethodId} {args : Array Value} {below : List Frame} {meth : Method} {c : Code} {H : Heap} {locs : List Loc} {cells slots : Nat} {Q : State → Prop}
variable {cc : ByteArray} {nL pc : Nat} {own : String} {G : hG} {f : hM} {ls : Array Slot} {rest : List Value} {a : Nat}
theorem hB.le (B0 : hB p l s m args meth c cc nL own G) : ∀ q : Nat, s.heap.size ≤ q → hFr G q := fun _ h => Nat.le_trans B0.2.2.2.2.2.2.1.2.2.2.2.2.2 h
theorem hpush_nin {L : List Nat} {g : Nat → va_E} {q : Nat} {e1 : va_E} {A : Nat → Prop} (hD1 : va_D A (([] ++ va_pl L g) ++ [(q, e1)])) : q ∉ L := fun hq => by
  obtain ⟨k, hk⟩ := va_pl_get (X := []) (f := g) hq
  have hl := (List.getElem?_eq_some_iff.mp hk).1
  have h1 : (([] ++ va_pl L g) ++ [(q, e1)])[k]? = some (q, g q) := by rw [List.getElem?_append_left hl]; exact hk
  have h2 : (([] ++ va_pl L g) ++ [(q, e1)])[([] ++ va_pl L g).length]? = some (q, e1) := by rw [List.getElem?_append_right (Nat.le_refl _), Nat.sub_self]; rfl
  have := hD1.1 _ _ _ _ h1 h2 rfl
  omega
theorem hW.push {L : List Nat} {g : Nat → va_E} {q : Nat} {e1 : va_E} {H1 : Heap} (hf : ∀ a e, f a = some e → a ∈ L ∧ g a = e) (hP1 : va_P G.1 hC (([] ++ va_pl L g) ++ [(q, e1)]) H1) (hD1 : va_D (hFr G) (([] ++ va_pl L g) ++ [(q, e1)])) : f q = none ∧ hW G (va_up f q (some e1)) H1 := by
  have hq : q ∉ L := hpush_nin hD1
  have e9 : (([] ++ va_pl L g) ++ [(q, e1)]) = va_pl (L ++ [q]) (va_up g q e1) := by rw [List.nil_append]; exact va_pl_push hq
  have h0 : f q = none := by
    cases h : f q with
    | none => rfl
    | some x => exact absurd (hf q x h).1 hq
  rw [e9] at hP1 hD1
  refine ⟨h0, L ++ [q], va_up g q e1, fun b x hb => ?_, hP1, hD1⟩
  by_cases hba : b = q
  · rw [hba, va_up_self] at hb
    cases hb
    rw [hba, va_up_self]
    exact ⟨List.mem_append_right _ List.mem_cons_self, rfl⟩
  · rw [va_up_ne _ _ hba] at hb
    rw [va_up_ne _ _ hba]
    obtain ⟨h1, h2⟩ := hf b x hb
    exact ⟨List.mem_append_left _ h1, h2⟩
theorem hp_new (B0 : hB p l s m args meth c cc nL own G) (hw : hW G f H) (hS : va_S (hFr G) s.heap H locs) (ci : Nat) {C : String} {T : u_T} {N : Nat} (hc : hC[ci]? = some (C, T, N)) (hin : ∀ w ∈ u_ws C T N, w ∈ gW) (ty0 : Nat → FieldType) (hty : ∀ k, k < N → parseFieldDescriptor (T k).2.2.1 = some (ty0 k)) {index : Nat} (hcl : Cond.classLink own index C ∈ gW) (hinst : Cond.instantiable C N ∈ gW) (hini : Cond.initialized C ∈ gW) {fs : List Value} (hfs : ∀ j, j < N → defaultValue (ty0 j) = vp_V fs j) (hcells : cells + 1 ≤ R.cells) (hslots : slots + N ≤ R.slots) (hdg : decode cc pc = .ok (.new index, 3))
    (kk : ∀ (q : Nat) (H1 : Heap) (f1 : hM), f q = none → f1 = va_up f q (some (.inr (ci, fs))) → hW G f1 H1 → va_S (hFr G) s.heap H1 locs → W p l e R s m args below meth c H1 locs (cells + 1) (slots + N) Q (F0 m (pc + 3) ls (.ref q :: rest))) : W p l e R s m args below meth c H locs cells slots Q (F0 m pc ls rest) := by
  have hA := B0.le
  obtain ⟨hx, hb, hml, hown, hts, hlk, hk0, hl9⟩ := B0
  obtain ⟨L, g, hf, hP, hD⟩ := hw
  exact va_new (D := G.1) (cl := hC) (tys := hTy G) (ws := [] ++ va_pl L g) hx hb hts hin ty0 hty hown (hts _ hcl) (hts _ hinst) (hts _ hini) hk0.1 hP hD hS hA hc hfs hcells hslots hdg (fun q H1 hP1 hD1 hS1 => by
    obtain ⟨h0, hw1⟩ := hW.push hf hP1 hD1
    exact kk q H1 _ h0 rfl hw1 hS1)
theorem hcls_of {U : State} {cA cB : ClassId} {ty : FieldType} (h1 : va_RA U cA ty) (h2 : va_RA U cB ty) (hp : ∀ C, ty ≠ .object C) : cA = cB := by
  cases ty <;> first | (exact absurd rfl (hp _)) | (exact Option.some.inj (Eq.trans (Eq.symm h1) h2))
theorem hp_newaI (B0 : hB p l s m args meth c cc nL own G) (hw : hW G f H) (hS : va_S (hFr G) s.heap H locs) (harr : Cond.arrayClass .int ∈ gW) {n : Int32} {N' : Nat} (hn : ¬ n < 0) (hN : n.toNatClampNeg = N') (hbytes : N' * componentBytes .int ≤ 536870912) (hcells : cells + 1 ≤ R.cells) (hslots : slots + N' ≤ R.slots) (hdg : decode cc pc = .ok (.newarray .int, 2))
    (kk : ∀ (q : Nat) (H1 : Heap) (f1 : hM), f q = none → f1 = va_up f q (some (.inl (cI G, N', .inl (fun _ => 0)))) → hW G f1 H1 → va_S (hFr G) s.heap H1 locs → W p l e R s m args below meth c H1 locs (cells + 1) (slots + N') Q (F0 m (pc + 2) ls (.ref q :: rest))) : W p l e R s m args below meth c H locs cells slots Q (F0 m pc ls (.int n :: rest)) := by
  have hA := B0.le
  obtain ⟨hx, hb, hml, hown, hts, hlk, hk0, hl9⟩ := B0
  obtain ⟨L, g, hf, hP, hD⟩ := hw
  refine va_newa (atype := .int) (ty := .int) (D := G.1) (cl := hC) (tys := hTy G) (ws := [] ++ va_pl L g) (a0 := (N', .inl (fun _ => 0))) hx hb (hts _ harr) rfl hk0.1 hP hD hS hA (fun cA => rfl) hn hN hbytes hcells hslots hdg (fun q cA H1 hK1 hP1 hD1 hS1 => ?_)
  have hcc : cA = cI G := hcls_of (hK1.2 3 (cA, .int) rfl).2 (hk0.1.2 0 (cI G, .int) rfl).2 (fun C h => by cases h)
  rw [hcc] at hP1 hD1
  obtain ⟨h0, hw1⟩ := hW.push hf hP1 hD1
  exact kk q H1 _ h0 rfl hw1 hS1
theorem hp_newaZ (B0 : hB p l s m args meth c cc nL own G) (hw : hW G f H) (hS : va_S (hFr G) s.heap H locs) (harr : Cond.arrayClass .boolean ∈ gW) {n : Int32} {N' : Nat} (hn : ¬ n < 0) (hN : n.toNatClampNeg = N') (hbytes : N' * componentBytes .boolean ≤ 536870912) (hcells : cells + 1 ≤ R.cells) (hslots : slots + N' ≤ R.slots) (hdg : decode cc pc = .ok (.newarray .boolean, 2))
    (kk : ∀ (q : Nat) (H1 : Heap) (f1 : hM), f q = none → f1 = va_up f q (some (.inl (cZ G, N', .inl (fun _ => 0)))) → hW G f1 H1 → va_S (hFr G) s.heap H1 locs → W p l e R s m args below meth c H1 locs (cells + 1) (slots + N') Q (F0 m (pc + 2) ls (.ref q :: rest))) : W p l e R s m args below meth c H locs cells slots Q (F0 m pc ls (.int n :: rest)) := by
  have hA := B0.le
  obtain ⟨hx, hb, hml, hown, hts, hlk, hk0, hl9⟩ := B0
  obtain ⟨L, g, hf, hP, hD⟩ := hw
  refine va_newa (atype := .boolean) (ty := .boolean) (D := G.1) (cl := hC) (tys := hTy G) (ws := [] ++ va_pl L g) (a0 := (N', .inl (fun _ => 0))) hx hb (hts _ harr) rfl hk0.1 hP hD hS hA (fun cA => rfl) hn hN hbytes hcells hslots hdg (fun q cA H1 hK1 hP1 hD1 hS1 => ?_)
  have hcc : cA = cZ G := hcls_of (hK1.2 3 (cA, .boolean) rfl).2 (hk0.1.2 1 (cZ G, .boolean) rfl).2 (fun C h => by cases h)
  rw [hcc] at hP1 hD1
  obtain ⟨h0, hw1⟩ := hW.push hf hP1 hD1
  exact kk q H1 _ h0 rfl hw1 hS1
theorem hp_newaJ (B0 : hB p l s m args meth c cc nL own G) (hw : hW G f H) (hS : va_S (hFr G) s.heap H locs) (harr : Cond.arrayClass .long ∈ gW) {n : Int32} {N' : Nat} (hn : ¬ n < 0) (hN : n.toNatClampNeg = N') (hbytes : N' * componentBytes .long ≤ 536870912) (hcells : cells + 1 ≤ R.cells) (hslots : slots + N' ≤ R.slots) (hdg : decode cc pc = .ok (.newarray .long, 2))
    (kk : ∀ (q : Nat) (H1 : Heap) (f1 : hM), f q = none → f1 = va_up f q (some (.inl (cJ G, N', .inr (.inl (fun _ => 0))))) → hW G f1 H1 → va_S (hFr G) s.heap H1 locs → W p l e R s m args below meth c H1 locs (cells + 1) (slots + N') Q (F0 m (pc + 2) ls (.ref q :: rest))) : W p l e R s m args below meth c H locs cells slots Q (F0 m pc ls (.int n :: rest)) := by
  have hA := B0.le
  obtain ⟨hx, hb, hml, hown, hts, hlk, hk0, hl9⟩ := B0
  obtain ⟨L, g, hf, hP, hD⟩ := hw
  refine va_newa (atype := .long) (ty := .long) (D := G.1) (cl := hC) (tys := hTy G) (ws := [] ++ va_pl L g) (a0 := (N', .inr (.inl (fun _ => 0)))) hx hb (hts _ harr) rfl hk0.1 hP hD hS hA (fun cA => rfl) hn hN hbytes hcells hslots hdg (fun q cA H1 hK1 hP1 hD1 hS1 => ?_)
  have hcc : cA = cJ G := hcls_of (hK1.2 3 (cA, .long) rfl).2 (hk0.1.2 2 (cJ G, .long) rfl).2 (fun C h => by cases h)
  rw [hcc] at hP1 hD1
  obtain ⟨h0, hw1⟩ := hW.push hf hP1 hD1
  exact kk q H1 _ h0 rfl hw1 hS1
theorem hp_alenI (B0 : hB p l s m args meth c cc nL own G) (hw : hW G f H) {n : Nat} {x : Nat → Int32} (ha : f a = some (.inl (cI G, n, .inl x))) {v : Int32} (hv : Int32.ofNat n = v) (hdg : decode cc pc = .ok (.arraylength, 1))
    (kk : W p l e R s m args below meth c H locs cells slots Q (F0 m (pc + 1) ls (.int v :: rest))) : W p l e R s m args below meth c H locs cells slots Q (F0 m pc ls (.ref a :: rest)) := by
  obtain ⟨hx, hb, hml, hown, hts, hlk, hk0, hl⟩ := B0
  obtain ⟨L, g, hf, hP, hD⟩ := hw
  obtain ⟨hL, hg⟩ := hf a _ ha
  obtain ⟨j, hj⟩ := va_pl_get (X := []) (f := g) hL
  rw [hg] at hj
  exact va_alen (D := G.1) (cl := hC) (tys := hTy G) hx hb hk0.1 hP j 0 hj (ty := .int) rfl hv hdg kk
theorem hp_alenZ (B0 : hB p l s m args meth c cc nL own G) (hw : hW G f H) {n : Nat} {x : Nat → Int32} (ha : f a = some (.inl (cZ G, n, .inl x))) {v : Int32} (hv : Int32.ofNat n = v) (hdg : decode cc pc = .ok (.arraylength, 1))
    (kk : W p l e R s m args below meth c H locs cells slots Q (F0 m (pc + 1) ls (.int v :: rest))) : W p l e R s m args below meth c H locs cells slots Q (F0 m pc ls (.ref a :: rest)) := by
  obtain ⟨hx, hb, hml, hown, hts, hlk, hk0, hl⟩ := B0
  obtain ⟨L, g, hf, hP, hD⟩ := hw
  obtain ⟨hL, hg⟩ := hf a _ ha
  obtain ⟨j, hj⟩ := va_pl_get (X := []) (f := g) hL
  rw [hg] at hj
  exact va_alen (D := G.1) (cl := hC) (tys := hTy G) hx hb hk0.1 hP j 1 hj (ty := .boolean) rfl hv hdg kk
/-! calls -/
theorem hp_go {mc ms : Nat} {st0 : List Value} {av : Array Value} {P : Option Value → hM → Prop} {PX : String → hM → Prop} (B0 : hB p l s m args meth c cc nL own G) (hS : va_S (hFr G) s.heap H locs)
    (hr : vx_Run p l e R s m args below meth c H locs cells slots mc ms (F0 m pc ls st0) rest (hQ G P av) (hX G PX) (hFr G))
    (kx : ∀ (E : String) (ce : Cell) (q9 : Addr) (f1 : hM) (H1 : Heap) (locs1 : List Loc), PX E f1 → hW G f1 H1 → va_S (hFr G) s.heap H1 locs1 → H1[q9]? = some ce → ce.vm = .none → s.vm.findClass E = some ce.cls → vx_W p l e R s m args below meth c H1 locs1 (cells + mc) (slots + ms) Q (F0 m pc ls rest) q9)
    (kk : ∀ (v : Option Value) (f1 : hM) (H1 : Heap) (locs1 : List Loc), P v f1 → hW G f1 H1 → va_S (hFr G) s.heap H1 locs1 → W p l e R s m args below meth c H1 locs1 (cells + mc) (slots + ms) Q (F0 m (pc + 3) ls (v.toList ++ rest))) : W p l e R s m args below meth c H locs cells slots Q (F0 m pc ls st0) := by
  intro T hT X
  rcases hr T hT X with ⟨v, st₀, t, T', L, h0, X', hL, e1, e2, ⟨⟨v2, f1, hv, hp, hw1⟩, hF⟩, st⟩ | ⟨q, st₀, t, T', L, E, ce, h0, X', hL, e1, e2, ⟨⟨f1, hp, hw1⟩, hF⟩, hce, hcv, hcl, st⟩
  · cases hv
    obtain ⟨k1, k2, k3⟩ := vx_keep h0 e1 hS (fun _ _ h => h) (fun _ h => h) hL hF
    obtain ⟨t2, a1, b1⟩ := kk v f1 T'.heap (locs ++ L) hp (by rw [e1]; exact hw1) k3 T' rfl X'
    exact ⟨t2, st t2 a1, b1⟩
  · obtain ⟨k1, k2, k3⟩ := vx_keep h0 e1 hS (fun _ _ h => h) (fun _ h => h) hL hF
    obtain ⟨t2, a1, b1⟩ := kx E ce q f1 T'.heap (locs ++ L) hp (by rw [e1]; exact hw1) k3 (by rw [e1]; exact hce) hcv hcl T' rfl X'
    exact ⟨t2, st.trans a1, b1⟩
theorem hPc_of {av : List Value} (B0 : hB p l s m args meth c cc nL own G) (hw : hW G f H) (hS : va_S (hFr G) s.heap H locs) : ∀ U : State, U.heap = H → s.WarmedH U.vm → hPre G av f av.toArray U := fun U hU hW9 =>
  ⟨rfl, hK.warm B0.2.2.2.2.2.2.1 hW9 (by rw [hU]; exact hS.1) (fun q h1 h2 => by rw [hU]; exact hS.2.1 q h1 h2), by rw [hU]; exact hw⟩
theorem hcell_of {ci : Nat} {C : String} {T : u_T} {N : Nat} {fs : List Value} {b : Nat} (B0 : hB p l s m args meth c cc nL own G) (hw : hW G f H) (hc : hC[ci]? = some (C, T, N)) (hb : f b = some (.inr (ci, fs))) : ∃ cellB : Cell, H[b]? = some cellB ∧ cellB.vm.isStatics = false ∧ s.vm.findClass C = some cellB.cls := by
  obtain ⟨L, g, hf, hP, hD⟩ := hw
  obtain ⟨hL, hg⟩ := hf b _ hb
  obtain ⟨j, hj⟩ := va_pl_get (X := []) (f := g) hL
  rw [hg] at hj
  exact va_recv (q := (C, T, N)) B0.2.2.2.2.2.2.1.1 hP hc hj
/-- an instance method: its words, once for all calls -/
def hMV (y : MethodName) (bytes : ByteArray) (maxL : Nat) (ret : Option FieldType) (n : Nat) : Prop :=
  Cond.code y bytes maxL ret ∈ gW ∧ Cond.instanceMethod y ∈ gW ∧ Cond.selects y.cls y y ∈ gW ∧ Cond.initialized y.cls ∈ gW ∧ (y.cls ≠ "java/lang/invoke/MethodHandle" ∧ y.cls ≠ "java/lang/invoke/VarHandle") ∧ (parseMethodDescriptor y.desc).map (fun d => d.parameters.length) = some n
def hMS (y : MethodName) (bytes : ByteArray) (maxL : Nat) (ret : Option FieldType) (n : Nat) : Prop :=
  Cond.code y bytes maxL ret ∈ gW ∧ Cond.static y ∈ gW ∧ Cond.initialized y.cls ∈ gW ∧ (y.cls ≠ "java/lang/invoke/MethodHandle" ∧ y.cls ≠ "java/lang/invoke/VarHandle") ∧ (parseMethodDescriptor y.desc).map (fun d => d.parameters.length) = some n
def hMI (y : MethodName) (bytes : ByteArray) (maxL : Nat) (n : Nat) : Prop :=
  Cond.code y bytes maxL none ∈ gW ∧ Cond.instanceMethod y ∈ gW ∧ Cond.initialized y.cls ∈ gW ∧ y.name = "<init>" ∧ (y.cls ≠ "java/lang/invoke/MethodHandle" ∧ y.cls ≠ "java/lang/invoke/VarHandle") ∧ (parseMethodDescriptor y.desc).map (fun d => d.parameters.length) = some n
theorem hlen_of {y : MethodName} {n : Nat} (h2 : (parseMethodDescriptor y.desc).map (fun d => d.parameters.length) = some n) : ∀ sig, parseMethodDescriptor y.desc = some sig → n = sig.parameters.length := fun sig h => by
  rw [h] at h2
  exact (Option.some.inj h2).symm
theorem hp_V {y : MethodName} {bytes : ByteArray} {maxL n index : Nat} {ret : Option FieldType} {fr lo mc ms ci : Nat} {T : u_T} {N : Nat} {fs As st0 : List Value} {b : Nat} {P : Option Value → hM → Prop} {PX : String → hM → Prop} (B0 : hB p l s m args meth c cc nL own G) (hw : hW G f H) (hS : va_S (hFr G) s.heap H locs)
    (hM9 : CT l y (.code y bytes maxL ret) fr lo mc ms G (.ref b :: As) f P PX) (hm : hMV y bytes maxL ret n) (hlm : Cond.methodLink own index y ∈ gW) (hc : hC[ci]? = some (y.cls, T, N)) (hb : f b = some (.inr (ci, fs))) (hst : st0 = As.reverse ++ .ref b :: rest) (hn : As.length = n) (hsz : ls.size = nL) (hroom : (rest.map fun v => v.category).sum ≤ 8)
    (hR : (fr + 1 ≤ R.frames ∧ 8 + (maxL + 11) + lo ≤ R.locals) ∧ cells + mc ≤ R.cells ∧ slots + ms ≤ R.slots) (hdg : decode cc pc = .ok (.invokevirtual index, 3))
    (kx : ∀ (E : String) (ce : Cell) (q9 : Addr) (f1 : hM) (H1 : Heap) (locs1 : List Loc), PX E f1 → hW G f1 H1 → va_S (hFr G) s.heap H1 locs1 → H1[q9]? = some ce → ce.vm = .none → s.vm.findClass E = some ce.cls → vx_W p l e R s m args below meth c H1 locs1 (cells + mc) (slots + ms) Q (F0 m pc ls rest) q9)
    (kk : ∀ (v : Option Value) (f1 : hM) (H1 : Heap) (locs1 : List Loc), P v f1 → hW G f1 H1 → va_S (hFr G) s.heap H1 locs1 → W p l e R s m args below meth c H1 locs1 (cells + mc) (slots + ms) Q (F0 m (pc + 3) ls (v.toList ++ rest))) : W p l e R s m args below meth c H locs cells slots Q (F0 m pc ls st0) := by
  have B1 := B0
  obtain ⟨hx, hb9, hml, hown, hts, hlk, hk0, hl⟩ := B0
  obtain ⟨m1, m2, m3, m4, m5, m6⟩ := hm
  exact hp_go B1 hS (vx_runV (C := y.cls) (ws := Cond.code y bytes maxL ret :: gW) (rm := { frames := fr, cells := mc, slots := ms, locals := lo }) (Ts := gW) (bytes := bytes) (maxL := maxL) (ret := ret) (n := n) (As := As) (rest := rest) ⟨hx, hb9, hml, hown, hts⟩ hM9
    ⟨⟨rfl, rfl, hR.1.1, hR.1.2, gW_pay hts m1, List.mem_cons_self, hts _ m1, hts _ m4, m5, hlen_of m6, hts _ hlm⟩, hts _ m2, hts _ m3⟩
    ⟨hPre.blind, hcell_of B1 hw hc hb, hPc_of B1 hw hS⟩ rfl hn hsz hst (lv_room hroom) hdg hR.2) kx kk
theorem hp_S {y : MethodName} {bytes : ByteArray} {maxL n index : Nat} {ret : Option FieldType} {fr lo mc ms : Nat} {As st0 : List Value} {P : Option Value → hM → Prop} {PX : String → hM → Prop} (B0 : hB p l s m args meth c cc nL own G) (hw : hW G f H) (hS : va_S (hFr G) s.heap H locs)
    (hM9 : CT l y (.code y bytes maxL ret) fr lo mc ms G As f P PX) (hm : hMS y bytes maxL ret n) (hlm : Cond.methodLink own index y ∈ gW) (hst : st0 = As.reverse ++ rest) (hn : As.length = n) (hsz : ls.size = nL) (hroom : (rest.map fun v => v.category).sum ≤ 8)
    (hR : (fr + 1 ≤ R.frames ∧ 8 + (maxL + 11) + lo ≤ R.locals) ∧ cells + mc ≤ R.cells ∧ slots + ms ≤ R.slots) (hdg : decode cc pc = .ok (.invokestatic index, 3))
    (kx : ∀ (E : String) (ce : Cell) (q9 : Addr) (f1 : hM) (H1 : Heap) (locs1 : List Loc), PX E f1 → hW G f1 H1 → va_S (hFr G) s.heap H1 locs1 → H1[q9]? = some ce → ce.vm = .none → s.vm.findClass E = some ce.cls → vx_W p l e R s m args below meth c H1 locs1 (cells + mc) (slots + ms) Q (F0 m pc ls rest) q9)
    (kk : ∀ (v : Option Value) (f1 : hM) (H1 : Heap) (locs1 : List Loc), P v f1 → hW G f1 H1 → va_S (hFr G) s.heap H1 locs1 → W p l e R s m args below meth c H1 locs1 (cells + mc) (slots + ms) Q (F0 m (pc + 3) ls (v.toList ++ rest))) : W p l e R s m args below meth c H locs cells slots Q (F0 m pc ls st0) := by
  have B1 := B0
  obtain ⟨hx, hb9, hml, hown, hts, hlk, hk0, hl⟩ := B0
  obtain ⟨m1, m2, m4, m5, m6⟩ := hm
  exact hp_go B1 hS (vx_runS (ws := Cond.code y bytes maxL ret :: gW) (rm := { frames := fr, cells := mc, slots := ms, locals := lo }) (Ts := gW) (bytes := bytes) (maxL := maxL) (ret := ret) (n := n) (As := As) (rest := rest) ⟨hx, hb9, hml, hown, hts⟩ hM9
    ⟨⟨rfl, rfl, hR.1.1, hR.1.2, gW_pay hts m1, List.mem_cons_self, hts _ m1, hts _ m4, m5, hlen_of m6, hts _ hlm⟩, hts _ m2⟩
    ⟨hPre.blind, hPc_of B1 hw hS⟩ rfl hn hsz hst (lv_room hroom) hdg hR.2) kx kk
theorem hp_I {y : MethodName} {bytes : ByteArray} {maxL n index : Nat} {fr lo mc ms : Nat} {As st0 : List Value} {b : Nat} {P : Option Value → hM → Prop} {PX : String → hM → Prop} (B0 : hB p l s m args meth c cc nL own G) (hw : hW G f H) (hS : va_S (hFr G) s.heap H locs)
    (hM9 : CT l y (.code y bytes maxL none) fr lo mc ms G (.ref b :: As) f P PX) (hm : hMI y bytes maxL n) (hlm : Cond.methodLink own index y ∈ gW) (hst : st0 = As.reverse ++ .ref b :: rest) (hn : As.length = n) (hsz : ls.size = nL) (hroom : (rest.map fun v => v.category).sum ≤ 8)
    (hR : (fr + 1 ≤ R.frames ∧ 8 + (maxL + 11) + lo ≤ R.locals) ∧ cells + mc ≤ R.cells ∧ slots + ms ≤ R.slots) (hdg : decode cc pc = .ok (.invokespecial index, 3))
    (kx : ∀ (E : String) (ce : Cell) (q9 : Addr) (f1 : hM) (H1 : Heap) (locs1 : List Loc), PX E f1 → hW G f1 H1 → va_S (hFr G) s.heap H1 locs1 → H1[q9]? = some ce → ce.vm = .none → s.vm.findClass E = some ce.cls → vx_W p l e R s m args below meth c H1 locs1 (cells + mc) (slots + ms) Q (F0 m pc ls rest) q9)
    (kk : ∀ (v : Option Value) (f1 : hM) (H1 : Heap) (locs1 : List Loc), P v f1 → hW G f1 H1 → va_S (hFr G) s.heap H1 locs1 → W p l e R s m args below meth c H1 locs1 (cells + mc) (slots + ms) Q (F0 m (pc + 3) ls (v.toList ++ rest))) : W p l e R s m args below meth c H locs cells slots Q (F0 m pc ls st0) := by
  have B1 := B0
  obtain ⟨hx, hb9, hml, hown, hts, hlk, hk0, hl⟩ := B0
  obtain ⟨m1, m2, m4, m7, m5, m6⟩ := hm
  exact hp_go B1 hS (vx_runI (ws := Cond.code y bytes maxL none :: gW) (rm := { frames := fr, cells := mc, slots := ms, locals := lo }) (Ts := gW) (bytes := bytes) (maxL := maxL) (n := n) (As := As) (rest := rest) ⟨hx, hb9, hml, hown, hts⟩ hM9
    ⟨⟨rfl, rfl, hR.1.1, hR.1.2, gW_pay hts m1, List.mem_cons_self, hts _ m1, hts _ m4, m5, hlen_of m6, hts _ hlm⟩, m7, hts _ m2⟩
    ⟨hPre.blind, hPc_of B1 hw hS⟩ rfl hn hsz hst (lv_room hroom) hdg hR.2) kx kk
theorem hp_IN {host : String} {y : MethodName} {bytes : ByteArray} {maxL n index : Nat} {fr lo mc ms : Nat} {As st0 : List Value} {b : Nat} {P : Option Value → hM → Prop} {PX : String → hM → Prop} (B0 : hB p l s m args meth c cc nL own G) (hw : hW G f H) (hS : va_S (hFr G) s.heap H locs)
    (hM9 : CT l y (.code y bytes maxL none) fr lo mc ms G (.ref b :: As) f P PX) (hm : hMI y bytes maxL n) (hlm : Cond.methodLinkNest own index y host ∈ hOt) (hst : st0 = As.reverse ++ .ref b :: rest) (hn : As.length = n) (hsz : ls.size = nL) (hroom : (rest.map fun v => v.category).sum ≤ 8)
    (hR : (fr + 1 ≤ R.frames ∧ 8 + (maxL + 11) + lo ≤ R.locals) ∧ cells + mc ≤ R.cells ∧ slots + ms ≤ R.slots) (hdg : decode cc pc = .ok (.invokespecial index, 3))
    (kx : ∀ (E : String) (ce : Cell) (q9 : Addr) (f1 : hM) (H1 : Heap) (locs1 : List Loc), PX E f1 → hW G f1 H1 → va_S (hFr G) s.heap H1 locs1 → H1[q9]? = some ce → ce.vm = .none → s.vm.findClass E = some ce.cls → vx_W p l e R s m args below meth c H1 locs1 (cells + mc) (slots + ms) Q (F0 m pc ls rest) q9)
    (kk : ∀ (v : Option Value) (f1 : hM) (H1 : Heap) (locs1 : List Loc), P v f1 → hW G f1 H1 → va_S (hFr G) s.heap H1 locs1 → W p l e R s m args below meth c H1 locs1 (cells + mc) (slots + ms) Q (F0 m (pc + 3) ls (v.toList ++ rest))) : W p l e R s m args below meth c H locs cells slots Q (F0 m pc ls st0) := by
  have B1 := B0
  obtain ⟨hx, hb9, hml, hown, hts, hlk, hk0, hl⟩ := B0
  obtain ⟨m1, m2, m4, m7, m5, m6⟩ := hm
  exact hp_go B1 hS (vx_runIN (host := host) (ws := Cond.code y bytes maxL none :: gW) (rm := { frames := fr, cells := mc, slots := ms, locals := lo }) (Ts := gW) (bytes := bytes) (maxL := maxL) (n := n) (As := As) (rest := rest) ⟨hx, hb9, hml, hown, hts⟩ hM9
    ⟨⟨⟨rfl, rfl, hR.1.1, hR.1.2, gW_pay hts m1, List.mem_cons_self⟩, hts _ m1, hts _ m4, m5, hlen_of m6, va_Nw.use rfl (hk0.2.2.2.1 _ hlm)⟩, m7, hts _ m2⟩
    ⟨hPre.blind, hPc_of B1 hw hS⟩ rfl hn hsz hst (lv_room hroom) hdg hR.2) kx kk
/-! ends -/
variable {P : Option Value → hM → Prop} {PX : String → hM → Prop} {mc ms : Nat}
theorem hp_iret {v : Int32} (B0 : hB p l s m args meth c cc nL own G) (hw : hW G f H) (hS : va_S (hFr G) s.heap H locs) (hr : meth.sig.returnType = some .int) (hcs : cells ≤ mc ∧ slots ≤ ms) (hdg : decode cc pc = .ok (.ireturn, 1)) (hP : P (some (.int v)) f) : W p l e R s m args below meth c H locs cells slots (vx_MQ below (hQ G P) (hX G PX) args s mc ms (hFr G)) (F0 m pc ls [.int v]) := by
  obtain ⟨hx, hb, hml, hown, hts, hlk, hk0, hl⟩ := B0
  exact W.widen hcs.1 hcs.2 (vx_ret (W.iret (v := v) hx hb hr (fun t ht _ => ⟨⟨_, f, rfl, hP, by rw [ht]; exact hw⟩, hS.F ht⟩) hS.2.2 hdg hlk))
theorem hp_zret {v : Int32} (B0 : hB p l s m args meth c cc nL own G) (hw : hW G f H) (hS : va_S (hFr G) s.heap H locs) (hr : meth.sig.returnType = some .boolean) (hcs : cells ≤ mc ∧ slots ≤ ms) (hn : narrow .boolean (.int v) = .int v) (hdg : decode cc pc = .ok (.ireturn, 1)) (hP : P (some (.int v)) f) : W p l e R s m args below meth c H locs cells slots (vx_MQ below (hQ G P) (hX G PX) args s mc ms (hFr G)) (F0 m pc ls [.int v]) := by
  obtain ⟨hx, hb, hml, hown, hts, hlk, hk0, hl⟩ := B0
  exact W.widen hcs.1 hcs.2 (vx_ret (W.zret (v := v) (ty := .boolean) hx hb hr hn (fun t ht _ => ⟨⟨_, f, rfl, hP, by rw [ht]; exact hw⟩, hS.F ht⟩) hS.2.2 hdg hlk))
theorem hp_vret (B0 : hB p l s m args meth c cc nL own G) (hw : hW G f H) (hS : va_S (hFr G) s.heap H locs) (hr : meth.sig.returnType = none) (hcs : cells ≤ mc ∧ slots ≤ ms) (hdg : decode cc pc = .ok (.return_, 1)) (hP : P none f) : W p l e R s m args below meth c H locs cells slots (vx_MQ below (hQ G P) (hX G PX) args s mc ms (hFr G)) (F0 m pc ls []) := by
  obtain ⟨hx, hb, hml, hown, hts, hlk, hk0, hl⟩ := B0
  exact W.widen hcs.1 hcs.2 (vx_ret (W.vret hx hb hr (fun t ht _ => ⟨⟨_, f, rfl, hP, by rw [ht]; exact hw⟩, hS.F ht⟩) hS.2.2 hdg hlk))
theorem hp_aret {v : Value} {rt : FieldType} (B0 : hB p l s m args meth c cc nL own G) (hw : hW G f H) (hS : va_S (hFr G) s.heap H locs) (hr : meth.sig.returnType = some rt) (hrt : (∃ n, rt = .object n) ∨ ∃ t, rt = .array t) (hv : v = .null ∨ ∃ a, v = .ref a) (hcs : cells ≤ mc ∧ slots ≤ ms) (hdg : decode cc pc = .ok (.areturn, 1)) (hP : P (some v) f) : W p l e R s m args below meth c H locs cells slots (vx_MQ below (hQ G P) (hX G PX) args s mc ms (hFr G)) (F0 m pc ls [v]) := by
  obtain ⟨hx, hb, hml, hown, hts, hlk, hk0, hl⟩ := B0
  exact W.widen hcs.1 hcs.2 (vx_ret (W.aret (v := v) hx hb hr hrt hv (fun t ht _ => ⟨⟨_, f, rfl, hP, by rw [ht]; exact hw⟩, hS.F ht⟩) hS.2.2 hdg hlk))
theorem hp_lret {v : Int64} (B0 : hB p l s m args meth c cc nL own G) (hw : hW G f H) (hS : va_S (hFr G) s.heap H locs) (hr : meth.sig.returnType = some .long) (hcs : cells ≤ mc ∧ slots ≤ ms) (hdg : decode cc pc = .ok (.lreturn, 1)) (hP : P (some (.long v)) f) : W p l e R s m args below meth c H locs cells slots (vx_MQ below (hQ G P) (hX G PX) args s mc ms (hFr G)) (F0 m pc ls [.long v]) := by
  obtain ⟨hx, hb, hml, hown, hts, hlk, hk0, hl⟩ := B0
  exact W.widen hcs.1 hcs.2 (vx_ret (W.lret (v := v) hx hb hr (fun t ht _ => ⟨⟨_, f, rfl, hP, by rw [ht]; exact hw⟩, hS.F ht⟩) hS.2.2 hdg hlk))
/-- a callee's throw goes on to the caller -/
theorem hp_out {E : String} {ce : Cell} {q : Addr} (B0 : hB p l s m args meth c cc nL own G) (hw : hW G f H) (hS : va_S (hFr G) s.heap H locs) (hout : ∀ x ∈ c.exceptionTable.toList, False) (hce : H[q]? = some ce) (hcv : ce.vm = .none) (hcl : s.vm.findClass E = some ce.cls) (hcs : cells ≤ mc ∧ slots ≤ ms) (hP : PX E f) : vx_W p l e R s m args below meth c H locs cells slots (vx_MQ below (hQ G P) (hX G PX) args s mc ms (hFr G)) (F0 m pc ls rest) q := by
  obtain ⟨hx, hb, hml, hown, hts, hlk, hk0, hl⟩ := B0
  exact vx_out (fun x h => (hout x h).elim) hlk hce hcv hcl (fun t ht _ => ⟨⟨f, hP, by rw [ht]; exact hw⟩, hS.F ht⟩) hS.2.2 hcs.1 hcs.2
/-- the words of a throw -/
theorem hat_of {own cls : String} {ic : Nat} {names : List String} {args : Array Value} {s : State} {G : hG} (hts : ∀ w ∈ gW, w.before args s = true) (hk0 : hK G s) (h1 : ∀ w ∈ (vx_atS own ic cls names).filter goodWord, w ∈ gW) (h2 : ∀ w ∈ (vx_atS own ic cls names).filter (fun w => !goodWord w), w ∈ hOt) : ∀ w ∈ vx_atS own ic cls names, w.before args s = true := by
  intro w hw
  by_cases g : goodWord w = true
  · exact hts w (h1 w (List.mem_filter.mpr ⟨hw, g⟩))
  · have h9 : w ∈ hOt := h2 w (List.mem_filter.mpr ⟨hw, by cases hg : goodWord w with | true => exact absurd hg g | false => rfl⟩)
    exact va_Nw.use (hOw_tabs (List.mem_filter.mp h9).2) (hk0.2.2.2.1 w h9)
theorem hp_throw {cls text : String} {names : List String} {ik is ic : Nat} (B0 : hB p l s m args meth c cc nL own G) (hw : hW G f H) (hS : va_S (hFr G) s.heap H locs) (hout : ∀ x ∈ c.exceptionTable.toList, False)
    (hn9 : Bundle.fit cls = true ∧ (∀ n ∈ names, Bundle.fit n = true)) (hk : Cond.classLink own ik cls ∈ gW) (hini : Cond.initialized cls ∈ gW) (hstr : (own, is, text) ∈ hStr)
    (h1 : ∀ w ∈ (vx_atS own ic cls names).filter goodWord, w ∈ gW) (h2 : ∀ w ∈ (vx_atS own ic cls names).filter (fun w => !goodWord w), w ∈ hOt) (hgood : ∀ w ∈ Cond.classLink own ik cls :: Cond.initialized cls :: vx_atS own ic cls names, vx_ot w = true)
    (hsz : ls.size = nL) (d0 : decode cc pc = .ok (.new ik, 3)) (d3 : decode cc (pc + 3) = .ok (.dup, 1)) (d4 : decode cc (pc + 4) = .ok (.ldc is, 2)) (d6 : decode cc (pc + 6) = .ok (.invokespecial ic, 3)) (d9 : decode cc (pc + 9) = .ok (.athrow, 1))
    (hR : (names.length + 3 < R.frames ∧ (rest.map fun v => v.category).sum + (13 * (names.length + 1) + 43) ≤ R.locals) ∧ cells + 1 ≤ R.cells ∧ slots + 6 ≤ R.slots) (hcs : cells + 1 ≤ mc ∧ slots + 6 ≤ ms) (hP : PX cls f) :
    W p l e R s m args below meth c H locs cells slots (vx_MQ below (hQ G P) (hX G PX) args s mc ms (hFr G)) (F0 m pc ls rest) := by
  obtain ⟨hx, hb, hml, hown, hts, hlk, hk0, hl⟩ := B0
  obtain ⟨sa, hsa⟩ := hk0.2.2.2.2.1 _ hstr
  exact vx_throwS hx hb hl (own := own) (cls := cls) (text := text) (names := names) (ik := ik) (is := is) (ic := ic) (sa := sa) (A := hFr G) hown hn9.1 hn9.2 (hts _ hk) (hts _ hini) hsa (hat_of hts hk0 h1 h2) hgood hk0.2.1 hk0.2.2.1 hS (hsz.trans hml.symm) d0 d3 d4 d6 d9
    (fun x h => (hout x h).elim) hR.1.1 hR.1.2 hR.2.1 hR.2.2 hlk (fun t _ z1 z2 => by
      refine ⟨⟨f, hP, ?_⟩, Nat.le_trans hS.1 z1, fun q g1 g2 => ?_⟩
      · obtain ⟨L, g, hf, hP9, hD⟩ := hw
        exact ⟨L, g, hf, hP9.kept (fun k q hk9 => z2 q.1 (hP9 k q hk9).lt), hD⟩
      · rw [z2 q (Nat.lt_of_lt_of_le g1 hS.1)]
        exact hS.2.1 q g1 g2) hS.2.2 hcs.1 hcs.2
/-- a concrete number on the stack by its name -/
theorem hp_c {x v : Int32} (h : x = v) (k : W p l e R s m args below meth c H locs cells slots Q (F0 m pc ls (.int v :: rest))) : W p l e R s m args below meth c H locs cells slots Q (F0 m pc ls (.int x :: rest)) := by rw [h]; exact k
end HQ9
/-! natives: arraycopy, clone; a static call of a method with handlers; a throw that a handler takes -/
section HQ10
variable {p : Program} {l : Launch} {e : Env} {R : Room} {s : State} {m : MethodId} {args : Array Value} {below : List Frame} {meth : Method} {c : Code} {H : Heap} {locs : List Loc} {cells slots : Nat} {Q : State → Prop}
variable {cc : ByteArray} {nL pc : Nat} {own : String} {G : hG} {f : hM} {ls : Array Slot} {rest : List Value} {a : Nat}
theorem hp_copyI {index a0 n0 n1 : Nat} {x y : Nat → Int32} {sp dp n : Int32} (B0 : hB p l s m args meth c cc nL own G) (hw : hW G f H) (hS : va_S (hFr G) s.heap H locs) (hsz : ls.size = nL) (hlm : Cond.methodLink own index arraycopyName ∈ gW) (hnat : Cond.native arraycopyName ∈ gW) (hst : Cond.static arraycopyName ∈ gW) (hini : Cond.initialized "java/lang/System" ∈ gW)
    (ha0 : f a0 = some (.inl (cI G, n0, .inl x))) (ha1 : f a = some (.inl (cI G, n1, .inl y))) (h1 : ¬ sp < 0) (h2 : ¬ dp < 0) (h3 : ¬ n < 0) (h4 : sp.toNatClampNeg + n.toNatClampNeg ≤ n0) (h5 : dp.toNatClampNeg + n.toNatClampNeg ≤ n1)
    (hR : 1 ≤ R.frames ∧ (rest.map fun v => v.category).sum + (nativeFrameWords "java/lang/System" "arraycopy" 5 + 11) ≤ R.locals) (hdg : decode cc pc = .ok (.invokestatic index, 3))
    (kk : ∀ (H1 : Heap) (locs1 : List Loc) (f1 : hM), f1 = va_up f a (some (.inl (cI G, n1, .inl (va_cpy x y sp.toNatClampNeg dp.toNatClampNeg n.toNatClampNeg)))) → hW G f1 H1 → va_S (hFr G) s.heap H1 locs1 → W p l e R s m args below meth c H1 locs1 cells slots Q (F0 m (pc + 3) ls rest)) : W p l e R s m args below meth c H locs cells slots Q (F0 m pc ls (.int n :: .int dp :: .ref a :: .int sp :: .ref a0 :: rest)) := by
  obtain ⟨hx, hb, hml, hown, hts, hlk, hk0, hl9⟩ := B0
  obtain ⟨L, g, hf, hP, hD⟩ := hw
  obtain ⟨hL, hg⟩ := hf a _ ha1
  obtain ⟨hL0, hg0⟩ := hf a0 _ ha0
  obtain ⟨j, hj0⟩ := va_pl_get (X := []) (f := g) hL
  obtain ⟨j2, hj2⟩ := va_pl_get (X := []) (f := g) hL0
  have hj := hj0
  rw [hg] at hj
  rw [hg0] at hj2
  exact va_copyi (D := G.1) (cl := hC) (tys := hTy G) hx hb (hml.trans hsz.symm) hown (hts _ hlm) (hts _ hnat) (hts _ hst) (hts _ hini) hk0.1 hP hD hS j2 j 0 0 hj2 hj (ty := .int) rfl rfl rfl h1 h2 h3 h4 h5 (fun _ _ => rfl) hR.1 hR.2 hdg (fun H1 locs1 hP1 hD1 hS1 => kk H1 locs1 _ rfl (hW.set (e0 := .inl (cI G, n1, .inl y)) hf hD hL hj0 hP1 hD1) hS1)
theorem hp_cloneI {index n0 : Nat} {x : Nat → Int32} (B0 : hB p l s m args meth c cc nL own G) (hw : hW G f H) (hS : va_S (hFr G) s.heap H locs) (hsz : ls.size = nL) (hlm : Cond.methodLink own index ⟨"[I", "clone", "()Ljava/lang/Object;"⟩ ∈ gW) (hsame : Cond.sameMethod "[I" "java/lang/Object" "clone" "()Ljava/lang/Object;" ∈ gW) (hnat : Cond.native ⟨"java/lang/Object", "clone", "()Ljava/lang/Object;"⟩ ∈ gW) (hinst : Cond.instanceMethod ⟨"java/lang/Object", "clone", "()Ljava/lang/Object;"⟩ ∈ gW)
    (hsel : Cond.selects "[I" ⟨"[I", "clone", "()Ljava/lang/Object;"⟩ ⟨"java/lang/Object", "clone", "()Ljava/lang/Object;"⟩ ∈ gW) (hcl : Cond.castable "[I" "java/lang/Cloneable" ∈ hOt) (ha0 : f a = some (.inl (cI G, n0, .inl x)))
    (hR : (1 ≤ R.frames ∧ (rest.map fun v => v.category).sum + 14 ≤ R.locals) ∧ cells + 1 ≤ R.cells ∧ slots + n0 ≤ R.slots) (hdg : decode cc pc = .ok (.invokevirtual index, 3))
    (kk : ∀ (q : Nat) (H1 : Heap) (f1 : hM), f q = none → f1 = va_up f q (some (.inl (cI G, n0, .inl x))) → hW G f1 H1 → va_S (hFr G) s.heap H1 locs → W p l e R s m args below meth c H1 locs (cells + 1) (slots + n0) Q (F0 m (pc + 3) ls (.ref q :: rest))) : W p l e R s m args below meth c H locs cells slots Q (F0 m pc ls (.ref a :: rest)) := by
  have hA := B0.le
  obtain ⟨hx, hb, hml, hown, hts, hlk, hk0, hl9⟩ := B0
  obtain ⟨L, g, hf, hP, hD⟩ := hw
  obtain ⟨hL0, hg0⟩ := hf a _ ha0
  obtain ⟨j2, hj2⟩ := va_pl_get (X := []) (f := g) hL0
  rw [hg0] at hj2
  have hnm : s.vm.findClass "[I" = some (cI G) := (hk0.1.2 0 (cI G, .int) rfl).2
  exact va_clone (D := G.1) (cl := hC) (tys := hTy G) (ws := [] ++ va_pl L g) (ty := .int) (x := (n0, .inl x)) hx hb (hml.trans hsz.symm) hown (hts _ hlm) (hts _ hsame) (hts _ hnat) (hts _ hinst) (hts _ hsel) (hk0.2.2.2.1 _ hcl) hk0.1 hP hD hS hA j2 0 hj2 rfl hnm
    (fun i v hv => by
      have h9 : (arrV (cI G) n0 (fun j => .int (x j))).slots[i]? = some v := hv
      have hi : i < n0 := by
        have := (Array.getElem?_eq_some_iff.mp h9).1
        rw [arrV_size] at this
        exact this
      rw [arrV_read _ _ hi] at h9
      cases h9
      rfl) hR.1.1 hR.1.2 hR.2.1 hR.2.2 hdg (fun q H1 _ hP1 hD1 hS1 => by
    obtain ⟨h0, hw1⟩ := hW.push hf hP1 hD1
    exact kk q H1 _ h0 rfl hw1 hS1)
theorem hp_castI {index : Nat} {n0 : Nat} {x : Nat → Int32} (B0 : hB p l s m args meth c cc nL own G) (hw : hW G f H) (hlm : Cond.classLink own index "[I" ∈ gW) (ha0 : f a = some (.inl (cI G, n0, .inl x))) (hdg : decode cc pc = .ok (.checkcast index, 3))
    (kk : W p l e R s m args below meth c H locs cells slots Q (F0 m (pc + 3) ls (.ref a :: rest))) : W p l e R s m args below meth c H locs cells slots Q (F0 m pc ls (.ref a :: rest)) := by
  obtain ⟨hx, hb, hml, hown, hts, hlk, hk0, hl9⟩ := B0
  obtain ⟨L, g, hf, hP, hD⟩ := hw
  obtain ⟨hL0, hg0⟩ := hf a _ ha0
  obtain ⟨j2, hj2⟩ := va_pl_get (X := []) (f := g) hL0
  rw [hg0] at hj2
  exact va_castA (D := G.1) (cl := hC) hx hb hown (hts _ hlm) hP j2 hj2 (hk0.1.2 0 (cI G, .int) rfl).2 hdg kk
def hMH (y : MethodName) (bytes : ByteArray) (maxL : Nat) (ret : Option FieldType) (hh : List (Nat × Nat × Nat × Nat)) (n : Nat) : Prop :=
  Cond.codeWith y bytes maxL ret hh ∈ gW ∧ Cond.static y ∈ gW ∧ Cond.initialized y.cls ∈ gW ∧ (y.cls ≠ "java/lang/invoke/MethodHandle" ∧ y.cls ≠ "java/lang/invoke/VarHandle") ∧ (parseMethodDescriptor y.desc).map (fun d => d.parameters.length) = some n
theorem hp_SH {y : MethodName} {bytes : ByteArray} {maxL n index : Nat} {ret : Option FieldType} {hh : List (Nat × Nat × Nat × Nat)} {fr lo mc ms : Nat} {As st0 : List Value} {P : Option Value → hM → Prop} {PX : String → hM → Prop} (B0 : hB p l s m args meth c cc nL own G) (hw : hW G f H) (hS : va_S (hFr G) s.heap H locs)
    (hM9 : CT l y (.codeWith y bytes maxL ret hh) fr lo mc ms G As f P PX) (hm : hMH y bytes maxL ret hh n) (hlm : Cond.methodLink own index y ∈ gW) (hst : st0 = As.reverse ++ rest) (hn : As.length = n) (hsz : ls.size = nL) (hroom : (rest.map fun v => v.category).sum ≤ 8)
    (hR : (fr + 1 ≤ R.frames ∧ 8 + (maxL + 11) + lo ≤ R.locals) ∧ cells + mc ≤ R.cells ∧ slots + ms ≤ R.slots) (hdg : decode cc pc = .ok (.invokestatic index, 3))
    (kx : ∀ (E : String) (ce : Cell) (q9 : Addr) (f1 : hM) (H1 : Heap) (locs1 : List Loc), PX E f1 → hW G f1 H1 → va_S (hFr G) s.heap H1 locs1 → H1[q9]? = some ce → ce.vm = .none → s.vm.findClass E = some ce.cls → vx_W p l e R s m args below meth c H1 locs1 (cells + mc) (slots + ms) Q (F0 m pc ls rest) q9)
    (kk : ∀ (v : Option Value) (f1 : hM) (H1 : Heap) (locs1 : List Loc), P v f1 → hW G f1 H1 → va_S (hFr G) s.heap H1 locs1 → W p l e R s m args below meth c H1 locs1 (cells + mc) (slots + ms) Q (F0 m (pc + 3) ls (v.toList ++ rest))) : W p l e R s m args below meth c H locs cells slots Q (F0 m pc ls st0) := by
  have B1 := B0
  obtain ⟨hx, hb9, hml, hown, hts, hlk, hk0, hl⟩ := B0
  obtain ⟨m1, m2, m4, m5, m6⟩ := hm
  exact hp_go B1 hS (vx_runSX (hh := hh) (ws := Cond.codeWith y bytes maxL ret hh :: gW) (rm := { frames := fr, cells := mc, slots := ms, locals := lo }) (Ts := gW) (bytes := bytes) (maxL := maxL) (ret := ret) (n := n) (As := As) (rest := rest) ⟨hx, hb9, hml, hown, hts⟩ hM9
    ⟨⟨rfl, rfl, hR.1.1, hR.1.2, gW_pay hts m1, List.mem_cons_self⟩, hts _ m1, hts _ m4, m5, hlen_of m6, hts _ hlm, hts _ m2⟩
    ⟨hPre.blind, hPc_of B1 hw hS⟩ rfl hn hsz hst (lv_room hroom) hdg hR.2) kx kk
/-- caught here: the rows ahead name other classes -/
theorem hp_catch {name : String} {E : String} {ce : Cell} {q : Addr} (B0 : hB p l s m args meth c cc nL own G) (pre : List ExceptionTableEntry) (x : ExceptionTableEntry) (suf : List ExceptionTableEntry) (hsplit : c.exceptionTable.toList = pre ++ x :: suf)
    (hpass : ∀ z ∈ pre, covers z pc = false ∨ (z.catchType ≠ 0 ∧ ∃ nm : String, Cond.classLink own z.catchType nm ∈ gW ∧ (E, nm) ∈ hNcs)) (hx9 : covers x pc = true) (h0 : x.catchType ≠ 0) (hlink : Cond.classLink own x.catchType name ∈ gW) (hcast : Cond.castable E name ∈ hOt) (hce : H[q]? = some ce) (hcv : ce.vm = .none) (hcl : s.vm.findClass E = some ce.cls)
    (kk : W p l e R s m args below meth c H locs cells slots Q (F0 m x.handlerPc ls [.ref q])) : vx_W p l e R s m args below meth c H locs cells slots Q (F0 m pc ls rest) q := by
  obtain ⟨hx, hb, hml, hown, hts, hlk, hk0, hl9⟩ := B0
  exact vx_catch (E := E) hown pre x suf hsplit (fun z hz => by
    rcases hpass z hz with h | ⟨h1, nm, h2, h3⟩
    · exact Or.inl h
    · exact Or.inr ⟨h1, nm, hts _ h2, hk0.2.2.2.2.2.1 (E, nm) h3⟩) hx9 h0 (hts _ hlink) (va_Nw.use rfl (hk0.2.2.2.1 _ hcast)) hce hcv hcl kk
end HQ10
/-! the words of a throw -/
def tNm : List String := ["java/lang/RuntimeException", "java/lang/Exception"]
theorem hall_of {L B : List Cond} (h : L.all (fun w => decide (w ∈ B)) = true) : ∀ w ∈ L, w ∈ B := fun w hw => of_decide_eq_true (List.all_eq_true.mp h w hw)
theorem hallb_of {L : List Cond} {b : Cond → Bool} (h : L.all b = true) : ∀ w ∈ L, b w = true := fun w hw => List.all_eq_true.mp h w hw
end
section
theorem qN_L : (Cond.initialized RL) ∈ gW := gW_mem 34 (by decide +kernel) (by decide +kernel)
theorem qN_X4 : (Cond.initialized RX4) ∈ gW := gW_mem 35 (by decide +kernel) (by decide +kernel)
theorem qN_X1 : (Cond.initialized RX1) ∈ gW := gW_mem 36 (by decide +kernel) (by decide +kernel)
theorem qN_X3 : (Cond.initialized RX3) ∈ gW := gW_mem 37 (by decide +kernel) (by decide +kernel)
theorem qN_J7 : (Cond.initialized RJ7) ∈ gW := gW_mem 38 (by decide +kernel) (by decide +kernel)
theorem qN_X0 : (Cond.initialized RX0) ∈ gW := gW_mem 39 (by decide +kernel) (by decide +kernel)
theorem qN_X5 : (Cond.initialized RX5) ∈ gW := gW_mem 40 (by decide +kernel) (by decide +kernel)
theorem qN_java_lang_Throwable : (Cond.initialized "java/lang/Throwable") ∈ gW := gW_mem 41 (by decide +kernel) (by decide +kernel)
theorem qN_java_lang_Exception : (Cond.initialized "java/lang/Exception") ∈ gW := gW_mem 42 (by decide +kernel) (by decide +kernel)
theorem qN_java_lang_RuntimeException : (Cond.initialized "java/lang/RuntimeException") ∈ gW := gW_mem 43 (by decide +kernel) (by decide +kernel)
theorem qN_java_lang_IndexOutOfBoundsException : (Cond.initialized "java/lang/IndexOutOfBoundsException") ∈ gW := gW_mem 44 (by decide +kernel) (by decide +kernel)
theorem qN_java_lang_IllegalArgumentException : (Cond.initialized "java/lang/IllegalArgumentException") ∈ gW := gW_mem 45 (by decide +kernel) (by decide +kernel)
theorem qN_java_lang_IllegalStateException : (Cond.initialized "java/lang/IllegalStateException") ∈ gW := gW_mem 46 (by decide +kernel) (by decide +kernel)
theorem qN_java_lang_System : (Cond.initialized RJ10) ∈ gW := gW_mem 47 (by decide +kernel) (by decide +kernel)
theorem qN_X2 : (Cond.initialized RX2) ∈ gW := gW_mem 48 (by decide +kernel) (by decide +kernel)
theorem qN_java_lang_Math : (Cond.initialized RJ9) ∈ gW := gW_mem 49 (by decide +kernel) (by decide +kernel)
theorem qC_L_8 : (Cond.classLink RL 8 RX4) ∈ gW := gW_mem 50 (by decide +kernel) (by decide +kernel)
theorem qI_X4 : (Cond.instantiable RX4 3) ∈ gW := gW_mem 51 (by decide +kernel) (by decide +kernel)
theorem qM_L_76 : (Cond.methodLink RL 76 yX4_init) ∈ gW := gW_mem 52 (by decide +kernel) (by decide +kernel)
theorem qM_X4_1 : (Cond.methodLink RX4 1 objectInit) ∈ gW := gW_mem 55 (by decide +kernel) (by decide +kernel)
theorem qC_X4_7 : (Cond.classLink RX4 7 RX1) ∈ gW := gW_mem 58 (by decide +kernel) (by decide +kernel)
theorem qI_X1 : (Cond.instantiable RX1 11) ∈ gW := gW_mem 59 (by decide +kernel) (by decide +kernel)
theorem qM_X4_9 : (Cond.methodLink RX4 9 yX1_init) ∈ gW := gW_mem 60 (by decide +kernel) (by decide +kernel)
theorem qM_X1_3 : (Cond.methodLink RX1 3 objectInit) ∈ gW := gW_mem 63 (by decide +kernel) (by decide +kernel)
theorem qC_X1_21 : (Cond.classLink RX1 21 RX3) ∈ gW := gW_mem 64 (by decide +kernel) (by decide +kernel)
theorem qI_X3 : (Cond.instantiable RX3 3) ∈ gW := gW_mem 65 (by decide +kernel) (by decide +kernel)
theorem oM_X1_23 : (Cond.methodLinkNest RX1 23 yX3_init "OptionLine") ∈ hOt := List.mem_filter.mpr ⟨List.mem_of_getElem? (i := 66) (by decide +kernel), rfl⟩
theorem qM_X3_3 : (Cond.methodLink RX3 3 objectInit) ∈ gW := gW_mem 69 (by decide +kernel) (by decide +kernel)
theorem qF_X3_19 : (Cond.fieldLink RX3 19 "OptionLine$FrameRow" "first" "LOptionLine$Frame;") ∈ gW := gW_mem 70 (by decide +kernel) (by decide +kernel)
theorem qF_X3_15 : (Cond.fieldLink RX3 15 "OptionLine$FrameRow" "last" "LOptionLine$Frame;") ∈ gW := gW_mem 71 (by decide +kernel) (by decide +kernel)
theorem qF_X3_9 : (Cond.fieldLink RX3 9 "OptionLine$FrameRow" "count" "I") ∈ gW := gW_mem 72 (by decide +kernel) (by decide +kernel)
theorem oF_X4_110 : (Cond.fieldLinkNest RX4 110 "OptionLine$FrameRow" "count" "I" "OptionLine") ∈ hOt := List.mem_filter.mpr ⟨List.mem_of_getElem? (i := 73) (by decide +kernel), rfl⟩
theorem qP_X3 : (Cond.superclass RX3 "java/lang/Object") ∈ gW := gW_mem 80 (by decide +kernel) (by decide +kernel)
theorem qA_int : (Cond.arrayClass .int) ∈ gW := gW_mem 81 (by decide +kernel) (by decide +kernel)
theorem qM_X1_51 : (Cond.methodLink RX1 51 yJ7_fill_53178) ∈ gW := gW_mem 82 (by decide +kernel) (by decide +kernel)
theorem qF_X1_9 : (Cond.fieldLink RX1 9 "OptionLine$End" "wishes" "[I") ∈ gW := gW_mem 85 (by decide +kernel) (by decide +kernel)
theorem qF_X1_15 : (Cond.fieldLink RX1 15 "OptionLine$End" "allowed" "[I") ∈ gW := gW_mem 86 (by decide +kernel) (by decide +kernel)
theorem qF_X1_18 : (Cond.fieldLink RX1 18 "OptionLine$End" "askedFor" "[I") ∈ gW := gW_mem 87 (by decide +kernel) (by decide +kernel)
theorem oF_X4_95 : (Cond.fieldLinkNest RX4 95 "OptionLine$End" "askedFor" "[I" "OptionLine") ∈ hOt := List.mem_filter.mpr ⟨List.mem_of_getElem? (i := 88) (by decide +kernel), rfl⟩
theorem qF_X1_24 : (Cond.fieldLink RX1 24 "OptionLine$End" "row" "LOptionLine$FrameRow;") ∈ gW := gW_mem 89 (by decide +kernel) (by decide +kernel)
theorem oF_X4_106 : (Cond.fieldLinkNest RX4 106 "OptionLine$End" "row" "LOptionLine$FrameRow;" "OptionLine") ∈ hOt := List.mem_filter.mpr ⟨List.mem_of_getElem? (i := 90) (by decide +kernel), rfl⟩
theorem qF_X1_48 : (Cond.fieldLink RX1 48 "OptionLine$End" "magic" "I") ∈ gW := gW_mem 91 (by decide +kernel) (by decide +kernel)
theorem qF_X1_28 : (Cond.fieldLink RX1 28 "OptionLine$End" "state" "I") ∈ gW := gW_mem 92 (by decide +kernel) (by decide +kernel)
theorem oF_X4_55 : (Cond.fieldLinkNest RX4 55 "OptionLine$End" "state" "I" "OptionLine") ∈ hOt := List.mem_filter.mpr ⟨List.mem_of_getElem? (i := 93) (by decide +kernel), rfl⟩
theorem qF_X1_32 : (Cond.fieldLink RX1 32 "OptionLine$End" "timer" "I") ∈ gW := gW_mem 94 (by decide +kernel) (by decide +kernel)
theorem qF_X1_35 : (Cond.fieldLink RX1 35 "OptionLine$End" "sentRequests" "I") ∈ gW := gW_mem 95 (by decide +kernel) (by decide +kernel)
theorem oF_X4_99 : (Cond.fieldLinkNest RX4 99 "OptionLine$End" "sentRequests" "I" "OptionLine") ∈ hOt := List.mem_filter.mpr ⟨List.mem_of_getElem? (i := 96) (by decide +kernel), rfl⟩
theorem qF_X1_38 : (Cond.fieldLink RX1 38 "OptionLine$End" "lastId" "I") ∈ gW := gW_mem 97 (by decide +kernel) (by decide +kernel)
theorem qF_X1_41 : (Cond.fieldLink RX1 41 "OptionLine$End" "looped" "Z") ∈ gW := gW_mem 98 (by decide +kernel) (by decide +kernel)
theorem oF_X4_102 : (Cond.fieldLinkNest RX4 102 "OptionLine$End" "looped" "Z" "OptionLine") ∈ hOt := List.mem_filter.mpr ⟨List.mem_of_getElem? (i := 99) (by decide +kernel), rfl⟩
theorem qF_X1_45 : (Cond.fieldLink RX1 45 "OptionLine$End" "missedFrames" "I") ∈ gW := gW_mem 100 (by decide +kernel) (by decide +kernel)
theorem oF_X4_86 : (Cond.fieldLinkNest RX4 86 "OptionLine$End" "missedFrames" "I" "OptionLine") ∈ hOt := List.mem_filter.mpr ⟨List.mem_of_getElem? (i := 101) (by decide +kernel), rfl⟩
theorem qP_X1 : (Cond.superclass RX1 "java/lang/Object") ∈ gW := gW_mem 124 (by decide +kernel) (by decide +kernel)
theorem qC_X4_21 : (Cond.classLink RX4 21 RX0) ∈ gW := gW_mem 125 (by decide +kernel) (by decide +kernel)
theorem qI_X0 : (Cond.instantiable RX0 9) ∈ gW := gW_mem 126 (by decide +kernel) (by decide +kernel)
theorem qM_X4_23 : (Cond.methodLink RX4 23 yX0_init) ∈ gW := gW_mem 127 (by decide +kernel) (by decide +kernel)
theorem qM_X0_3 : (Cond.methodLink RX0 3 objectInit) ∈ gW := gW_mem 130 (by decide +kernel) (by decide +kernel)
theorem qM_X0_41 : (Cond.methodLink RX0 41 yJ7_fill_53178) ∈ gW := gW_mem 131 (by decide +kernel) (by decide +kernel)
theorem qF_X0_9 : (Cond.fieldLink RX0 9 "OptionLine$Bundle" "starts" "[I") ∈ gW := gW_mem 132 (by decide +kernel) (by decide +kernel)
theorem qF_X0_15 : (Cond.fieldLink RX0 15 "OptionLine$Bundle" "packetOfPiece" "[I") ∈ gW := gW_mem 133 (by decide +kernel) (by decide +kernel)
theorem qF_X0_18 : (Cond.fieldLink RX0 18 "OptionLine$Bundle" "hasCome" "[Z") ∈ gW := gW_mem 134 (by decide +kernel) (by decide +kernel)
theorem qF_X0_22 : (Cond.fieldLink RX0 22 "OptionLine$Bundle" "firstOnLine" "[I") ∈ gW := gW_mem 135 (by decide +kernel) (by decide +kernel)
theorem qF_X0_25 : (Cond.fieldLink RX0 25 "OptionLine$Bundle" "lastOverLine" "[I") ∈ gW := gW_mem 136 (by decide +kernel) (by decide +kernel)
theorem qF_X0_28 : (Cond.fieldLink RX0 28 "OptionLine$Bundle" "givenPackets" "[I") ∈ gW := gW_mem 137 (by decide +kernel) (by decide +kernel)
theorem oF_X4_142 : (Cond.fieldLinkNest RX4 142 "OptionLine$Bundle" "givenPackets" "[I" "OptionLine") ∈ hOt := List.mem_filter.mpr ⟨List.mem_of_getElem? (i := 138) (by decide +kernel), rfl⟩
theorem qF_X0_31 : (Cond.fieldLink RX0 31 "OptionLine$Bundle" "packets" "I") ∈ gW := gW_mem 139 (by decide +kernel) (by decide +kernel)
theorem oF_X4_117 : (Cond.fieldLinkNest RX4 117 "OptionLine$Bundle" "packets" "I" "OptionLine") ∈ hOt := List.mem_filter.mpr ⟨List.mem_of_getElem? (i := 140) (by decide +kernel), rfl⟩
theorem qF_X0_35 : (Cond.fieldLink RX0 35 "OptionLine$Bundle" "givenCount" "I") ∈ gW := gW_mem 141 (by decide +kernel) (by decide +kernel)
theorem oF_X4_134 : (Cond.fieldLinkNest RX4 134 "OptionLine$Bundle" "givenCount" "I" "OptionLine") ∈ hOt := List.mem_filter.mpr ⟨List.mem_of_getElem? (i := 142) (by decide +kernel), rfl⟩
theorem qF_X0_38 : (Cond.fieldLink RX0 38 "OptionLine$Bundle" "nextNumber" "I") ∈ gW := gW_mem 143 (by decide +kernel) (by decide +kernel)
theorem oF_X4_145 : (Cond.fieldLinkNest RX4 145 "OptionLine$Bundle" "nextNumber" "I" "OptionLine") ∈ hOt := List.mem_filter.mpr ⟨List.mem_of_getElem? (i := 144) (by decide +kernel), rfl⟩
theorem qP_X0 : (Cond.superclass RX0 "java/lang/Object") ∈ gW := gW_mem 163 (by decide +kernel) (by decide +kernel)
theorem qA_boolean : (Cond.arrayClass .boolean) ∈ gW := gW_mem 164 (by decide +kernel) (by decide +kernel)
theorem qF_X4_12 : (Cond.fieldLink RX4 12 "OptionLine" "endZero" "LOptionLine$End;") ∈ gW := gW_mem 165 (by decide +kernel) (by decide +kernel)
theorem qF_X4_18 : (Cond.fieldLink RX4 18 "OptionLine" "endOne" "LOptionLine$End;") ∈ gW := gW_mem 166 (by decide +kernel) (by decide +kernel)
theorem qF_X4_24 : (Cond.fieldLink RX4 24 "OptionLine" "bundle" "LOptionLine$Bundle;") ∈ gW := gW_mem 167 (by decide +kernel) (by decide +kernel)
theorem qP_X4 : (Cond.superclass RX4 "java/lang/Object") ∈ gW := gW_mem 174 (by decide +kernel) (by decide +kernel)
theorem qM_L_143 : (Cond.methodLink RL 143 yX4_given) ∈ gW := gW_mem 175 (by decide +kernel) (by decide +kernel)
theorem qM_L_150 : (Cond.methodLink RL 150 yX4_next) ∈ gW := gW_mem 179 (by decide +kernel) (by decide +kernel)
theorem qM_L_80 : (Cond.methodLink RL 80 yL_wish) ∈ gW := gW_mem 183 (by decide +kernel) (by decide +kernel)
theorem qC_L_13 : (Cond.classLink RL 13 "java/lang/IndexOutOfBoundsException") ∈ gW := gW_mem 186 (by decide +kernel) (by decide +kernel)
theorem qC_L_15 : (Cond.classLink RL 15 "java/lang/IllegalArgumentException") ∈ gW := gW_mem 187 (by decide +kernel) (by decide +kernel)
theorem qM_L_7 : (Cond.methodLink RL 7 yX4_wish) ∈ gW := gW_mem 188 (by decide +kernel) (by decide +kernel)
theorem qM_X4_28 : (Cond.methodLink RX4 28 yX4_endAt) ∈ gW := gW_mem 192 (by decide +kernel) (by decide +kernel)
theorem qC_X4_137 : (Cond.classLink RX4 137 "java/lang/IndexOutOfBoundsException") ∈ gW := gW_mem 196 (by decide +kernel) (by decide +kernel)
theorem oC_eI : (Cond.castable "java/lang/IndexOutOfBoundsException" "java/lang/IndexOutOfBoundsException") ∈ hOt := List.mem_filter.mpr ⟨List.mem_of_getElem? (i := 198) (by decide +kernel), rfl⟩
theorem qV_fillInStackTrace : (Cond.native ⟨"java/lang/Throwable", "fillInStackTrace", "(I)Ljava/lang/Throwable;"⟩) ∈ gW := gW_mem 236 (by decide +kernel) (by decide +kernel)
theorem sR_X4_148 : (RX4, 148, "there is no such end") ∈ hStr := List.mem_filterMap.mpr ⟨Cond.stringRef RX4 148 "there is no such end", List.mem_of_getElem? (i := 237) (by decide +kernel), rfl⟩
theorem qM_X4_141 : (Cond.methodLink RX4 141 ⟨"java/lang/IndexOutOfBoundsException", "<init>", "(Ljava/lang/String;)V"⟩) ∈ gW := gW_mem 238 (by decide +kernel) (by decide +kernel)
theorem qA_byte : (Cond.arrayClass .byte) ∈ gW := gW_mem 263 (by decide +kernel) (by decide +kernel)
theorem qM_X4_32 : (Cond.methodLink RX4 32 yX4_refuseNoOption) ∈ gW := gW_mem 264 (by decide +kernel) (by decide +kernel)
theorem sR_X4_150 : (RX4, 150, "there is no such option") ∈ hStr := List.mem_filterMap.mpr ⟨Cond.stringRef RX4 150 "there is no such option", List.mem_of_getElem? (i := 267) (by decide +kernel), rfl⟩
theorem qC_X4_35 : (Cond.classLink RX4 35 "java/lang/IllegalArgumentException") ∈ gW := gW_mem 268 (by decide +kernel) (by decide +kernel)
theorem oC_eA : (Cond.castable "java/lang/IllegalArgumentException" "java/lang/IllegalArgumentException") ∈ hOt := List.mem_filter.mpr ⟨List.mem_of_getElem? (i := 270) (by decide +kernel), rfl⟩
theorem sR_X4_37 : (RX4, 37, "the value is not 0 to 9, nor NONE") ∈ hStr := List.mem_filterMap.mpr ⟨Cond.stringRef RX4 37 "the value is not 0 to 9, nor NONE", List.mem_of_getElem? (i := 277) (by decide +kernel), rfl⟩
theorem qM_X4_39 : (Cond.methodLink RX4 39 ⟨"java/lang/IllegalArgumentException", "<init>", "(Ljava/lang/String;)V"⟩) ∈ gW := gW_mem 278 (by decide +kernel) (by decide +kernel)
theorem qM_X4_42 : (Cond.methodLink RX4 42 yX1_changeWish) ∈ gW := gW_mem 284 (by decide +kernel) (by decide +kernel)
theorem qM_L_90 : (Cond.methodLink RL 90 yL_allow) ∈ gW := gW_mem 288 (by decide +kernel) (by decide +kernel)
theorem qM_L_17 : (Cond.methodLink RL 17 yX4_allow) ∈ gW := gW_mem 291 (by decide +kernel) (by decide +kernel)
theorem sR_X4_46 : (RX4, 46, "the set is not 0 to 1023") ∈ hStr := List.mem_filterMap.mpr ⟨Cond.stringRef RX4 46 "the set is not 0 to 1023", List.mem_of_getElem? (i := 295) (by decide +kernel), rfl⟩
theorem qM_X4_48 : (Cond.methodLink RX4 48 yX1_changeAllowed) ∈ gW := gW_mem 296 (by decide +kernel) (by decide +kernel)
theorem qM_L_93 : (Cond.methodLink RL 93 yL_setMagic) ∈ gW := gW_mem 300 (by decide +kernel) (by decide +kernel)
theorem qM_L_20 : (Cond.methodLink RL 20 yX4_setMagic) ∈ gW := gW_mem 303 (by decide +kernel) (by decide +kernel)
theorem qM_X4_51 : (Cond.methodLink RX4 51 yX1_changeMagic) ∈ gW := gW_mem 307 (by decide +kernel) (by decide +kernel)
theorem qM_L_97 : (Cond.methodLink RL 97 yL_open) ∈ gW := gW_mem 311 (by decide +kernel) (by decide +kernel)
theorem qC_L_28 : (Cond.classLink RL 28 "java/lang/IllegalStateException") ∈ gW := gW_mem 314 (by decide +kernel) (by decide +kernel)
theorem qM_L_24 : (Cond.methodLink RL 24 yX4_open) ∈ gW := gW_mem 315 (by decide +kernel) (by decide +kernel)
theorem qC_X4_59 : (Cond.classLink RX4 59 "java/lang/IllegalStateException") ∈ gW := gW_mem 319 (by decide +kernel) (by decide +kernel)
theorem oC_eS : (Cond.castable "java/lang/IllegalStateException" "java/lang/IllegalStateException") ∈ hOt := List.mem_filter.mpr ⟨List.mem_of_getElem? (i := 321) (by decide +kernel), rfl⟩
theorem sR_X4_61 : (RX4, 61, "the end is not closed") ∈ hStr := List.mem_filterMap.mpr ⟨Cond.stringRef RX4 61 "the end is not closed", List.mem_of_getElem? (i := 328) (by decide +kernel), rfl⟩
theorem qM_X4_63 : (Cond.methodLink RX4 63 ⟨"java/lang/IllegalStateException", "<init>", "(Ljava/lang/String;)V"⟩) ∈ gW := gW_mem 329 (by decide +kernel) (by decide +kernel)
theorem qM_X4_64 : (Cond.methodLink RX4 64 yX1_begin) ∈ gW := gW_mem 335 (by decide +kernel) (by decide +kernel)
theorem qM_X1_57 : (Cond.methodLink RX1 57 ⟨"java/lang/System", "arraycopy", "(Ljava/lang/Object;ILjava/lang/Object;II)V"⟩) ∈ gW := gW_mem 339 (by decide +kernel) (by decide +kernel)
theorem qV_arraycopy : (Cond.native arraycopyName) ∈ gW := gW_mem 341 (by decide +kernel) (by decide +kernel)
theorem qM_X1_63 : (Cond.methodLink RX1 63 yX1_ask) ∈ gW := gW_mem 342 (by decide +kernel) (by decide +kernel)
theorem qC_X1_71 : (Cond.classLink RX1 71 RX2) ∈ gW := gW_mem 346 (by decide +kernel) (by decide +kernel)
theorem qI_X2 : (Cond.instantiable RX2 5) ∈ gW := gW_mem 347 (by decide +kernel) (by decide +kernel)
theorem qM_X1_95 : (Cond.methodLink RX1 95 yJ7_copyOf_59c91) ∈ gW := gW_mem 348 (by decide +kernel) (by decide +kernel)
theorem qM_J7_316 : (Cond.methodLink RJ7 316 ⟨"[I", "clone", "()Ljava/lang/Object;"⟩) ∈ gW := gW_mem 351 (by decide +kernel) (by decide +kernel)
theorem qV_clone : (Cond.native ⟨"java/lang/Object", "clone", "()Ljava/lang/Object;"⟩) ∈ gW := gW_mem 353 (by decide +kernel) (by decide +kernel)
theorem oC_arr : (Cond.castable "[I" "java/lang/Cloneable") ∈ hOt := List.mem_filter.mpr ⟨List.mem_of_getElem? (i := 356) (by decide +kernel), rfl⟩
theorem qC_J7_317 : (Cond.classLink RJ7 317 "[I") ∈ gW := gW_mem 357 (by decide +kernel) (by decide +kernel)
theorem qM_J7_304 : (Cond.methodLink RJ7 304 yJ9_min_7cf53) ∈ gW := gW_mem 358 (by decide +kernel) (by decide +kernel)
theorem qM_J7_150 : (Cond.methodLink RJ7 150 ⟨"java/lang/System", "arraycopy", "(Ljava/lang/Object;ILjava/lang/Object;II)V"⟩) ∈ gW := gW_mem 361 (by decide +kernel) (by decide +kernel)
theorem qM_X1_99 : (Cond.methodLink RX1 99 yX2_init) ∈ gW := gW_mem 362 (by decide +kernel) (by decide +kernel)
theorem qM_X2_1 : (Cond.methodLink RX2 1 objectInit) ∈ gW := gW_mem 365 (by decide +kernel) (by decide +kernel)
theorem qF_X2_7 : (Cond.fieldLink RX2 7 "OptionLine$Frame" "kind" "I") ∈ gW := gW_mem 366 (by decide +kernel) (by decide +kernel)
theorem qF_X4_81 : (Cond.fieldLink RX4 81 "OptionLine$Frame" "kind" "I") ∈ gW := gW_mem 367 (by decide +kernel) (by decide +kernel)
theorem qF_X1_70 : (Cond.fieldLink RX1 70 "OptionLine$Frame" "kind" "I") ∈ gW := gW_mem 368 (by decide +kernel) (by decide +kernel)
theorem qF_X2_13 : (Cond.fieldLink RX2 13 "OptionLine$Frame" "id" "I") ∈ gW := gW_mem 369 (by decide +kernel) (by decide +kernel)
theorem qF_X1_86 : (Cond.fieldLink RX1 86 "OptionLine$Frame" "id" "I") ∈ gW := gW_mem 370 (by decide +kernel) (by decide +kernel)
theorem qF_X2_16 : (Cond.fieldLink RX2 16 "OptionLine$Frame" "magic" "I") ∈ gW := gW_mem 371 (by decide +kernel) (by decide +kernel)
theorem qF_X1_82 : (Cond.fieldLink RX1 82 "OptionLine$Frame" "magic" "I") ∈ gW := gW_mem 372 (by decide +kernel) (by decide +kernel)
theorem qF_X2_19 : (Cond.fieldLink RX2 19 "OptionLine$Frame" "values" "[I") ∈ gW := gW_mem 373 (by decide +kernel) (by decide +kernel)
theorem qF_X1_92 : (Cond.fieldLink RX1 92 "OptionLine$Frame" "values" "[I") ∈ gW := gW_mem 374 (by decide +kernel) (by decide +kernel)
theorem qF_X3_22 : (Cond.fieldLink RX3 22 "OptionLine$Frame" "behind" "LOptionLine$Frame;") ∈ gW := gW_mem 375 (by decide +kernel) (by decide +kernel)
theorem qP_X2 : (Cond.superclass RX2 "java/lang/Object") ∈ gW := gW_mem 386 (by decide +kernel) (by decide +kernel)
theorem qM_X1_102 : (Cond.methodLink RX1 102 yX3_put) ∈ gW := gW_mem 387 (by decide +kernel) (by decide +kernel)
theorem qM_L_101 : (Cond.methodLink RL 101 yL_close) ∈ gW := gW_mem 391 (by decide +kernel) (by decide +kernel)
theorem qM_L_30 : (Cond.methodLink RL 30 yX4_close) ∈ gW := gW_mem 394 (by decide +kernel) (by decide +kernel)
theorem sR_X4_68 : (RX4, 68, "the end is closed") ∈ hStr := List.mem_filterMap.mpr ⟨Cond.stringRef RX4 68 "the end is closed", List.mem_of_getElem? (i := 398) (by decide +kernel), rfl⟩
theorem qM_X4_70 : (Cond.methodLink RX4 70 yX1_finish) ∈ gW := gW_mem 399 (by decide +kernel) (by decide +kernel)
theorem qM_X1_67 : (Cond.methodLink RX1 67 yX1_sendStop) ∈ gW := gW_mem 403 (by decide +kernel) (by decide +kernel)
theorem qM_X1_105 : (Cond.methodLink RX1 105 yX1_tellNothing) ∈ gW := gW_mem 407 (by decide +kernel) (by decide +kernel)
theorem qM_L_104 : (Cond.methodLink RL 104 yL_deliver) ∈ gW := gW_mem 410 (by decide +kernel) (by decide +kernel)
theorem qM_L_33 : (Cond.methodLink RL 33 yX4_deliver) ∈ gW := gW_mem 413 (by decide +kernel) (by decide +kernel)
theorem qM_X4_73 : (Cond.methodLink RX4 73 yX4_takeFrame) ∈ gW := gW_mem 417 (by decide +kernel) (by decide +kernel)
theorem qM_X4_152 : (Cond.methodLink RX4 152 yX3_takeFirst) ∈ gW := gW_mem 420 (by decide +kernel) (by decide +kernel)
theorem sR_X4_156 : (RX4, 156, "no frame of the end is under way") ∈ hStr := List.mem_filterMap.mpr ⟨Cond.stringRef RX4 156 "no frame of the end is under way", List.mem_of_getElem? (i := 424) (by decide +kernel), rfl⟩
theorem qM_X4_77 : (Cond.methodLink RX4 77 yX1_hear) ∈ gW := gW_mem 425 (by decide +kernel) (by decide +kernel)
theorem qM_X1_75 : (Cond.methodLink RX1 75 yX1_hearRequest) ∈ gW := gW_mem 429 (by decide +kernel) (by decide +kernel)
theorem qM_X1_83 : (Cond.methodLink RX1 83 yX1_answer) ∈ gW := gW_mem 433 (by decide +kernel) (by decide +kernel)
theorem qM_X1_109 : (Cond.methodLink RX1 109 yX1_kindOfAnswer) ∈ gW := gW_mem 437 (by decide +kernel) (by decide +kernel)
theorem qM_X1_117 : (Cond.methodLink RX1 117 yX1_isUnknown) ∈ gW := gW_mem 441 (by decide +kernel) (by decide +kernel)
theorem qM_X1_121 : (Cond.methodLink RX1 121 yX1_isRefused) ∈ gW := gW_mem 445 (by decide +kernel) (by decide +kernel)
theorem qM_X1_128 : (Cond.methodLink RX1 128 yX1_allows) ∈ gW := gW_mem 449 (by decide +kernel) (by decide +kernel)
theorem qM_X1_113 : (Cond.methodLink RX1 113 yX1_toldOptions) ∈ gW := gW_mem 453 (by decide +kernel) (by decide +kernel)
theorem qM_X1_124 : (Cond.methodLink RX1 124 yX1_lowestAllowed) ∈ gW := gW_mem 457 (by decide +kernel) (by decide +kernel)
theorem qM_X1_79 : (Cond.methodLink RX1 79 yX1_hearAnswer) ∈ gW := gW_mem 461 (by decide +kernel) (by decide +kernel)
theorem qM_X1_89 : (Cond.methodLink RX1 89 yX1_changeAskedFor) ∈ gW := gW_mem 465 (by decide +kernel) (by decide +kernel)
theorem qM_L_107 : (Cond.methodLink RL 107 yL_lose) ∈ gW := gW_mem 469 (by decide +kernel) (by decide +kernel)
theorem qM_L_36 : (Cond.methodLink RL 36 yX4_lose) ∈ gW := gW_mem 472 (by decide +kernel) (by decide +kernel)
theorem qM_L_110 : (Cond.methodLink RL 110 yL_loop) ∈ gW := gW_mem 476 (by decide +kernel) (by decide +kernel)
theorem qM_L_39 : (Cond.methodLink RL 39 yX4_loop) ∈ gW := gW_mem 479 (by decide +kernel) (by decide +kernel)
theorem qM_L_113 : (Cond.methodLink RL 113 yL_pass) ∈ gW := gW_mem 483 (by decide +kernel) (by decide +kernel)
theorem qM_L_42 : (Cond.methodLink RL 42 yX4_pass) ∈ gW := gW_mem 486 (by decide +kernel) (by decide +kernel)
theorem sR_X4_89 : (RX4, 89, "the ticks are not 1 to 50") ∈ hStr := List.mem_filterMap.mpr ⟨Cond.stringRef RX4 89 "the ticks are not 1 to 50", List.mem_of_getElem? (i := 490) (by decide +kernel), rfl⟩
theorem qM_X4_91 : (Cond.methodLink RX4 91 yX1_tick) ∈ gW := gW_mem 491 (by decide +kernel) (by decide +kernel)
theorem qM_L_116 : (Cond.methodLink RL 116 yL_stateOf) ∈ gW := gW_mem 495 (by decide +kernel) (by decide +kernel)
theorem qM_L_45 : (Cond.methodLink RL 45 yX4_stateOf) ∈ gW := gW_mem 498 (by decide +kernel) (by decide +kernel)
theorem qM_L_119 : (Cond.methodLink RL 119 yL_asked) ∈ gW := gW_mem 502 (by decide +kernel) (by decide +kernel)
theorem qM_L_48 : (Cond.methodLink RL 48 yX4_asked) ∈ gW := gW_mem 505 (by decide +kernel) (by decide +kernel)
theorem qM_L_122 : (Cond.methodLink RL 122 yL_requests) ∈ gW := gW_mem 509 (by decide +kernel) (by decide +kernel)
theorem qM_L_51 : (Cond.methodLink RL 51 yX4_requests) ∈ gW := gW_mem 512 (by decide +kernel) (by decide +kernel)
theorem qM_L_125 : (Cond.methodLink RL 125 yL_isLooped) ∈ gW := gW_mem 516 (by decide +kernel) (by decide +kernel)
theorem qM_L_54 : (Cond.methodLink RL 54 yX4_isLooped) ∈ gW := gW_mem 519 (by decide +kernel) (by decide +kernel)
theorem qM_L_128 : (Cond.methodLink RL 128 yL_underWay) ∈ gW := gW_mem 523 (by decide +kernel) (by decide +kernel)
theorem qM_L_58 : (Cond.methodLink RL 58 yX4_underWay) ∈ gW := gW_mem 526 (by decide +kernel) (by decide +kernel)
theorem qM_L_131 : (Cond.methodLink RL 131 yL_missed) ∈ gW := gW_mem 530 (by decide +kernel) (by decide +kernel)
theorem qM_L_61 : (Cond.methodLink RL 61 yX4_missed) ∈ gW := gW_mem 533 (by decide +kernel) (by decide +kernel)
theorem qM_L_134 : (Cond.methodLink RL 134 yL_send) ∈ gW := gW_mem 537 (by decide +kernel) (by decide +kernel)
theorem qM_L_64 : (Cond.methodLink RL 64 yX4_send) ∈ gW := gW_mem 540 (by decide +kernel) (by decide +kernel)
theorem sR_X4_115 : (RX4, 115, "the pieces are not 1 to 4") ∈ hStr := List.mem_filterMap.mpr ⟨Cond.stringRef RX4 115 "the pieces are not 1 to 4", List.mem_of_getElem? (i := 544) (by decide +kernel), rfl⟩
theorem sR_X4_120 : (RX4, 120, "there are 60 packets") ∈ hStr := List.mem_filterMap.mpr ⟨Cond.stringRef RX4 120 "there are 60 packets", List.mem_of_getElem? (i := 545) (by decide +kernel), rfl⟩
theorem qM_X4_122 : (Cond.methodLink RX4 122 yX0_addPacket) ∈ gW := gW_mem 546 (by decide +kernel) (by decide +kernel)
theorem qM_L_137 : (Cond.methodLink RL 137 yL_come) ∈ gW := gW_mem 550 (by decide +kernel) (by decide +kernel)
theorem qM_L_67 : (Cond.methodLink RL 67 yX4_come) ∈ gW := gW_mem 553 (by decide +kernel) (by decide +kernel)
theorem qM_X4_125 : (Cond.methodLink RX4 125 yX4_refuseEmptyLine) ∈ gW := gW_mem 557 (by decide +kernel) (by decide +kernel)
theorem sR_X4_158 : (RX4, 158, "there is no such line") ∈ hStr := List.mem_filterMap.mpr ⟨Cond.stringRef RX4 158 "there is no such line", List.mem_of_getElem? (i := 561) (by decide +kernel), rfl⟩
theorem qM_X4_160 : (Cond.methodLink RX4 160 yX0_hasPieceOn) ∈ gW := gW_mem 562 (by decide +kernel) (by decide +kernel)
theorem sR_X4_164 : (RX4, 164, "no piece is under way on the line") ∈ hStr := List.mem_filterMap.mpr ⟨Cond.stringRef RX4 164 "no piece is under way on the line", List.mem_of_getElem? (i := 566) (by decide +kernel), rfl⟩
theorem qM_X4_128 : (Cond.methodLink RX4 128 yX0_bring) ∈ gW := gW_mem 567 (by decide +kernel) (by decide +kernel)
theorem qM_X0_47 : (Cond.methodLink RX0 47 yX0_takePiece) ∈ gW := gW_mem 571 (by decide +kernel) (by decide +kernel)
theorem qM_X0_51 : (Cond.methodLink RX0 51 yX0_advance) ∈ gW := gW_mem 575 (by decide +kernel) (by decide +kernel)
theorem qM_X0_55 : (Cond.methodLink RX0 55 yX0_advanceFromFirst) ∈ gW := gW_mem 579 (by decide +kernel) (by decide +kernel)
theorem qM_X0_63 : (Cond.methodLink RX0 63 yX0_firstNotCome) ∈ gW := gW_mem 583 (by decide +kernel) (by decide +kernel)
theorem qM_X0_66 : (Cond.methodLink RX0 66 yX0_give) ∈ gW := gW_mem 587 (by decide +kernel) (by decide +kernel)
theorem qM_X0_59 : (Cond.methodLink RX0 59 yX0_bound) ∈ gW := gW_mem 591 (by decide +kernel) (by decide +kernel)
theorem qM_X0_70 : (Cond.methodLink RX0 70 yJ9_min_7cf53) ∈ gW := gW_mem 595 (by decide +kernel) (by decide +kernel)
theorem qM_L_140 : (Cond.methodLink RL 140 yL_drop) ∈ gW := gW_mem 596 (by decide +kernel) (by decide +kernel)
theorem qM_L_70 : (Cond.methodLink RL 70 yX4_drop) ∈ gW := gW_mem 599 (by decide +kernel) (by decide +kernel)
theorem qM_X4_131 : (Cond.methodLink RX4 131 yX0_takePiece) ∈ gW := gW_mem 603 (by decide +kernel) (by decide +kernel)
theorem qM_L_147 : (Cond.methodLink RL 147 yL_givenAt) ∈ gW := gW_mem 604 (by decide +kernel) (by decide +kernel)
theorem qM_L_73 : (Cond.methodLink RL 73 yX4_givenAt) ∈ gW := gW_mem 607 (by decide +kernel) (by decide +kernel)
theorem sR_X4_139 : (RX4, 139, "not so many packets were given") ∈ hStr := List.mem_filterMap.mpr ⟨Cond.stringRef RX4 139 "not so many packets were given", List.mem_of_getElem? (i := 611) (by decide +kernel), rfl⟩
theorem qC_L_77 : (Cond.classLink RL 77 RX5) ∈ gW := gW_mem 612 (by decide +kernel) (by decide +kernel)
theorem qI_X5 : (Cond.instantiable RX5 27) ∈ gW := gW_mem 613 (by decide +kernel) (by decide +kernel)
theorem qM_L_79 : (Cond.methodLink RL 79 yX5_init) ∈ gW := gW_mem 614 (by decide +kernel) (by decide +kernel)
theorem qM_X5_1 : (Cond.methodLink RX5 1 objectInit) ∈ gW := gW_mem 617 (by decide +kernel) (by decide +kernel)
theorem qF_X5_77 : (Cond.fieldLink RX5 77 "OptionLineModel" "thrown" "I") ∈ gW := gW_mem 618 (by decide +kernel) (by decide +kernel)
theorem qF_X5_9 : (Cond.fieldLink RX5 9 "OptionLineModel" "wishes" "[I") ∈ gW := gW_mem 619 (by decide +kernel) (by decide +kernel)
theorem qF_X5_13 : (Cond.fieldLink RX5 13 "OptionLineModel" "allowed" "[I") ∈ gW := gW_mem 620 (by decide +kernel) (by decide +kernel)
theorem qF_X5_16 : (Cond.fieldLink RX5 16 "OptionLineModel" "asks" "[I") ∈ gW := gW_mem 621 (by decide +kernel) (by decide +kernel)
theorem qF_X5_19 : (Cond.fieldLink RX5 19 "OptionLineModel" "magic" "[I") ∈ gW := gW_mem 622 (by decide +kernel) (by decide +kernel)
theorem qF_X5_22 : (Cond.fieldLink RX5 22 "OptionLineModel" "state" "[I") ∈ gW := gW_mem 623 (by decide +kernel) (by decide +kernel)
theorem qF_X5_25 : (Cond.fieldLink RX5 25 "OptionLineModel" "lastId" "[I") ∈ gW := gW_mem 624 (by decide +kernel) (by decide +kernel)
theorem qF_X5_28 : (Cond.fieldLink RX5 28 "OptionLineModel" "requests" "[I") ∈ gW := gW_mem 625 (by decide +kernel) (by decide +kernel)
theorem qF_X5_31 : (Cond.fieldLink RX5 31 "OptionLineModel" "timer" "[I") ∈ gW := gW_mem 626 (by decide +kernel) (by decide +kernel)
theorem qF_X5_34 : (Cond.fieldLink RX5 34 "OptionLineModel" "isLooped" "[Z") ∈ gW := gW_mem 627 (by decide +kernel) (by decide +kernel)
theorem qF_X5_38 : (Cond.fieldLink RX5 38 "OptionLineModel" "missed" "[I") ∈ gW := gW_mem 628 (by decide +kernel) (by decide +kernel)
theorem qF_X5_41 : (Cond.fieldLink RX5 41 "OptionLineModel" "head" "[I") ∈ gW := gW_mem 629 (by decide +kernel) (by decide +kernel)
theorem qF_X5_44 : (Cond.fieldLink RX5 44 "OptionLineModel" "many" "[I") ∈ gW := gW_mem 630 (by decide +kernel) (by decide +kernel)
theorem qF_X5_47 : (Cond.fieldLink RX5 47 "OptionLineModel" "kind" "[I") ∈ gW := gW_mem 631 (by decide +kernel) (by decide +kernel)
theorem qF_X5_50 : (Cond.fieldLink RX5 50 "OptionLineModel" "id" "[I") ∈ gW := gW_mem 632 (by decide +kernel) (by decide +kernel)
theorem qF_X5_53 : (Cond.fieldLink RX5 53 "OptionLineModel" "number" "[I") ∈ gW := gW_mem 633 (by decide +kernel) (by decide +kernel)
theorem qF_X5_56 : (Cond.fieldLink RX5 56 "OptionLineModel" "told" "[I") ∈ gW := gW_mem 634 (by decide +kernel) (by decide +kernel)
theorem qF_X5_136 : (Cond.fieldLink RX5 136 "OptionLineModel" "packets" "I") ∈ gW := gW_mem 635 (by decide +kernel) (by decide +kernel)
theorem qF_X5_139 : (Cond.fieldLink RX5 139 "OptionLineModel" "pieces" "I") ∈ gW := gW_mem 636 (by decide +kernel) (by decide +kernel)
theorem qF_X5_59 : (Cond.fieldLink RX5 59 "OptionLineModel" "firstOf" "[I") ∈ gW := gW_mem 637 (by decide +kernel) (by decide +kernel)
theorem qF_X5_62 : (Cond.fieldLink RX5 62 "OptionLineModel" "packetOf" "[I") ∈ gW := gW_mem 638 (by decide +kernel) (by decide +kernel)
theorem qF_X5_65 : (Cond.fieldLink RX5 65 "OptionLineModel" "isHere" "[Z") ∈ gW := gW_mem 639 (by decide +kernel) (by decide +kernel)
theorem qF_X5_68 : (Cond.fieldLink RX5 68 "OptionLineModel" "onLine" "[I") ∈ gW := gW_mem 640 (by decide +kernel) (by decide +kernel)
theorem qF_X5_71 : (Cond.fieldLink RX5 71 "OptionLineModel" "latest" "[I") ∈ gW := gW_mem 641 (by decide +kernel) (by decide +kernel)
theorem qF_X5_142 : (Cond.fieldLink RX5 142 "OptionLineModel" "next" "I") ∈ gW := gW_mem 642 (by decide +kernel) (by decide +kernel)
theorem qF_X5_152 : (Cond.fieldLink RX5 152 "OptionLineModel" "given" "I") ∈ gW := gW_mem 643 (by decide +kernel) (by decide +kernel)
theorem qF_X5_74 : (Cond.fieldLink RX5 74 "OptionLineModel" "row" "[I") ∈ gW := gW_mem 644 (by decide +kernel) (by decide +kernel)
theorem qP_X5 : (Cond.superclass RX5 "java/lang/Object") ∈ gW := gW_mem 699 (by decide +kernel) (by decide +kernel)
theorem qM_L_86 : (Cond.methodLink RL 86 yX5_thrown) ∈ gW := gW_mem 700 (by decide +kernel) (by decide +kernel)
theorem qM_L_85 : (Cond.methodLink RL 85 yX5_wish) ∈ gW := gW_mem 704 (by decide +kernel) (by decide +kernel)
theorem qM_X5_85 : (Cond.methodLink RX5 85 yX5_isEnd) ∈ gW := gW_mem 708 (by decide +kernel) (by decide +kernel)
theorem qM_X5_81 : (Cond.methodLink RX5 81 yX5_in) ∈ gW := gW_mem 711 (by decide +kernel) (by decide +kernel)
theorem qM_X5_89 : (Cond.methodLink RX5 89 yX5_isOption) ∈ gW := gW_mem 714 (by decide +kernel) (by decide +kernel)
theorem qM_L_92 : (Cond.methodLink RL 92 yX5_allow) ∈ gW := gW_mem 717 (by decide +kernel) (by decide +kernel)
theorem qM_L_96 : (Cond.methodLink RL 96 yX5_setMagic) ∈ gW := gW_mem 721 (by decide +kernel) (by decide +kernel)
theorem qM_L_100 : (Cond.methodLink RL 100 yX5_open) ∈ gW := gW_mem 725 (by decide +kernel) (by decide +kernel)
theorem qM_X5_107 : (Cond.methodLink RX5 107 yX5_begs) ∈ gW := gW_mem 729 (by decide +kernel) (by decide +kernel)
theorem qM_X5_92 : (Cond.methodLink RX5 92 yX5_place) ∈ gW := gW_mem 733 (by decide +kernel) (by decide +kernel)
theorem qM_X5_96 : (Cond.methodLink RX5 96 yX5_sends) ∈ gW := gW_mem 736 (by decide +kernel) (by decide +kernel)
theorem qM_L_103 : (Cond.methodLink RL 103 yX5_close) ∈ gW := gW_mem 740 (by decide +kernel) (by decide +kernel)
theorem qM_L_106 : (Cond.methodLink RL 106 yX5_deliver) ∈ gW := gW_mem 744 (by decide +kernel) (by decide +kernel)
theorem qM_X5_120 : (Cond.methodLink RX5 120 yX5_asksFrame) ∈ gW := gW_mem 748 (by decide +kernel) (by decide +kernel)
theorem qM_X5_123 : (Cond.methodLink RX5 123 yX5_takes) ∈ gW := gW_mem 752 (by decide +kernel) (by decide +kernel)
theorem qM_X5_126 : (Cond.methodLink RX5 126 yX5_comes) ∈ gW := gW_mem 756 (by decide +kernel) (by decide +kernel)
theorem qM_X5_114 : (Cond.methodLink RX5 114 yX5_comesRequest) ∈ gW := gW_mem 760 (by decide +kernel) (by decide +kernel)
theorem qM_X5_110 : (Cond.methodLink RX5 110 yX5_answers) ∈ gW := gW_mem 764 (by decide +kernel) (by decide +kernel)
theorem qM_X5_100 : (Cond.methodLink RX5 100 yX5_valueIn) ∈ gW := gW_mem 768 (by decide +kernel) (by decide +kernel)
theorem qM_X5_104 : (Cond.methodLink RX5 104 yX5_lowest) ∈ gW := gW_mem 771 (by decide +kernel) (by decide +kernel)
theorem qM_X5_117 : (Cond.methodLink RX5 117 yX5_comesAnswer) ∈ gW := gW_mem 774 (by decide +kernel) (by decide +kernel)
theorem qM_L_109 : (Cond.methodLink RL 109 yX5_lose) ∈ gW := gW_mem 778 (by decide +kernel) (by decide +kernel)
theorem qM_L_112 : (Cond.methodLink RL 112 yX5_loop) ∈ gW := gW_mem 782 (by decide +kernel) (by decide +kernel)
theorem qM_L_115 : (Cond.methodLink RL 115 yX5_pass) ∈ gW := gW_mem 786 (by decide +kernel) (by decide +kernel)
theorem qM_X5_130 : (Cond.methodLink RX5 130 yX5_goesBy) ∈ gW := gW_mem 790 (by decide +kernel) (by decide +kernel)
theorem qM_L_118 : (Cond.methodLink RL 118 yX5_stateOf) ∈ gW := gW_mem 794 (by decide +kernel) (by decide +kernel)
theorem qM_X5_133 : (Cond.methodLink RX5 133 yX5_asksEnd) ∈ gW := gW_mem 798 (by decide +kernel) (by decide +kernel)
theorem qM_L_121 : (Cond.methodLink RL 121 yX5_asked) ∈ gW := gW_mem 802 (by decide +kernel) (by decide +kernel)
theorem qM_L_124 : (Cond.methodLink RL 124 yX5_requests) ∈ gW := gW_mem 806 (by decide +kernel) (by decide +kernel)
theorem qM_L_127 : (Cond.methodLink RL 127 yX5_isLooped) ∈ gW := gW_mem 810 (by decide +kernel) (by decide +kernel)
theorem qM_L_130 : (Cond.methodLink RL 130 yX5_underWay) ∈ gW := gW_mem 814 (by decide +kernel) (by decide +kernel)
theorem qM_L_133 : (Cond.methodLink RL 133 yX5_missed) ∈ gW := gW_mem 818 (by decide +kernel) (by decide +kernel)
theorem qM_L_136 : (Cond.methodLink RL 136 yX5_send) ∈ gW := gW_mem 822 (by decide +kernel) (by decide +kernel)
theorem qM_L_139 : (Cond.methodLink RL 139 yX5_come) ∈ gW := gW_mem 826 (by decide +kernel) (by decide +kernel)
theorem qM_X5_155 : (Cond.methodLink RX5 155 yX5_asksLine) ∈ gW := gW_mem 830 (by decide +kernel) (by decide +kernel)
theorem qM_X5_158 : (Cond.methodLink RX5 158 yX5_goesOn) ∈ gW := gW_mem 834 (by decide +kernel) (by decide +kernel)
theorem qM_X5_145 : (Cond.methodLink RX5 145 yX5_bound) ∈ gW := gW_mem 838 (by decide +kernel) (by decide +kernel)
theorem qM_X5_149 : (Cond.methodLink RX5 149 yX5_missing) ∈ gW := gW_mem 842 (by decide +kernel) (by decide +kernel)
theorem qM_L_142 : (Cond.methodLink RL 142 yX5_drop) ∈ gW := gW_mem 846 (by decide +kernel) (by decide +kernel)
theorem qM_L_146 : (Cond.methodLink RL 146 yX5_given) ∈ gW := gW_mem 850 (by decide +kernel) (by decide +kernel)
theorem qM_L_149 : (Cond.methodLink RL 149 yX5_givenAt) ∈ gW := gW_mem 854 (by decide +kernel) (by decide +kernel)
theorem qM_L_153 : (Cond.methodLink RL 153 yX5_next) ∈ gW := gW_mem 858 (by decide +kernel) (by decide +kernel)
theorem qA_long : (Cond.arrayClass .long) ∈ gW := gW_mem 862 (by decide +kernel) (by decide +kernel)
theorem qi_obj : (Cond.instanceMethod objectInit) ∈ gW := gW_mem 56 (by decide +kernel) (by decide +kernel)
theorem qc_obj : (Cond.code objectInit ⟨#[0xb1]⟩ 1 none) ∈ gW := gW_mem 57 (by decide +kernel) (by decide +kernel)
theorem qs_arraycopy : (Cond.static arraycopyName) ∈ gW := gW_mem 340 (by decide +kernel) (by decide +kernel)
theorem qi_clone : (Cond.instanceMethod ⟨"java/lang/Object", "clone", "()Ljava/lang/Object;"⟩) ∈ gW := gW_mem 354 (by decide +kernel) (by decide +kernel)
theorem ql_clone : (Cond.selects "[I" ⟨"[I", "clone", "()Ljava/lang/Object;"⟩ ⟨"java/lang/Object", "clone", "()Ljava/lang/Object;"⟩) ∈ gW := gW_mem 355 (by decide +kernel) (by decide +kernel)
theorem qm_clone : (Cond.sameMethod "[I" "java/lang/Object" "clone" "()Ljava/lang/Object;") ∈ gW := gW_mem 352 (by decide +kernel) (by decide +kernel)
theorem qc_X0_init : (Cond.code yX0_init cX0_init 2 none) ∈ gW := gW_mem 129 (by decide +kernel) (by decide +kernel)
theorem qi_X0_init : (Cond.instanceMethod yX0_init) ∈ gW := gW_mem 128 (by decide +kernel) (by decide +kernel)
theorem mI_X0_init : hMI yX0_init cX0_init 2 0 := ⟨qc_X0_init, qi_X0_init, qN_X0, rfl, ⟨by decide, by decide⟩, by decide +kernel⟩
theorem qc_X0_addPacket : (Cond.code yX0_addPacket cX0_addPacket 4 (some .int)) ∈ gW := gW_mem 549 (by decide +kernel) (by decide +kernel)
theorem qi_X0_addPacket : (Cond.instanceMethod yX0_addPacket) ∈ gW := gW_mem 547 (by decide +kernel) (by decide +kernel)
theorem ql_X0_addPacket : (Cond.selects yX0_addPacket.cls yX0_addPacket yX0_addPacket) ∈ gW := gW_mem 548 (by decide +kernel) (by decide +kernel)
theorem mV_X0_addPacket : hMV yX0_addPacket cX0_addPacket 4 (some .int) 1 := ⟨qc_X0_addPacket, qi_X0_addPacket, ql_X0_addPacket, qN_X0, ⟨by decide, by decide⟩, by decide +kernel⟩
theorem qc_X0_hasPieceOn : (Cond.code yX0_hasPieceOn cX0_hasPieceOn 2 (some .boolean)) ∈ gW := gW_mem 565 (by decide +kernel) (by decide +kernel)
theorem qi_X0_hasPieceOn : (Cond.instanceMethod yX0_hasPieceOn) ∈ gW := gW_mem 563 (by decide +kernel) (by decide +kernel)
theorem ql_X0_hasPieceOn : (Cond.selects yX0_hasPieceOn.cls yX0_hasPieceOn yX0_hasPieceOn) ∈ gW := gW_mem 564 (by decide +kernel) (by decide +kernel)
theorem mV_X0_hasPieceOn : hMV yX0_hasPieceOn cX0_hasPieceOn 2 (some .boolean) 1 := ⟨qc_X0_hasPieceOn, qi_X0_hasPieceOn, ql_X0_hasPieceOn, qN_X0, ⟨by decide, by decide⟩, by decide +kernel⟩
theorem qc_X0_takePiece : (Cond.code yX0_takePiece cX0_takePiece 3 (some .int)) ∈ gW := gW_mem 574 (by decide +kernel) (by decide +kernel)
theorem qi_X0_takePiece : (Cond.instanceMethod yX0_takePiece) ∈ gW := gW_mem 572 (by decide +kernel) (by decide +kernel)
theorem ql_X0_takePiece : (Cond.selects yX0_takePiece.cls yX0_takePiece yX0_takePiece) ∈ gW := gW_mem 573 (by decide +kernel) (by decide +kernel)
theorem mV_X0_takePiece : hMV yX0_takePiece cX0_takePiece 3 (some .int) 1 := ⟨qc_X0_takePiece, qi_X0_takePiece, ql_X0_takePiece, qN_X0, ⟨by decide, by decide⟩, by decide +kernel⟩
theorem qc_X0_bring : (Cond.code yX0_bring cX0_bring 5 (some .int)) ∈ gW := gW_mem 570 (by decide +kernel) (by decide +kernel)
theorem qi_X0_bring : (Cond.instanceMethod yX0_bring) ∈ gW := gW_mem 568 (by decide +kernel) (by decide +kernel)
theorem ql_X0_bring : (Cond.selects yX0_bring.cls yX0_bring yX0_bring) ∈ gW := gW_mem 569 (by decide +kernel) (by decide +kernel)
theorem mV_X0_bring : hMV yX0_bring cX0_bring 5 (some .int) 1 := ⟨qc_X0_bring, qi_X0_bring, ql_X0_bring, qN_X0, ⟨by decide, by decide⟩, by decide +kernel⟩
theorem qc_X0_advance : (Cond.code yX0_advance cX0_advance 3 (some .boolean)) ∈ gW := gW_mem 578 (by decide +kernel) (by decide +kernel)
theorem qi_X0_advance : (Cond.instanceMethod yX0_advance) ∈ gW := gW_mem 577 (by decide +kernel) (by decide +kernel)
theorem ql_X0_advance : (Cond.selects yX0_advance.cls yX0_advance yX0_advance) ∈ gW := gW_mem 15 (by decide +kernel) (by decide +kernel)
theorem mV_X0_advance : hMV yX0_advance cX0_advance 3 (some .boolean) 0 := ⟨qc_X0_advance, qi_X0_advance, ql_X0_advance, qN_X0, ⟨by decide, by decide⟩, by decide +kernel⟩
theorem qc_X0_advanceFromFirst : (Cond.code yX0_advanceFromFirst cX0_advanceFromFirst 3 (some .boolean)) ∈ gW := gW_mem 582 (by decide +kernel) (by decide +kernel)
theorem qi_X0_advanceFromFirst : (Cond.instanceMethod yX0_advanceFromFirst) ∈ gW := gW_mem 581 (by decide +kernel) (by decide +kernel)
theorem ql_X0_advanceFromFirst : (Cond.selects yX0_advanceFromFirst.cls yX0_advanceFromFirst yX0_advanceFromFirst) ∈ gW := gW_mem 16 (by decide +kernel) (by decide +kernel)
theorem mV_X0_advanceFromFirst : hMV yX0_advanceFromFirst cX0_advanceFromFirst 3 (some .boolean) 1 := ⟨qc_X0_advanceFromFirst, qi_X0_advanceFromFirst, ql_X0_advanceFromFirst, qN_X0, ⟨by decide, by decide⟩, by decide +kernel⟩
theorem qc_X0_give : (Cond.code yX0_give cX0_give 2 none) ∈ gW := gW_mem 590 (by decide +kernel) (by decide +kernel)
theorem qi_X0_give : (Cond.instanceMethod yX0_give) ∈ gW := gW_mem 589 (by decide +kernel) (by decide +kernel)
theorem ql_X0_give : (Cond.selects yX0_give.cls yX0_give yX0_give) ∈ gW := gW_mem 18 (by decide +kernel) (by decide +kernel)
theorem mV_X0_give : hMV yX0_give cX0_give 2 none 1 := ⟨qc_X0_give, qi_X0_give, ql_X0_give, qN_X0, ⟨by decide, by decide⟩, by decide +kernel⟩
theorem qc_X0_firstNotCome : (Cond.code yX0_firstNotCome cX0_firstNotCome 4 (some .int)) ∈ gW := gW_mem 586 (by decide +kernel) (by decide +kernel)
theorem qi_X0_firstNotCome : (Cond.instanceMethod yX0_firstNotCome) ∈ gW := gW_mem 585 (by decide +kernel) (by decide +kernel)
theorem ql_X0_firstNotCome : (Cond.selects yX0_firstNotCome.cls yX0_firstNotCome yX0_firstNotCome) ∈ gW := gW_mem 17 (by decide +kernel) (by decide +kernel)
theorem mV_X0_firstNotCome : hMV yX0_firstNotCome cX0_firstNotCome 4 (some .int) 1 := ⟨qc_X0_firstNotCome, qi_X0_firstNotCome, ql_X0_firstNotCome, qN_X0, ⟨by decide, by decide⟩, by decide +kernel⟩
theorem qc_X0_bound : (Cond.code yX0_bound cX0_bound 3 (some .int)) ∈ gW := gW_mem 594 (by decide +kernel) (by decide +kernel)
theorem qi_X0_bound : (Cond.instanceMethod yX0_bound) ∈ gW := gW_mem 593 (by decide +kernel) (by decide +kernel)
theorem ql_X0_bound : (Cond.selects yX0_bound.cls yX0_bound yX0_bound) ∈ gW := gW_mem 19 (by decide +kernel) (by decide +kernel)
theorem mV_X0_bound : hMV yX0_bound cX0_bound 3 (some .int) 0 := ⟨qc_X0_bound, qi_X0_bound, ql_X0_bound, qN_X0, ⟨by decide, by decide⟩, by decide +kernel⟩
theorem qc_X1_init : (Cond.code yX1_init cX1_init 2 none) ∈ gW := gW_mem 62 (by decide +kernel) (by decide +kernel)
theorem qi_X1_init : (Cond.instanceMethod yX1_init) ∈ gW := gW_mem 61 (by decide +kernel) (by decide +kernel)
theorem mI_X1_init : hMI yX1_init cX1_init 2 1 := ⟨qc_X1_init, qi_X1_init, qN_X1, rfl, ⟨by decide, by decide⟩, by decide +kernel⟩
theorem qc_X1_changeWish : (Cond.code yX1_changeWish cX1_changeWish 4 (some .int)) ∈ gW := gW_mem 287 (by decide +kernel) (by decide +kernel)
theorem qi_X1_changeWish : (Cond.instanceMethod yX1_changeWish) ∈ gW := gW_mem 285 (by decide +kernel) (by decide +kernel)
theorem ql_X1_changeWish : (Cond.selects yX1_changeWish.cls yX1_changeWish yX1_changeWish) ∈ gW := gW_mem 286 (by decide +kernel) (by decide +kernel)
theorem mV_X1_changeWish : hMV yX1_changeWish cX1_changeWish 4 (some .int) 2 := ⟨qc_X1_changeWish, qi_X1_changeWish, ql_X1_changeWish, qN_X1, ⟨by decide, by decide⟩, by decide +kernel⟩
theorem qc_X1_changeAllowed : (Cond.code yX1_changeAllowed cX1_changeAllowed 4 (some .int)) ∈ gW := gW_mem 299 (by decide +kernel) (by decide +kernel)
theorem qi_X1_changeAllowed : (Cond.instanceMethod yX1_changeAllowed) ∈ gW := gW_mem 297 (by decide +kernel) (by decide +kernel)
theorem ql_X1_changeAllowed : (Cond.selects yX1_changeAllowed.cls yX1_changeAllowed yX1_changeAllowed) ∈ gW := gW_mem 298 (by decide +kernel) (by decide +kernel)
theorem mV_X1_changeAllowed : hMV yX1_changeAllowed cX1_changeAllowed 4 (some .int) 2 := ⟨qc_X1_changeAllowed, qi_X1_changeAllowed, ql_X1_changeAllowed, qN_X1, ⟨by decide, by decide⟩, by decide +kernel⟩
theorem qc_X1_changeMagic : (Cond.code yX1_changeMagic cX1_changeMagic 3 (some .int)) ∈ gW := gW_mem 310 (by decide +kernel) (by decide +kernel)
theorem qi_X1_changeMagic : (Cond.instanceMethod yX1_changeMagic) ∈ gW := gW_mem 308 (by decide +kernel) (by decide +kernel)
theorem ql_X1_changeMagic : (Cond.selects yX1_changeMagic.cls yX1_changeMagic yX1_changeMagic) ∈ gW := gW_mem 309 (by decide +kernel) (by decide +kernel)
theorem mV_X1_changeMagic : hMV yX1_changeMagic cX1_changeMagic 3 (some .int) 1 := ⟨qc_X1_changeMagic, qi_X1_changeMagic, ql_X1_changeMagic, qN_X1, ⟨by decide, by decide⟩, by decide +kernel⟩
theorem qc_X1_begin : (Cond.code yX1_begin cX1_begin 1 (some .int)) ∈ gW := gW_mem 338 (by decide +kernel) (by decide +kernel)
theorem qi_X1_begin : (Cond.instanceMethod yX1_begin) ∈ gW := gW_mem 336 (by decide +kernel) (by decide +kernel)
theorem ql_X1_begin : (Cond.selects yX1_begin.cls yX1_begin yX1_begin) ∈ gW := gW_mem 337 (by decide +kernel) (by decide +kernel)
theorem mV_X1_begin : hMV yX1_begin cX1_begin 1 (some .int) 0 := ⟨qc_X1_begin, qi_X1_begin, ql_X1_begin, qN_X1, ⟨by decide, by decide⟩, by decide +kernel⟩
theorem qc_X1_finish : (Cond.code yX1_finish cX1_finish 2 (some .int)) ∈ gW := gW_mem 402 (by decide +kernel) (by decide +kernel)
theorem qi_X1_finish : (Cond.instanceMethod yX1_finish) ∈ gW := gW_mem 400 (by decide +kernel) (by decide +kernel)
theorem ql_X1_finish : (Cond.selects yX1_finish.cls yX1_finish yX1_finish) ∈ gW := gW_mem 401 (by decide +kernel) (by decide +kernel)
theorem mV_X1_finish : hMV yX1_finish cX1_finish 2 (some .int) 0 := ⟨qc_X1_finish, qi_X1_finish, ql_X1_finish, qN_X1, ⟨by decide, by decide⟩, by decide +kernel⟩
theorem qc_X1_tick : (Cond.code yX1_tick cX1_tick 1 (some .boolean)) ∈ gW := gW_mem 494 (by decide +kernel) (by decide +kernel)
theorem qi_X1_tick : (Cond.instanceMethod yX1_tick) ∈ gW := gW_mem 492 (by decide +kernel) (by decide +kernel)
theorem ql_X1_tick : (Cond.selects yX1_tick.cls yX1_tick yX1_tick) ∈ gW := gW_mem 493 (by decide +kernel) (by decide +kernel)
theorem mV_X1_tick : hMV yX1_tick cX1_tick 1 (some .boolean) 0 := ⟨qc_X1_tick, qi_X1_tick, ql_X1_tick, qN_X1, ⟨by decide, by decide⟩, by decide +kernel⟩
theorem qc_X1_hear : (Cond.code yX1_hear cX1_hear 2 none) ∈ gW := gW_mem 428 (by decide +kernel) (by decide +kernel)
theorem qi_X1_hear : (Cond.instanceMethod yX1_hear) ∈ gW := gW_mem 426 (by decide +kernel) (by decide +kernel)
theorem ql_X1_hear : (Cond.selects yX1_hear.cls yX1_hear yX1_hear) ∈ gW := gW_mem 427 (by decide +kernel) (by decide +kernel)
theorem mV_X1_hear : hMV yX1_hear cX1_hear 2 none 1 := ⟨qc_X1_hear, qi_X1_hear, ql_X1_hear, qN_X1, ⟨by decide, by decide⟩, by decide +kernel⟩
theorem qc_X1_hearRequest : (Cond.code yX1_hearRequest cX1_hearRequest 2 none) ∈ gW := gW_mem 432 (by decide +kernel) (by decide +kernel)
theorem qi_X1_hearRequest : (Cond.instanceMethod yX1_hearRequest) ∈ gW := gW_mem 431 (by decide +kernel) (by decide +kernel)
theorem ql_X1_hearRequest : (Cond.selects yX1_hearRequest.cls yX1_hearRequest yX1_hearRequest) ∈ gW := gW_mem 4 (by decide +kernel) (by decide +kernel)
theorem mV_X1_hearRequest : hMV yX1_hearRequest cX1_hearRequest 2 none 1 := ⟨qc_X1_hearRequest, qi_X1_hearRequest, ql_X1_hearRequest, qN_X1, ⟨by decide, by decide⟩, by decide +kernel⟩
theorem qc_X1_hearAnswer : (Cond.code yX1_hearAnswer cX1_hearAnswer 3 none) ∈ gW := gW_mem 464 (by decide +kernel) (by decide +kernel)
theorem qi_X1_hearAnswer : (Cond.instanceMethod yX1_hearAnswer) ∈ gW := gW_mem 463 (by decide +kernel) (by decide +kernel)
theorem ql_X1_hearAnswer : (Cond.selects yX1_hearAnswer.cls yX1_hearAnswer yX1_hearAnswer) ∈ gW := gW_mem 12 (by decide +kernel) (by decide +kernel)
theorem mV_X1_hearAnswer : hMV yX1_hearAnswer cX1_hearAnswer 3 none 1 := ⟨qc_X1_hearAnswer, qi_X1_hearAnswer, ql_X1_hearAnswer, qN_X1, ⟨by decide, by decide⟩, by decide +kernel⟩
theorem qc_X1_changeAskedFor : (Cond.code yX1_changeAskedFor cX1_changeAskedFor 3 none) ∈ gW := gW_mem 468 (by decide +kernel) (by decide +kernel)
theorem qi_X1_changeAskedFor : (Cond.instanceMethod yX1_changeAskedFor) ∈ gW := gW_mem 467 (by decide +kernel) (by decide +kernel)
theorem ql_X1_changeAskedFor : (Cond.selects yX1_changeAskedFor.cls yX1_changeAskedFor yX1_changeAskedFor) ∈ gW := gW_mem 13 (by decide +kernel) (by decide +kernel)
theorem mV_X1_changeAskedFor : hMV yX1_changeAskedFor cX1_changeAskedFor 3 none 1 := ⟨qc_X1_changeAskedFor, qi_X1_changeAskedFor, ql_X1_changeAskedFor, qN_X1, ⟨by decide, by decide⟩, by decide +kernel⟩
theorem qc_X1_ask : (Cond.code yX1_ask cX1_ask 1 (some .boolean)) ∈ gW := gW_mem 345 (by decide +kernel) (by decide +kernel)
theorem qi_X1_ask : (Cond.instanceMethod yX1_ask) ∈ gW := gW_mem 344 (by decide +kernel) (by decide +kernel)
theorem ql_X1_ask : (Cond.selects yX1_ask.cls yX1_ask yX1_ask) ∈ gW := gW_mem 2 (by decide +kernel) (by decide +kernel)
theorem mV_X1_ask : hMV yX1_ask cX1_ask 1 (some .boolean) 0 := ⟨qc_X1_ask, qi_X1_ask, ql_X1_ask, qN_X1, ⟨by decide, by decide⟩, by decide +kernel⟩
theorem qc_X1_sendStop : (Cond.code yX1_sendStop cX1_sendStop 1 none) ∈ gW := gW_mem 406 (by decide +kernel) (by decide +kernel)
theorem qi_X1_sendStop : (Cond.instanceMethod yX1_sendStop) ∈ gW := gW_mem 405 (by decide +kernel) (by decide +kernel)
theorem ql_X1_sendStop : (Cond.selects yX1_sendStop.cls yX1_sendStop yX1_sendStop) ∈ gW := gW_mem 3 (by decide +kernel) (by decide +kernel)
theorem mV_X1_sendStop : hMV yX1_sendStop cX1_sendStop 1 none 0 := ⟨qc_X1_sendStop, qi_X1_sendStop, ql_X1_sendStop, qN_X1, ⟨by decide, by decide⟩, by decide +kernel⟩
theorem qc_X1_answer : (Cond.code yX1_answer cX1_answer 3 none) ∈ gW := gW_mem 436 (by decide +kernel) (by decide +kernel)
theorem qi_X1_answer : (Cond.instanceMethod yX1_answer) ∈ gW := gW_mem 435 (by decide +kernel) (by decide +kernel)
theorem ql_X1_answer : (Cond.selects yX1_answer.cls yX1_answer yX1_answer) ∈ gW := gW_mem 5 (by decide +kernel) (by decide +kernel)
theorem mV_X1_answer : hMV yX1_answer cX1_answer 3 none 1 := ⟨qc_X1_answer, qi_X1_answer, ql_X1_answer, qN_X1, ⟨by decide, by decide⟩, by decide +kernel⟩
theorem qc_X1_kindOfAnswer : (Cond.code yX1_kindOfAnswer cX1_kindOfAnswer 4 (some .int)) ∈ gW := gW_mem 440 (by decide +kernel) (by decide +kernel)
theorem qi_X1_kindOfAnswer : (Cond.instanceMethod yX1_kindOfAnswer) ∈ gW := gW_mem 439 (by decide +kernel) (by decide +kernel)
theorem ql_X1_kindOfAnswer : (Cond.selects yX1_kindOfAnswer.cls yX1_kindOfAnswer yX1_kindOfAnswer) ∈ gW := gW_mem 6 (by decide +kernel) (by decide +kernel)
theorem mV_X1_kindOfAnswer : hMV yX1_kindOfAnswer cX1_kindOfAnswer 4 (some .int) 1 := ⟨qc_X1_kindOfAnswer, qi_X1_kindOfAnswer, ql_X1_kindOfAnswer, qN_X1, ⟨by decide, by decide⟩, by decide +kernel⟩
theorem qc_X1_toldOptions : (Cond.code yX1_toldOptions cX1_toldOptions 5 (some (.array .int))) ∈ gW := gW_mem 456 (by decide +kernel) (by decide +kernel)
theorem qi_X1_toldOptions : (Cond.instanceMethod yX1_toldOptions) ∈ gW := gW_mem 455 (by decide +kernel) (by decide +kernel)
theorem ql_X1_toldOptions : (Cond.selects yX1_toldOptions.cls yX1_toldOptions yX1_toldOptions) ∈ gW := gW_mem 10 (by decide +kernel) (by decide +kernel)
theorem mV_X1_toldOptions : hMV yX1_toldOptions cX1_toldOptions 5 (some (.array .int)) 2 := ⟨qc_X1_toldOptions, qi_X1_toldOptions, ql_X1_toldOptions, qN_X1, ⟨by decide, by decide⟩, by decide +kernel⟩
theorem qc_X1_isUnknown : (Cond.code yX1_isUnknown cX1_isUnknown 3 (some .boolean)) ∈ gW := gW_mem 444 (by decide +kernel) (by decide +kernel)
theorem qi_X1_isUnknown : (Cond.instanceMethod yX1_isUnknown) ∈ gW := gW_mem 443 (by decide +kernel) (by decide +kernel)
theorem ql_X1_isUnknown : (Cond.selects yX1_isUnknown.cls yX1_isUnknown yX1_isUnknown) ∈ gW := gW_mem 7 (by decide +kernel) (by decide +kernel)
theorem mV_X1_isUnknown : hMV yX1_isUnknown cX1_isUnknown 3 (some .boolean) 2 := ⟨qc_X1_isUnknown, qi_X1_isUnknown, ql_X1_isUnknown, qN_X1, ⟨by decide, by decide⟩, by decide +kernel⟩
theorem qc_X1_isRefused : (Cond.code yX1_isRefused cX1_isRefused 3 (some .boolean)) ∈ gW := gW_mem 448 (by decide +kernel) (by decide +kernel)
theorem qi_X1_isRefused : (Cond.instanceMethod yX1_isRefused) ∈ gW := gW_mem 447 (by decide +kernel) (by decide +kernel)
theorem ql_X1_isRefused : (Cond.selects yX1_isRefused.cls yX1_isRefused yX1_isRefused) ∈ gW := gW_mem 8 (by decide +kernel) (by decide +kernel)
theorem mV_X1_isRefused : hMV yX1_isRefused cX1_isRefused 3 (some .boolean) 2 := ⟨qc_X1_isRefused, qi_X1_isRefused, ql_X1_isRefused, qN_X1, ⟨by decide, by decide⟩, by decide +kernel⟩
theorem qc_X1_allows : (Cond.code yX1_allows cX1_allows 3 (some .boolean)) ∈ gW := gW_mem 452 (by decide +kernel) (by decide +kernel)
theorem qi_X1_allows : (Cond.instanceMethod yX1_allows) ∈ gW := gW_mem 451 (by decide +kernel) (by decide +kernel)
theorem ql_X1_allows : (Cond.selects yX1_allows.cls yX1_allows yX1_allows) ∈ gW := gW_mem 9 (by decide +kernel) (by decide +kernel)
theorem mV_X1_allows : hMV yX1_allows cX1_allows 3 (some .boolean) 2 := ⟨qc_X1_allows, qi_X1_allows, ql_X1_allows, qN_X1, ⟨by decide, by decide⟩, by decide +kernel⟩
theorem qc_X1_lowestAllowed : (Cond.code yX1_lowestAllowed cX1_lowestAllowed 3 (some .int)) ∈ gW := gW_mem 460 (by decide +kernel) (by decide +kernel)
theorem qi_X1_lowestAllowed : (Cond.instanceMethod yX1_lowestAllowed) ∈ gW := gW_mem 459 (by decide +kernel) (by decide +kernel)
theorem ql_X1_lowestAllowed : (Cond.selects yX1_lowestAllowed.cls yX1_lowestAllowed yX1_lowestAllowed) ∈ gW := gW_mem 11 (by decide +kernel) (by decide +kernel)
theorem mV_X1_lowestAllowed : hMV yX1_lowestAllowed cX1_lowestAllowed 3 (some .int) 1 := ⟨qc_X1_lowestAllowed, qi_X1_lowestAllowed, ql_X1_lowestAllowed, qN_X1, ⟨by decide, by decide⟩, by decide +kernel⟩
theorem qc_X1_tellNothing : (Cond.code yX1_tellNothing cX1_tellNothing 1 (some (.array .int))) ∈ gW := gW_mem 409 (by decide +kernel) (by decide +kernel)
theorem qs_X1_tellNothing : (Cond.static yX1_tellNothing) ∈ gW := gW_mem 408 (by decide +kernel) (by decide +kernel)
theorem mS_X1_tellNothing : hMS yX1_tellNothing cX1_tellNothing 1 (some (.array .int)) 0 := ⟨qc_X1_tellNothing, qs_X1_tellNothing, qN_X1, ⟨by decide, by decide⟩, by decide +kernel⟩
theorem qc_X2_init : (Cond.code yX2_init cX2_init 5 none) ∈ gW := gW_mem 364 (by decide +kernel) (by decide +kernel)
theorem qi_X2_init : (Cond.instanceMethod yX2_init) ∈ gW := gW_mem 363 (by decide +kernel) (by decide +kernel)
theorem mI_X2_init : hMI yX2_init cX2_init 5 4 := ⟨qc_X2_init, qi_X2_init, qN_X2, rfl, ⟨by decide, by decide⟩, by decide +kernel⟩
theorem qc_X3_init : (Cond.code yX3_init cX3_init 1 none) ∈ gW := gW_mem 68 (by decide +kernel) (by decide +kernel)
theorem qi_X3_init : (Cond.instanceMethod yX3_init) ∈ gW := gW_mem 67 (by decide +kernel) (by decide +kernel)
theorem mI_X3_init : hMI yX3_init cX3_init 1 0 := ⟨qc_X3_init, qi_X3_init, qN_X3, rfl, ⟨by decide, by decide⟩, by decide +kernel⟩
theorem qc_X3_put : (Cond.code yX3_put cX3_put 2 none) ∈ gW := gW_mem 390 (by decide +kernel) (by decide +kernel)
theorem qi_X3_put : (Cond.instanceMethod yX3_put) ∈ gW := gW_mem 388 (by decide +kernel) (by decide +kernel)
theorem ql_X3_put : (Cond.selects yX3_put.cls yX3_put yX3_put) ∈ gW := gW_mem 389 (by decide +kernel) (by decide +kernel)
theorem mV_X3_put : hMV yX3_put cX3_put 2 none 1 := ⟨qc_X3_put, qi_X3_put, ql_X3_put, qN_X3, ⟨by decide, by decide⟩, by decide +kernel⟩
theorem qc_X3_takeFirst : (Cond.code yX3_takeFirst cX3_takeFirst 2 (some (.object "OptionLine$Frame"))) ∈ gW := gW_mem 423 (by decide +kernel) (by decide +kernel)
theorem qi_X3_takeFirst : (Cond.instanceMethod yX3_takeFirst) ∈ gW := gW_mem 421 (by decide +kernel) (by decide +kernel)
theorem ql_X3_takeFirst : (Cond.selects yX3_takeFirst.cls yX3_takeFirst yX3_takeFirst) ∈ gW := gW_mem 422 (by decide +kernel) (by decide +kernel)
theorem mV_X3_takeFirst : hMV yX3_takeFirst cX3_takeFirst 2 (some (.object "OptionLine$Frame")) 0 := ⟨qc_X3_takeFirst, qi_X3_takeFirst, ql_X3_takeFirst, qN_X3, ⟨by decide, by decide⟩, by decide +kernel⟩
theorem qc_X4_init : (Cond.code yX4_init cX4_init 1 none) ∈ gW := gW_mem 54 (by decide +kernel) (by decide +kernel)
theorem qi_X4_init : (Cond.instanceMethod yX4_init) ∈ gW := gW_mem 53 (by decide +kernel) (by decide +kernel)
theorem mI_X4_init : hMI yX4_init cX4_init 1 0 := ⟨qc_X4_init, qi_X4_init, qN_X4, rfl, ⟨by decide, by decide⟩, by decide +kernel⟩
theorem qc_X4_wish : (Cond.code yX4_wish cX4_wish 5 (some .int)) ∈ gW := gW_mem 191 (by decide +kernel) (by decide +kernel)
theorem qi_X4_wish : (Cond.instanceMethod yX4_wish) ∈ gW := gW_mem 189 (by decide +kernel) (by decide +kernel)
theorem ql_X4_wish : (Cond.selects yX4_wish.cls yX4_wish yX4_wish) ∈ gW := gW_mem 190 (by decide +kernel) (by decide +kernel)
theorem mV_X4_wish : hMV yX4_wish cX4_wish 5 (some .int) 3 := ⟨qc_X4_wish, qi_X4_wish, ql_X4_wish, qN_X4, ⟨by decide, by decide⟩, by decide +kernel⟩
theorem qc_X4_allow : (Cond.code yX4_allow cX4_allow 5 (some .int)) ∈ gW := gW_mem 294 (by decide +kernel) (by decide +kernel)
theorem qi_X4_allow : (Cond.instanceMethod yX4_allow) ∈ gW := gW_mem 292 (by decide +kernel) (by decide +kernel)
theorem ql_X4_allow : (Cond.selects yX4_allow.cls yX4_allow yX4_allow) ∈ gW := gW_mem 293 (by decide +kernel) (by decide +kernel)
theorem mV_X4_allow : hMV yX4_allow cX4_allow 5 (some .int) 3 := ⟨qc_X4_allow, qi_X4_allow, ql_X4_allow, qN_X4, ⟨by decide, by decide⟩, by decide +kernel⟩
theorem qc_X4_setMagic : (Cond.code yX4_setMagic cX4_setMagic 3 (some .int)) ∈ gW := gW_mem 306 (by decide +kernel) (by decide +kernel)
theorem qi_X4_setMagic : (Cond.instanceMethod yX4_setMagic) ∈ gW := gW_mem 304 (by decide +kernel) (by decide +kernel)
theorem ql_X4_setMagic : (Cond.selects yX4_setMagic.cls yX4_setMagic yX4_setMagic) ∈ gW := gW_mem 305 (by decide +kernel) (by decide +kernel)
theorem mV_X4_setMagic : hMV yX4_setMagic cX4_setMagic 3 (some .int) 2 := ⟨qc_X4_setMagic, qi_X4_setMagic, ql_X4_setMagic, qN_X4, ⟨by decide, by decide⟩, by decide +kernel⟩
theorem qc_X4_open : (Cond.code yX4_open cX4_open 3 (some .int)) ∈ gW := gW_mem 318 (by decide +kernel) (by decide +kernel)
theorem qi_X4_open : (Cond.instanceMethod yX4_open) ∈ gW := gW_mem 316 (by decide +kernel) (by decide +kernel)
theorem ql_X4_open : (Cond.selects yX4_open.cls yX4_open yX4_open) ∈ gW := gW_mem 317 (by decide +kernel) (by decide +kernel)
theorem mV_X4_open : hMV yX4_open cX4_open 3 (some .int) 1 := ⟨qc_X4_open, qi_X4_open, ql_X4_open, qN_X4, ⟨by decide, by decide⟩, by decide +kernel⟩
theorem qc_X4_close : (Cond.code yX4_close cX4_close 3 (some .int)) ∈ gW := gW_mem 397 (by decide +kernel) (by decide +kernel)
theorem qi_X4_close : (Cond.instanceMethod yX4_close) ∈ gW := gW_mem 395 (by decide +kernel) (by decide +kernel)
theorem ql_X4_close : (Cond.selects yX4_close.cls yX4_close yX4_close) ∈ gW := gW_mem 396 (by decide +kernel) (by decide +kernel)
theorem mV_X4_close : hMV yX4_close cX4_close 3 (some .int) 1 := ⟨qc_X4_close, qi_X4_close, ql_X4_close, qN_X4, ⟨by decide, by decide⟩, by decide +kernel⟩
theorem qc_X4_deliver : (Cond.code yX4_deliver cX4_deliver 3 (some .int)) ∈ gW := gW_mem 416 (by decide +kernel) (by decide +kernel)
theorem qi_X4_deliver : (Cond.instanceMethod yX4_deliver) ∈ gW := gW_mem 414 (by decide +kernel) (by decide +kernel)
theorem ql_X4_deliver : (Cond.selects yX4_deliver.cls yX4_deliver yX4_deliver) ∈ gW := gW_mem 415 (by decide +kernel) (by decide +kernel)
theorem mV_X4_deliver : hMV yX4_deliver cX4_deliver 3 (some .int) 1 := ⟨qc_X4_deliver, qi_X4_deliver, ql_X4_deliver, qN_X4, ⟨by decide, by decide⟩, by decide +kernel⟩
theorem qc_X4_lose : (Cond.code yX4_lose cX4_lose 4 (some .int)) ∈ gW := gW_mem 475 (by decide +kernel) (by decide +kernel)
theorem qi_X4_lose : (Cond.instanceMethod yX4_lose) ∈ gW := gW_mem 473 (by decide +kernel) (by decide +kernel)
theorem ql_X4_lose : (Cond.selects yX4_lose.cls yX4_lose yX4_lose) ∈ gW := gW_mem 474 (by decide +kernel) (by decide +kernel)
theorem mV_X4_lose : hMV yX4_lose cX4_lose 4 (some .int) 1 := ⟨qc_X4_lose, qi_X4_lose, ql_X4_lose, qN_X4, ⟨by decide, by decide⟩, by decide +kernel⟩
theorem qc_X4_loop : (Cond.code yX4_loop cX4_loop 4 (some .int)) ∈ gW := gW_mem 482 (by decide +kernel) (by decide +kernel)
theorem qi_X4_loop : (Cond.instanceMethod yX4_loop) ∈ gW := gW_mem 480 (by decide +kernel) (by decide +kernel)
theorem ql_X4_loop : (Cond.selects yX4_loop.cls yX4_loop yX4_loop) ∈ gW := gW_mem 481 (by decide +kernel) (by decide +kernel)
theorem mV_X4_loop : hMV yX4_loop cX4_loop 4 (some .int) 1 := ⟨qc_X4_loop, qi_X4_loop, ql_X4_loop, qN_X4, ⟨by decide, by decide⟩, by decide +kernel⟩
theorem qc_X4_pass : (Cond.code yX4_pass cX4_pass 4 (some .int)) ∈ gW := gW_mem 489 (by decide +kernel) (by decide +kernel)
theorem qi_X4_pass : (Cond.instanceMethod yX4_pass) ∈ gW := gW_mem 487 (by decide +kernel) (by decide +kernel)
theorem ql_X4_pass : (Cond.selects yX4_pass.cls yX4_pass yX4_pass) ∈ gW := gW_mem 488 (by decide +kernel) (by decide +kernel)
theorem mV_X4_pass : hMV yX4_pass cX4_pass 4 (some .int) 1 := ⟨qc_X4_pass, qi_X4_pass, ql_X4_pass, qN_X4, ⟨by decide, by decide⟩, by decide +kernel⟩
theorem qc_X4_stateOf : (Cond.code yX4_stateOf cX4_stateOf 2 (some .int)) ∈ gW := gW_mem 501 (by decide +kernel) (by decide +kernel)
theorem qi_X4_stateOf : (Cond.instanceMethod yX4_stateOf) ∈ gW := gW_mem 499 (by decide +kernel) (by decide +kernel)
theorem ql_X4_stateOf : (Cond.selects yX4_stateOf.cls yX4_stateOf yX4_stateOf) ∈ gW := gW_mem 500 (by decide +kernel) (by decide +kernel)
theorem mV_X4_stateOf : hMV yX4_stateOf cX4_stateOf 2 (some .int) 1 := ⟨qc_X4_stateOf, qi_X4_stateOf, ql_X4_stateOf, qN_X4, ⟨by decide, by decide⟩, by decide +kernel⟩
theorem qc_X4_asked : (Cond.code yX4_asked cX4_asked 4 (some .int)) ∈ gW := gW_mem 508 (by decide +kernel) (by decide +kernel)
theorem qi_X4_asked : (Cond.instanceMethod yX4_asked) ∈ gW := gW_mem 506 (by decide +kernel) (by decide +kernel)
theorem ql_X4_asked : (Cond.selects yX4_asked.cls yX4_asked yX4_asked) ∈ gW := gW_mem 507 (by decide +kernel) (by decide +kernel)
theorem mV_X4_asked : hMV yX4_asked cX4_asked 4 (some .int) 2 := ⟨qc_X4_asked, qi_X4_asked, ql_X4_asked, qN_X4, ⟨by decide, by decide⟩, by decide +kernel⟩
theorem qc_X4_requests : (Cond.code yX4_requests cX4_requests 2 (some .int)) ∈ gW := gW_mem 515 (by decide +kernel) (by decide +kernel)
theorem qi_X4_requests : (Cond.instanceMethod yX4_requests) ∈ gW := gW_mem 513 (by decide +kernel) (by decide +kernel)
theorem ql_X4_requests : (Cond.selects yX4_requests.cls yX4_requests yX4_requests) ∈ gW := gW_mem 514 (by decide +kernel) (by decide +kernel)
theorem mV_X4_requests : hMV yX4_requests cX4_requests 2 (some .int) 1 := ⟨qc_X4_requests, qi_X4_requests, ql_X4_requests, qN_X4, ⟨by decide, by decide⟩, by decide +kernel⟩
theorem qc_X4_isLooped : (Cond.code yX4_isLooped cX4_isLooped 2 (some .boolean)) ∈ gW := gW_mem 522 (by decide +kernel) (by decide +kernel)
theorem qi_X4_isLooped : (Cond.instanceMethod yX4_isLooped) ∈ gW := gW_mem 520 (by decide +kernel) (by decide +kernel)
theorem ql_X4_isLooped : (Cond.selects yX4_isLooped.cls yX4_isLooped yX4_isLooped) ∈ gW := gW_mem 521 (by decide +kernel) (by decide +kernel)
theorem mV_X4_isLooped : hMV yX4_isLooped cX4_isLooped 2 (some .boolean) 1 := ⟨qc_X4_isLooped, qi_X4_isLooped, ql_X4_isLooped, qN_X4, ⟨by decide, by decide⟩, by decide +kernel⟩
theorem qc_X4_underWay : (Cond.code yX4_underWay cX4_underWay 2 (some .int)) ∈ gW := gW_mem 529 (by decide +kernel) (by decide +kernel)
theorem qi_X4_underWay : (Cond.instanceMethod yX4_underWay) ∈ gW := gW_mem 527 (by decide +kernel) (by decide +kernel)
theorem ql_X4_underWay : (Cond.selects yX4_underWay.cls yX4_underWay yX4_underWay) ∈ gW := gW_mem 528 (by decide +kernel) (by decide +kernel)
theorem mV_X4_underWay : hMV yX4_underWay cX4_underWay 2 (some .int) 1 := ⟨qc_X4_underWay, qi_X4_underWay, ql_X4_underWay, qN_X4, ⟨by decide, by decide⟩, by decide +kernel⟩
theorem qc_X4_missed : (Cond.code yX4_missed cX4_missed 2 (some .int)) ∈ gW := gW_mem 536 (by decide +kernel) (by decide +kernel)
theorem qi_X4_missed : (Cond.instanceMethod yX4_missed) ∈ gW := gW_mem 534 (by decide +kernel) (by decide +kernel)
theorem ql_X4_missed : (Cond.selects yX4_missed.cls yX4_missed yX4_missed) ∈ gW := gW_mem 535 (by decide +kernel) (by decide +kernel)
theorem mV_X4_missed : hMV yX4_missed cX4_missed 2 (some .int) 1 := ⟨qc_X4_missed, qi_X4_missed, ql_X4_missed, qN_X4, ⟨by decide, by decide⟩, by decide +kernel⟩
theorem qc_X4_send : (Cond.code yX4_send cX4_send 2 (some .int)) ∈ gW := gW_mem 543 (by decide +kernel) (by decide +kernel)
theorem qi_X4_send : (Cond.instanceMethod yX4_send) ∈ gW := gW_mem 541 (by decide +kernel) (by decide +kernel)
theorem ql_X4_send : (Cond.selects yX4_send.cls yX4_send yX4_send) ∈ gW := gW_mem 542 (by decide +kernel) (by decide +kernel)
theorem mV_X4_send : hMV yX4_send cX4_send 2 (some .int) 1 := ⟨qc_X4_send, qi_X4_send, ql_X4_send, qN_X4, ⟨by decide, by decide⟩, by decide +kernel⟩
theorem qc_X4_come : (Cond.code yX4_come cX4_come 2 (some .int)) ∈ gW := gW_mem 556 (by decide +kernel) (by decide +kernel)
theorem qi_X4_come : (Cond.instanceMethod yX4_come) ∈ gW := gW_mem 554 (by decide +kernel) (by decide +kernel)
theorem ql_X4_come : (Cond.selects yX4_come.cls yX4_come yX4_come) ∈ gW := gW_mem 555 (by decide +kernel) (by decide +kernel)
theorem mV_X4_come : hMV yX4_come cX4_come 2 (some .int) 1 := ⟨qc_X4_come, qi_X4_come, ql_X4_come, qN_X4, ⟨by decide, by decide⟩, by decide +kernel⟩
theorem qc_X4_drop : (Cond.code yX4_drop cX4_drop 2 (some .int)) ∈ gW := gW_mem 602 (by decide +kernel) (by decide +kernel)
theorem qi_X4_drop : (Cond.instanceMethod yX4_drop) ∈ gW := gW_mem 600 (by decide +kernel) (by decide +kernel)
theorem ql_X4_drop : (Cond.selects yX4_drop.cls yX4_drop yX4_drop) ∈ gW := gW_mem 601 (by decide +kernel) (by decide +kernel)
theorem mV_X4_drop : hMV yX4_drop cX4_drop 2 (some .int) 1 := ⟨qc_X4_drop, qi_X4_drop, ql_X4_drop, qN_X4, ⟨by decide, by decide⟩, by decide +kernel⟩
theorem qc_X4_given : (Cond.code yX4_given cX4_given 1 (some .int)) ∈ gW := gW_mem 178 (by decide +kernel) (by decide +kernel)
theorem qi_X4_given : (Cond.instanceMethod yX4_given) ∈ gW := gW_mem 176 (by decide +kernel) (by decide +kernel)
theorem ql_X4_given : (Cond.selects yX4_given.cls yX4_given yX4_given) ∈ gW := gW_mem 177 (by decide +kernel) (by decide +kernel)
theorem mV_X4_given : hMV yX4_given cX4_given 1 (some .int) 0 := ⟨qc_X4_given, qi_X4_given, ql_X4_given, qN_X4, ⟨by decide, by decide⟩, by decide +kernel⟩
theorem qc_X4_givenAt : (Cond.code yX4_givenAt cX4_givenAt 2 (some .int)) ∈ gW := gW_mem 610 (by decide +kernel) (by decide +kernel)
theorem qi_X4_givenAt : (Cond.instanceMethod yX4_givenAt) ∈ gW := gW_mem 608 (by decide +kernel) (by decide +kernel)
theorem ql_X4_givenAt : (Cond.selects yX4_givenAt.cls yX4_givenAt yX4_givenAt) ∈ gW := gW_mem 609 (by decide +kernel) (by decide +kernel)
theorem mV_X4_givenAt : hMV yX4_givenAt cX4_givenAt 2 (some .int) 1 := ⟨qc_X4_givenAt, qi_X4_givenAt, ql_X4_givenAt, qN_X4, ⟨by decide, by decide⟩, by decide +kernel⟩
theorem qc_X4_next : (Cond.code yX4_next cX4_next 1 (some .int)) ∈ gW := gW_mem 182 (by decide +kernel) (by decide +kernel)
theorem qi_X4_next : (Cond.instanceMethod yX4_next) ∈ gW := gW_mem 180 (by decide +kernel) (by decide +kernel)
theorem ql_X4_next : (Cond.selects yX4_next.cls yX4_next yX4_next) ∈ gW := gW_mem 181 (by decide +kernel) (by decide +kernel)
theorem mV_X4_next : hMV yX4_next cX4_next 1 (some .int) 0 := ⟨qc_X4_next, qi_X4_next, ql_X4_next, qN_X4, ⟨by decide, by decide⟩, by decide +kernel⟩
theorem qc_X4_endAt : (Cond.code yX4_endAt cX4_endAt 2 (some (.object "OptionLine$End"))) ∈ gW := gW_mem 195 (by decide +kernel) (by decide +kernel)
theorem qi_X4_endAt : (Cond.instanceMethod yX4_endAt) ∈ gW := gW_mem 194 (by decide +kernel) (by decide +kernel)
theorem ql_X4_endAt : (Cond.selects yX4_endAt.cls yX4_endAt yX4_endAt) ∈ gW := gW_mem 0 (by decide +kernel) (by decide +kernel)
theorem mV_X4_endAt : hMV yX4_endAt cX4_endAt 2 (some (.object "OptionLine$End")) 1 := ⟨qc_X4_endAt, qi_X4_endAt, ql_X4_endAt, qN_X4, ⟨by decide, by decide⟩, by decide +kernel⟩
theorem qc_X4_refuseNoOption : (Cond.code yX4_refuseNoOption cX4_refuseNoOption 1 none) ∈ gW := gW_mem 266 (by decide +kernel) (by decide +kernel)
theorem qs_X4_refuseNoOption : (Cond.static yX4_refuseNoOption) ∈ gW := gW_mem 265 (by decide +kernel) (by decide +kernel)
theorem mS_X4_refuseNoOption : hMS yX4_refuseNoOption cX4_refuseNoOption 1 none 1 := ⟨qc_X4_refuseNoOption, qs_X4_refuseNoOption, qN_X4, ⟨by decide, by decide⟩, by decide +kernel⟩
theorem qc_X4_takeFrame : (Cond.code yX4_takeFrame cX4_takeFrame 2 (some (.object "OptionLine$Frame"))) ∈ gW := gW_mem 419 (by decide +kernel) (by decide +kernel)
theorem qs_X4_takeFrame : (Cond.static yX4_takeFrame) ∈ gW := gW_mem 418 (by decide +kernel) (by decide +kernel)
theorem mS_X4_takeFrame : hMS yX4_takeFrame cX4_takeFrame 2 (some (.object "OptionLine$Frame")) 1 := ⟨qc_X4_takeFrame, qs_X4_takeFrame, qN_X4, ⟨by decide, by decide⟩, by decide +kernel⟩
theorem qc_X4_refuseEmptyLine : (Cond.code yX4_refuseEmptyLine cX4_refuseEmptyLine 2 none) ∈ gW := gW_mem 560 (by decide +kernel) (by decide +kernel)
theorem qi_X4_refuseEmptyLine : (Cond.instanceMethod yX4_refuseEmptyLine) ∈ gW := gW_mem 559 (by decide +kernel) (by decide +kernel)
theorem ql_X4_refuseEmptyLine : (Cond.selects yX4_refuseEmptyLine.cls yX4_refuseEmptyLine yX4_refuseEmptyLine) ∈ gW := gW_mem 14 (by decide +kernel) (by decide +kernel)
theorem mV_X4_refuseEmptyLine : hMV yX4_refuseEmptyLine cX4_refuseEmptyLine 2 none 1 := ⟨qc_X4_refuseEmptyLine, qi_X4_refuseEmptyLine, ql_X4_refuseEmptyLine, qN_X4, ⟨by decide, by decide⟩, by decide +kernel⟩
theorem qc_X5_init : (Cond.code yX5_init cX5_init 1 none) ∈ gW := gW_mem 616 (by decide +kernel) (by decide +kernel)
theorem qi_X5_init : (Cond.instanceMethod yX5_init) ∈ gW := gW_mem 615 (by decide +kernel) (by decide +kernel)
theorem mI_X5_init : hMI yX5_init cX5_init 1 0 := ⟨qc_X5_init, qi_X5_init, qN_X5, rfl, ⟨by decide, by decide⟩, by decide +kernel⟩
theorem qc_X5_thrown : (Cond.code yX5_thrown cX5_thrown 1 (some .int)) ∈ gW := gW_mem 703 (by decide +kernel) (by decide +kernel)
theorem qi_X5_thrown : (Cond.instanceMethod yX5_thrown) ∈ gW := gW_mem 701 (by decide +kernel) (by decide +kernel)
theorem ql_X5_thrown : (Cond.selects yX5_thrown.cls yX5_thrown yX5_thrown) ∈ gW := gW_mem 702 (by decide +kernel) (by decide +kernel)
theorem mV_X5_thrown : hMV yX5_thrown cX5_thrown 1 (some .int) 0 := ⟨qc_X5_thrown, qi_X5_thrown, ql_X5_thrown, qN_X5, ⟨by decide, by decide⟩, by decide +kernel⟩
theorem qc_X5_in : (Cond.code yX5_in cX5_in 3 (some .boolean)) ∈ gW := gW_mem 713 (by decide +kernel) (by decide +kernel)
theorem qs_X5_in : (Cond.static yX5_in) ∈ gW := gW_mem 712 (by decide +kernel) (by decide +kernel)
theorem mS_X5_in : hMS yX5_in cX5_in 3 (some .boolean) 3 := ⟨qc_X5_in, qs_X5_in, qN_X5, ⟨by decide, by decide⟩, by decide +kernel⟩
theorem qc_X5_isEnd : (Cond.code yX5_isEnd cX5_isEnd 1 (some .boolean)) ∈ gW := gW_mem 710 (by decide +kernel) (by decide +kernel)
theorem qs_X5_isEnd : (Cond.static yX5_isEnd) ∈ gW := gW_mem 709 (by decide +kernel) (by decide +kernel)
theorem mS_X5_isEnd : hMS yX5_isEnd cX5_isEnd 1 (some .boolean) 1 := ⟨qc_X5_isEnd, qs_X5_isEnd, qN_X5, ⟨by decide, by decide⟩, by decide +kernel⟩
theorem qc_X5_isOption : (Cond.code yX5_isOption cX5_isOption 1 (some .boolean)) ∈ gW := gW_mem 716 (by decide +kernel) (by decide +kernel)
theorem qs_X5_isOption : (Cond.static yX5_isOption) ∈ gW := gW_mem 715 (by decide +kernel) (by decide +kernel)
theorem mS_X5_isOption : hMS yX5_isOption cX5_isOption 1 (some .boolean) 1 := ⟨qc_X5_isOption, qs_X5_isOption, qN_X5, ⟨by decide, by decide⟩, by decide +kernel⟩
theorem qc_X5_wish : (Cond.code yX5_wish cX5_wish 5 (some .int)) ∈ gW := gW_mem 707 (by decide +kernel) (by decide +kernel)
theorem qi_X5_wish : (Cond.instanceMethod yX5_wish) ∈ gW := gW_mem 705 (by decide +kernel) (by decide +kernel)
theorem ql_X5_wish : (Cond.selects yX5_wish.cls yX5_wish yX5_wish) ∈ gW := gW_mem 706 (by decide +kernel) (by decide +kernel)
theorem mV_X5_wish : hMV yX5_wish cX5_wish 5 (some .int) 3 := ⟨qc_X5_wish, qi_X5_wish, ql_X5_wish, qN_X5, ⟨by decide, by decide⟩, by decide +kernel⟩
theorem qc_X5_allow : (Cond.code yX5_allow cX5_allow 5 (some .int)) ∈ gW := gW_mem 720 (by decide +kernel) (by decide +kernel)
theorem qi_X5_allow : (Cond.instanceMethod yX5_allow) ∈ gW := gW_mem 718 (by decide +kernel) (by decide +kernel)
theorem ql_X5_allow : (Cond.selects yX5_allow.cls yX5_allow yX5_allow) ∈ gW := gW_mem 719 (by decide +kernel) (by decide +kernel)
theorem mV_X5_allow : hMV yX5_allow cX5_allow 5 (some .int) 3 := ⟨qc_X5_allow, qi_X5_allow, ql_X5_allow, qN_X5, ⟨by decide, by decide⟩, by decide +kernel⟩
theorem qc_X5_setMagic : (Cond.code yX5_setMagic cX5_setMagic 4 (some .int)) ∈ gW := gW_mem 724 (by decide +kernel) (by decide +kernel)
theorem qi_X5_setMagic : (Cond.instanceMethod yX5_setMagic) ∈ gW := gW_mem 722 (by decide +kernel) (by decide +kernel)
theorem ql_X5_setMagic : (Cond.selects yX5_setMagic.cls yX5_setMagic yX5_setMagic) ∈ gW := gW_mem 723 (by decide +kernel) (by decide +kernel)
theorem mV_X5_setMagic : hMV yX5_setMagic cX5_setMagic 4 (some .int) 2 := ⟨qc_X5_setMagic, qi_X5_setMagic, ql_X5_setMagic, qN_X5, ⟨by decide, by decide⟩, by decide +kernel⟩
theorem qc_X5_sends : (Cond.code yX5_sends cX5_sends 6 none) ∈ gW := gW_mem 739 (by decide +kernel) (by decide +kernel)
theorem qi_X5_sends : (Cond.instanceMethod yX5_sends) ∈ gW := gW_mem 738 (by decide +kernel) (by decide +kernel)
theorem ql_X5_sends : (Cond.selects yX5_sends.cls yX5_sends yX5_sends) ∈ gW := gW_mem 21 (by decide +kernel) (by decide +kernel)
theorem mV_X5_sends : hMV yX5_sends cX5_sends 6 none 4 := ⟨qc_X5_sends, qi_X5_sends, ql_X5_sends, qN_X5, ⟨by decide, by decide⟩, by decide +kernel⟩
theorem qc_X5_place : (Cond.code yX5_place cX5_place 3 (some .int)) ∈ gW := gW_mem 735 (by decide +kernel) (by decide +kernel)
theorem qs_X5_place : (Cond.static yX5_place) ∈ gW := gW_mem 734 (by decide +kernel) (by decide +kernel)
theorem mS_X5_place : hMS yX5_place cX5_place 3 (some .int) 1 := ⟨qc_X5_place, qs_X5_place, qN_X5, ⟨by decide, by decide⟩, by decide +kernel⟩
theorem qc_X5_valueIn : (Cond.code yX5_valueIn cX5_valueIn 2 (some .int)) ∈ gW := gW_mem 770 (by decide +kernel) (by decide +kernel)
theorem qs_X5_valueIn : (Cond.static yX5_valueIn) ∈ gW := gW_mem 769 (by decide +kernel) (by decide +kernel)
theorem mS_X5_valueIn : hMS yX5_valueIn cX5_valueIn 2 (some .int) 2 := ⟨qc_X5_valueIn, qs_X5_valueIn, qN_X5, ⟨by decide, by decide⟩, by decide +kernel⟩
theorem qc_X5_begs : (Cond.code yX5_begs cX5_begs 4 (some .boolean)) ∈ gW := gW_mem 732 (by decide +kernel) (by decide +kernel)
theorem qi_X5_begs : (Cond.instanceMethod yX5_begs) ∈ gW := gW_mem 731 (by decide +kernel) (by decide +kernel)
theorem ql_X5_begs : (Cond.selects yX5_begs.cls yX5_begs yX5_begs) ∈ gW := gW_mem 20 (by decide +kernel) (by decide +kernel)
theorem mV_X5_begs : hMV yX5_begs cX5_begs 4 (some .boolean) 1 := ⟨qc_X5_begs, qi_X5_begs, ql_X5_begs, qN_X5, ⟨by decide, by decide⟩, by decide +kernel⟩
theorem qc_X5_lowest : (Cond.code yX5_lowest cX5_lowest 2 (some .int)) ∈ gW := gW_mem 773 (by decide +kernel) (by decide +kernel)
theorem qs_X5_lowest : (Cond.static yX5_lowest) ∈ gW := gW_mem 772 (by decide +kernel) (by decide +kernel)
theorem mS_X5_lowest : hMS yX5_lowest cX5_lowest 2 (some .int) 1 := ⟨qc_X5_lowest, qs_X5_lowest, qN_X5, ⟨by decide, by decide⟩, by decide +kernel⟩
theorem qc_X5_answers : (Cond.code yX5_answers cX5_answers 9 none) ∈ gW := gW_mem 767 (by decide +kernel) (by decide +kernel)
theorem qi_X5_answers : (Cond.instanceMethod yX5_answers) ∈ gW := gW_mem 766 (by decide +kernel) (by decide +kernel)
theorem ql_X5_answers : (Cond.selects yX5_answers.cls yX5_answers yX5_answers) ∈ gW := gW_mem 26 (by decide +kernel) (by decide +kernel)
theorem mV_X5_answers : hMV yX5_answers cX5_answers 9 none 3 := ⟨qc_X5_answers, qi_X5_answers, ql_X5_answers, qN_X5, ⟨by decide, by decide⟩, by decide +kernel⟩
theorem qc_X5_comesRequest : (Cond.code yX5_comesRequest cX5_comesRequest 5 none) ∈ gW := gW_mem 763 (by decide +kernel) (by decide +kernel)
theorem qi_X5_comesRequest : (Cond.instanceMethod yX5_comesRequest) ∈ gW := gW_mem 762 (by decide +kernel) (by decide +kernel)
theorem ql_X5_comesRequest : (Cond.selects yX5_comesRequest.cls yX5_comesRequest yX5_comesRequest) ∈ gW := gW_mem 25 (by decide +kernel) (by decide +kernel)
theorem mV_X5_comesRequest : hMV yX5_comesRequest cX5_comesRequest 5 none 4 := ⟨qc_X5_comesRequest, qi_X5_comesRequest, ql_X5_comesRequest, qN_X5, ⟨by decide, by decide⟩, by decide +kernel⟩
theorem qc_X5_comesAnswer : (Cond.code yX5_comesAnswer cX5_comesAnswer 6 none) ∈ gW := gW_mem 777 (by decide +kernel) (by decide +kernel)
theorem qi_X5_comesAnswer : (Cond.instanceMethod yX5_comesAnswer) ∈ gW := gW_mem 776 (by decide +kernel) (by decide +kernel)
theorem ql_X5_comesAnswer : (Cond.selects yX5_comesAnswer.cls yX5_comesAnswer yX5_comesAnswer) ∈ gW := gW_mem 27 (by decide +kernel) (by decide +kernel)
theorem mV_X5_comesAnswer : hMV yX5_comesAnswer cX5_comesAnswer 6 none 3 := ⟨qc_X5_comesAnswer, qi_X5_comesAnswer, ql_X5_comesAnswer, qN_X5, ⟨by decide, by decide⟩, by decide +kernel⟩
theorem qc_X5_comes : (Cond.code yX5_comes cX5_comes 3 none) ∈ gW := gW_mem 759 (by decide +kernel) (by decide +kernel)
theorem qi_X5_comes : (Cond.instanceMethod yX5_comes) ∈ gW := gW_mem 758 (by decide +kernel) (by decide +kernel)
theorem ql_X5_comes : (Cond.selects yX5_comes.cls yX5_comes yX5_comes) ∈ gW := gW_mem 24 (by decide +kernel) (by decide +kernel)
theorem mV_X5_comes : hMV yX5_comes cX5_comes 3 none 2 := ⟨qc_X5_comes, qi_X5_comes, ql_X5_comes, qN_X5, ⟨by decide, by decide⟩, by decide +kernel⟩
theorem qc_X5_takes : (Cond.code yX5_takes cX5_takes 3 (some .int)) ∈ gW := gW_mem 755 (by decide +kernel) (by decide +kernel)
theorem qi_X5_takes : (Cond.instanceMethod yX5_takes) ∈ gW := gW_mem 754 (by decide +kernel) (by decide +kernel)
theorem ql_X5_takes : (Cond.selects yX5_takes.cls yX5_takes yX5_takes) ∈ gW := gW_mem 23 (by decide +kernel) (by decide +kernel)
theorem mV_X5_takes : hMV yX5_takes cX5_takes 3 (some .int) 1 := ⟨qc_X5_takes, qi_X5_takes, ql_X5_takes, qN_X5, ⟨by decide, by decide⟩, by decide +kernel⟩
theorem qc_X5_open : (Cond.code yX5_open cX5_open 3 (some .int)) ∈ gW := gW_mem 728 (by decide +kernel) (by decide +kernel)
theorem qi_X5_open : (Cond.instanceMethod yX5_open) ∈ gW := gW_mem 726 (by decide +kernel) (by decide +kernel)
theorem ql_X5_open : (Cond.selects yX5_open.cls yX5_open yX5_open) ∈ gW := gW_mem 727 (by decide +kernel) (by decide +kernel)
theorem mV_X5_open : hMV yX5_open cX5_open 3 (some .int) 1 := ⟨qc_X5_open, qi_X5_open, ql_X5_open, qN_X5, ⟨by decide, by decide⟩, by decide +kernel⟩
theorem qc_X5_close : (Cond.code yX5_close cX5_close 3 (some .int)) ∈ gW := gW_mem 743 (by decide +kernel) (by decide +kernel)
theorem qi_X5_close : (Cond.instanceMethod yX5_close) ∈ gW := gW_mem 741 (by decide +kernel) (by decide +kernel)
theorem ql_X5_close : (Cond.selects yX5_close.cls yX5_close yX5_close) ∈ gW := gW_mem 742 (by decide +kernel) (by decide +kernel)
theorem mV_X5_close : hMV yX5_close cX5_close 3 (some .int) 1 := ⟨qc_X5_close, qi_X5_close, ql_X5_close, qN_X5, ⟨by decide, by decide⟩, by decide +kernel⟩
theorem qc_X5_asksFrame : (Cond.code yX5_asksFrame cX5_asksFrame 2 (some .boolean)) ∈ gW := gW_mem 751 (by decide +kernel) (by decide +kernel)
theorem qi_X5_asksFrame : (Cond.instanceMethod yX5_asksFrame) ∈ gW := gW_mem 750 (by decide +kernel) (by decide +kernel)
theorem ql_X5_asksFrame : (Cond.selects yX5_asksFrame.cls yX5_asksFrame yX5_asksFrame) ∈ gW := gW_mem 22 (by decide +kernel) (by decide +kernel)
theorem mV_X5_asksFrame : hMV yX5_asksFrame cX5_asksFrame 2 (some .boolean) 1 := ⟨qc_X5_asksFrame, qi_X5_asksFrame, ql_X5_asksFrame, qN_X5, ⟨by decide, by decide⟩, by decide +kernel⟩
theorem qc_X5_deliver : (Cond.code yX5_deliver cX5_deliver 3 (some .int)) ∈ gW := gW_mem 747 (by decide +kernel) (by decide +kernel)
theorem qi_X5_deliver : (Cond.instanceMethod yX5_deliver) ∈ gW := gW_mem 745 (by decide +kernel) (by decide +kernel)
theorem ql_X5_deliver : (Cond.selects yX5_deliver.cls yX5_deliver yX5_deliver) ∈ gW := gW_mem 746 (by decide +kernel) (by decide +kernel)
theorem mV_X5_deliver : hMV yX5_deliver cX5_deliver 3 (some .int) 1 := ⟨qc_X5_deliver, qi_X5_deliver, ql_X5_deliver, qN_X5, ⟨by decide, by decide⟩, by decide +kernel⟩
theorem qc_X5_lose : (Cond.code yX5_lose cX5_lose 2 (some .int)) ∈ gW := gW_mem 781 (by decide +kernel) (by decide +kernel)
theorem qi_X5_lose : (Cond.instanceMethod yX5_lose) ∈ gW := gW_mem 779 (by decide +kernel) (by decide +kernel)
theorem ql_X5_lose : (Cond.selects yX5_lose.cls yX5_lose yX5_lose) ∈ gW := gW_mem 780 (by decide +kernel) (by decide +kernel)
theorem mV_X5_lose : hMV yX5_lose cX5_lose 2 (some .int) 1 := ⟨qc_X5_lose, qi_X5_lose, ql_X5_lose, qN_X5, ⟨by decide, by decide⟩, by decide +kernel⟩
theorem qc_X5_loop : (Cond.code yX5_loop cX5_loop 3 (some .int)) ∈ gW := gW_mem 785 (by decide +kernel) (by decide +kernel)
theorem qi_X5_loop : (Cond.instanceMethod yX5_loop) ∈ gW := gW_mem 783 (by decide +kernel) (by decide +kernel)
theorem ql_X5_loop : (Cond.selects yX5_loop.cls yX5_loop yX5_loop) ∈ gW := gW_mem 784 (by decide +kernel) (by decide +kernel)
theorem mV_X5_loop : hMV yX5_loop cX5_loop 3 (some .int) 1 := ⟨qc_X5_loop, qi_X5_loop, ql_X5_loop, qN_X5, ⟨by decide, by decide⟩, by decide +kernel⟩
theorem qc_X5_goesBy : (Cond.code yX5_goesBy cX5_goesBy 2 (some .int)) ∈ gW := gW_mem 793 (by decide +kernel) (by decide +kernel)
theorem qi_X5_goesBy : (Cond.instanceMethod yX5_goesBy) ∈ gW := gW_mem 792 (by decide +kernel) (by decide +kernel)
theorem ql_X5_goesBy : (Cond.selects yX5_goesBy.cls yX5_goesBy yX5_goesBy) ∈ gW := gW_mem 28 (by decide +kernel) (by decide +kernel)
theorem mV_X5_goesBy : hMV yX5_goesBy cX5_goesBy 2 (some .int) 1 := ⟨qc_X5_goesBy, qi_X5_goesBy, ql_X5_goesBy, qN_X5, ⟨by decide, by decide⟩, by decide +kernel⟩
theorem qc_X5_pass : (Cond.code yX5_pass cX5_pass 4 (some .int)) ∈ gW := gW_mem 789 (by decide +kernel) (by decide +kernel)
theorem qi_X5_pass : (Cond.instanceMethod yX5_pass) ∈ gW := gW_mem 787 (by decide +kernel) (by decide +kernel)
theorem ql_X5_pass : (Cond.selects yX5_pass.cls yX5_pass yX5_pass) ∈ gW := gW_mem 788 (by decide +kernel) (by decide +kernel)
theorem mV_X5_pass : hMV yX5_pass cX5_pass 4 (some .int) 1 := ⟨qc_X5_pass, qi_X5_pass, ql_X5_pass, qN_X5, ⟨by decide, by decide⟩, by decide +kernel⟩
theorem qc_X5_asksEnd : (Cond.code yX5_asksEnd cX5_asksEnd 2 (some .boolean)) ∈ gW := gW_mem 801 (by decide +kernel) (by decide +kernel)
theorem qi_X5_asksEnd : (Cond.instanceMethod yX5_asksEnd) ∈ gW := gW_mem 800 (by decide +kernel) (by decide +kernel)
theorem ql_X5_asksEnd : (Cond.selects yX5_asksEnd.cls yX5_asksEnd yX5_asksEnd) ∈ gW := gW_mem 29 (by decide +kernel) (by decide +kernel)
theorem mV_X5_asksEnd : hMV yX5_asksEnd cX5_asksEnd 2 (some .boolean) 1 := ⟨qc_X5_asksEnd, qi_X5_asksEnd, ql_X5_asksEnd, qN_X5, ⟨by decide, by decide⟩, by decide +kernel⟩
theorem qc_X5_stateOf : (Cond.code yX5_stateOf cX5_stateOf 2 (some .int)) ∈ gW := gW_mem 797 (by decide +kernel) (by decide +kernel)
theorem qi_X5_stateOf : (Cond.instanceMethod yX5_stateOf) ∈ gW := gW_mem 795 (by decide +kernel) (by decide +kernel)
theorem ql_X5_stateOf : (Cond.selects yX5_stateOf.cls yX5_stateOf yX5_stateOf) ∈ gW := gW_mem 796 (by decide +kernel) (by decide +kernel)
theorem mV_X5_stateOf : hMV yX5_stateOf cX5_stateOf 2 (some .int) 1 := ⟨qc_X5_stateOf, qi_X5_stateOf, ql_X5_stateOf, qN_X5, ⟨by decide, by decide⟩, by decide +kernel⟩
theorem qc_X5_asked : (Cond.code yX5_asked cX5_asked 3 (some .int)) ∈ gW := gW_mem 805 (by decide +kernel) (by decide +kernel)
theorem qi_X5_asked : (Cond.instanceMethod yX5_asked) ∈ gW := gW_mem 803 (by decide +kernel) (by decide +kernel)
theorem ql_X5_asked : (Cond.selects yX5_asked.cls yX5_asked yX5_asked) ∈ gW := gW_mem 804 (by decide +kernel) (by decide +kernel)
theorem mV_X5_asked : hMV yX5_asked cX5_asked 3 (some .int) 2 := ⟨qc_X5_asked, qi_X5_asked, ql_X5_asked, qN_X5, ⟨by decide, by decide⟩, by decide +kernel⟩
theorem qc_X5_requests : (Cond.code yX5_requests cX5_requests 2 (some .int)) ∈ gW := gW_mem 809 (by decide +kernel) (by decide +kernel)
theorem qi_X5_requests : (Cond.instanceMethod yX5_requests) ∈ gW := gW_mem 807 (by decide +kernel) (by decide +kernel)
theorem ql_X5_requests : (Cond.selects yX5_requests.cls yX5_requests yX5_requests) ∈ gW := gW_mem 808 (by decide +kernel) (by decide +kernel)
theorem mV_X5_requests : hMV yX5_requests cX5_requests 2 (some .int) 1 := ⟨qc_X5_requests, qi_X5_requests, ql_X5_requests, qN_X5, ⟨by decide, by decide⟩, by decide +kernel⟩
theorem qc_X5_isLooped : (Cond.code yX5_isLooped cX5_isLooped 2 (some .boolean)) ∈ gW := gW_mem 813 (by decide +kernel) (by decide +kernel)
theorem qi_X5_isLooped : (Cond.instanceMethod yX5_isLooped) ∈ gW := gW_mem 811 (by decide +kernel) (by decide +kernel)
theorem ql_X5_isLooped : (Cond.selects yX5_isLooped.cls yX5_isLooped yX5_isLooped) ∈ gW := gW_mem 812 (by decide +kernel) (by decide +kernel)
theorem mV_X5_isLooped : hMV yX5_isLooped cX5_isLooped 2 (some .boolean) 1 := ⟨qc_X5_isLooped, qi_X5_isLooped, ql_X5_isLooped, qN_X5, ⟨by decide, by decide⟩, by decide +kernel⟩
theorem qc_X5_underWay : (Cond.code yX5_underWay cX5_underWay 2 (some .int)) ∈ gW := gW_mem 817 (by decide +kernel) (by decide +kernel)
theorem qi_X5_underWay : (Cond.instanceMethod yX5_underWay) ∈ gW := gW_mem 815 (by decide +kernel) (by decide +kernel)
theorem ql_X5_underWay : (Cond.selects yX5_underWay.cls yX5_underWay yX5_underWay) ∈ gW := gW_mem 816 (by decide +kernel) (by decide +kernel)
theorem mV_X5_underWay : hMV yX5_underWay cX5_underWay 2 (some .int) 1 := ⟨qc_X5_underWay, qi_X5_underWay, ql_X5_underWay, qN_X5, ⟨by decide, by decide⟩, by decide +kernel⟩
theorem qc_X5_missed : (Cond.code yX5_missed cX5_missed 2 (some .int)) ∈ gW := gW_mem 821 (by decide +kernel) (by decide +kernel)
theorem qi_X5_missed : (Cond.instanceMethod yX5_missed) ∈ gW := gW_mem 819 (by decide +kernel) (by decide +kernel)
theorem ql_X5_missed : (Cond.selects yX5_missed.cls yX5_missed yX5_missed) ∈ gW := gW_mem 820 (by decide +kernel) (by decide +kernel)
theorem mV_X5_missed : hMV yX5_missed cX5_missed 2 (some .int) 1 := ⟨qc_X5_missed, qi_X5_missed, ql_X5_missed, qN_X5, ⟨by decide, by decide⟩, by decide +kernel⟩
theorem qc_X5_send : (Cond.code yX5_send cX5_send 4 (some .int)) ∈ gW := gW_mem 825 (by decide +kernel) (by decide +kernel)
theorem qi_X5_send : (Cond.instanceMethod yX5_send) ∈ gW := gW_mem 823 (by decide +kernel) (by decide +kernel)
theorem ql_X5_send : (Cond.selects yX5_send.cls yX5_send yX5_send) ∈ gW := gW_mem 824 (by decide +kernel) (by decide +kernel)
theorem mV_X5_send : hMV yX5_send cX5_send 4 (some .int) 1 := ⟨qc_X5_send, qi_X5_send, ql_X5_send, qN_X5, ⟨by decide, by decide⟩, by decide +kernel⟩
theorem qc_X5_bound : (Cond.code yX5_bound cX5_bound 3 (some .int)) ∈ gW := gW_mem 841 (by decide +kernel) (by decide +kernel)
theorem qi_X5_bound : (Cond.instanceMethod yX5_bound) ∈ gW := gW_mem 840 (by decide +kernel) (by decide +kernel)
theorem ql_X5_bound : (Cond.selects yX5_bound.cls yX5_bound yX5_bound) ∈ gW := gW_mem 32 (by decide +kernel) (by decide +kernel)
theorem mV_X5_bound : hMV yX5_bound cX5_bound 3 (some .int) 0 := ⟨qc_X5_bound, qi_X5_bound, ql_X5_bound, qN_X5, ⟨by decide, by decide⟩, by decide +kernel⟩
theorem qc_X5_missing : (Cond.code yX5_missing cX5_missing 3 (some .int)) ∈ gW := gW_mem 845 (by decide +kernel) (by decide +kernel)
theorem qi_X5_missing : (Cond.instanceMethod yX5_missing) ∈ gW := gW_mem 844 (by decide +kernel) (by decide +kernel)
theorem ql_X5_missing : (Cond.selects yX5_missing.cls yX5_missing yX5_missing) ∈ gW := gW_mem 33 (by decide +kernel) (by decide +kernel)
theorem mV_X5_missing : hMV yX5_missing cX5_missing 3 (some .int) 1 := ⟨qc_X5_missing, qi_X5_missing, ql_X5_missing, qN_X5, ⟨by decide, by decide⟩, by decide +kernel⟩
theorem qc_X5_goesOn : (Cond.code yX5_goesOn cX5_goesOn 5 (some .boolean)) ∈ gW := gW_mem 837 (by decide +kernel) (by decide +kernel)
theorem qi_X5_goesOn : (Cond.instanceMethod yX5_goesOn) ∈ gW := gW_mem 836 (by decide +kernel) (by decide +kernel)
theorem ql_X5_goesOn : (Cond.selects yX5_goesOn.cls yX5_goesOn yX5_goesOn) ∈ gW := gW_mem 31 (by decide +kernel) (by decide +kernel)
theorem mV_X5_goesOn : hMV yX5_goesOn cX5_goesOn 5 (some .boolean) 0 := ⟨qc_X5_goesOn, qi_X5_goesOn, ql_X5_goesOn, qN_X5, ⟨by decide, by decide⟩, by decide +kernel⟩
theorem qc_X5_asksLine : (Cond.code yX5_asksLine cX5_asksLine 2 (some .boolean)) ∈ gW := gW_mem 833 (by decide +kernel) (by decide +kernel)
theorem qi_X5_asksLine : (Cond.instanceMethod yX5_asksLine) ∈ gW := gW_mem 832 (by decide +kernel) (by decide +kernel)
theorem ql_X5_asksLine : (Cond.selects yX5_asksLine.cls yX5_asksLine yX5_asksLine) ∈ gW := gW_mem 30 (by decide +kernel) (by decide +kernel)
theorem mV_X5_asksLine : hMV yX5_asksLine cX5_asksLine 2 (some .boolean) 1 := ⟨qc_X5_asksLine, qi_X5_asksLine, ql_X5_asksLine, qN_X5, ⟨by decide, by decide⟩, by decide +kernel⟩
theorem qc_X5_come : (Cond.code yX5_come cX5_come 4 (some .int)) ∈ gW := gW_mem 829 (by decide +kernel) (by decide +kernel)
theorem qi_X5_come : (Cond.instanceMethod yX5_come) ∈ gW := gW_mem 827 (by decide +kernel) (by decide +kernel)
theorem ql_X5_come : (Cond.selects yX5_come.cls yX5_come yX5_come) ∈ gW := gW_mem 828 (by decide +kernel) (by decide +kernel)
theorem mV_X5_come : hMV yX5_come cX5_come 4 (some .int) 1 := ⟨qc_X5_come, qi_X5_come, ql_X5_come, qN_X5, ⟨by decide, by decide⟩, by decide +kernel⟩
theorem qc_X5_drop : (Cond.code yX5_drop cX5_drop 2 (some .int)) ∈ gW := gW_mem 849 (by decide +kernel) (by decide +kernel)
theorem qi_X5_drop : (Cond.instanceMethod yX5_drop) ∈ gW := gW_mem 847 (by decide +kernel) (by decide +kernel)
theorem ql_X5_drop : (Cond.selects yX5_drop.cls yX5_drop yX5_drop) ∈ gW := gW_mem 848 (by decide +kernel) (by decide +kernel)
theorem mV_X5_drop : hMV yX5_drop cX5_drop 2 (some .int) 1 := ⟨qc_X5_drop, qi_X5_drop, ql_X5_drop, qN_X5, ⟨by decide, by decide⟩, by decide +kernel⟩
theorem qc_X5_given : (Cond.code yX5_given cX5_given 1 (some .int)) ∈ gW := gW_mem 853 (by decide +kernel) (by decide +kernel)
theorem qi_X5_given : (Cond.instanceMethod yX5_given) ∈ gW := gW_mem 851 (by decide +kernel) (by decide +kernel)
theorem ql_X5_given : (Cond.selects yX5_given.cls yX5_given yX5_given) ∈ gW := gW_mem 852 (by decide +kernel) (by decide +kernel)
theorem mV_X5_given : hMV yX5_given cX5_given 1 (some .int) 0 := ⟨qc_X5_given, qi_X5_given, ql_X5_given, qN_X5, ⟨by decide, by decide⟩, by decide +kernel⟩
theorem qc_X5_givenAt : (Cond.code yX5_givenAt cX5_givenAt 2 (some .int)) ∈ gW := gW_mem 857 (by decide +kernel) (by decide +kernel)
theorem qi_X5_givenAt : (Cond.instanceMethod yX5_givenAt) ∈ gW := gW_mem 855 (by decide +kernel) (by decide +kernel)
theorem ql_X5_givenAt : (Cond.selects yX5_givenAt.cls yX5_givenAt yX5_givenAt) ∈ gW := gW_mem 856 (by decide +kernel) (by decide +kernel)
theorem mV_X5_givenAt : hMV yX5_givenAt cX5_givenAt 2 (some .int) 1 := ⟨qc_X5_givenAt, qi_X5_givenAt, ql_X5_givenAt, qN_X5, ⟨by decide, by decide⟩, by decide +kernel⟩
theorem qc_X5_next : (Cond.code yX5_next cX5_next 1 (some .int)) ∈ gW := gW_mem 861 (by decide +kernel) (by decide +kernel)
theorem qi_X5_next : (Cond.instanceMethod yX5_next) ∈ gW := gW_mem 859 (by decide +kernel) (by decide +kernel)
theorem ql_X5_next : (Cond.selects yX5_next.cls yX5_next yX5_next) ∈ gW := gW_mem 860 (by decide +kernel) (by decide +kernel)
theorem mV_X5_next : hMV yX5_next cX5_next 1 (some .int) 0 := ⟨qc_X5_next, qi_X5_next, ql_X5_next, qN_X5, ⟨by decide, by decide⟩, by decide +kernel⟩
theorem qc_J7_fill_53178 : (Cond.code yJ7_fill_53178 cJ7_fill_53178 4 none) ∈ gW := gW_mem 84 (by decide +kernel) (by decide +kernel)
theorem qs_J7_fill_53178 : (Cond.static yJ7_fill_53178) ∈ gW := gW_mem 83 (by decide +kernel) (by decide +kernel)
theorem mS_J7_fill_53178 : hMS yJ7_fill_53178 cJ7_fill_53178 4 none 2 := ⟨qc_J7_fill_53178, qs_J7_fill_53178, qN_J7, ⟨by decide, by decide⟩, by decide +kernel⟩
theorem qc_J7_copyOf_59c91 : (Cond.code yJ7_copyOf_59c91 cJ7_copyOf_59c91 3 (some (.array .int))) ∈ gW := gW_mem 350 (by decide +kernel) (by decide +kernel)
theorem qs_J7_copyOf_59c91 : (Cond.static yJ7_copyOf_59c91) ∈ gW := gW_mem 349 (by decide +kernel) (by decide +kernel)
theorem mS_J7_copyOf_59c91 : hMS yJ7_copyOf_59c91 cJ7_copyOf_59c91 3 (some (.array .int)) 2 := ⟨qc_J7_copyOf_59c91, qs_J7_copyOf_59c91, qN_J7, ⟨by decide, by decide⟩, by decide +kernel⟩
theorem qc_L_wish : (Cond.codeWith yL_wish cL_wish 6 (some .int) [(0, 12, 15, 13), (0, 12, 19, 15)]) ∈ gW := gW_mem 185 (by decide +kernel) (by decide +kernel)
theorem qs_L_wish : (Cond.static yL_wish) ∈ gW := gW_mem 184 (by decide +kernel) (by decide +kernel)
theorem mH_L_wish : hMH yL_wish cL_wish 6 (some .int) [(0, 12, 15, 13), (0, 12, 19, 15)] 5 := ⟨qc_L_wish, qs_L_wish, qN_L, ⟨by decide, by decide⟩, by decide +kernel⟩
theorem qc_L_allow : (Cond.codeWith yL_allow cL_allow 6 (some .int) [(0, 12, 15, 13), (0, 12, 19, 15)]) ∈ gW := gW_mem 290 (by decide +kernel) (by decide +kernel)
theorem qs_L_allow : (Cond.static yL_allow) ∈ gW := gW_mem 289 (by decide +kernel) (by decide +kernel)
theorem mH_L_allow : hMH yL_allow cL_allow 6 (some .int) [(0, 12, 15, 13), (0, 12, 19, 15)] 5 := ⟨qc_L_allow, qs_L_allow, qN_L, ⟨by decide, by decide⟩, by decide +kernel⟩
theorem qc_L_setMagic : (Cond.codeWith yL_setMagic cL_setMagic 5 (some .int) [(0, 10, 13, 13)]) ∈ gW := gW_mem 302 (by decide +kernel) (by decide +kernel)
theorem qs_L_setMagic : (Cond.static yL_setMagic) ∈ gW := gW_mem 301 (by decide +kernel) (by decide +kernel)
theorem mH_L_setMagic : hMH yL_setMagic cL_setMagic 5 (some .int) [(0, 10, 13, 13)] 4 := ⟨qc_L_setMagic, qs_L_setMagic, qN_L, ⟨by decide, by decide⟩, by decide +kernel⟩
theorem qc_L_open : (Cond.codeWith yL_open cL_open 4 (some .int) [(0, 9, 12, 13), (0, 9, 15, 28)]) ∈ gW := gW_mem 313 (by decide +kernel) (by decide +kernel)
theorem qs_L_open : (Cond.static yL_open) ∈ gW := gW_mem 312 (by decide +kernel) (by decide +kernel)
theorem mH_L_open : hMH yL_open cL_open 4 (some .int) [(0, 9, 12, 13), (0, 9, 15, 28)] 3 := ⟨qc_L_open, qs_L_open, qN_L, ⟨by decide, by decide⟩, by decide +kernel⟩
theorem qc_L_close : (Cond.codeWith yL_close cL_close 4 (some .int) [(0, 9, 12, 13), (0, 9, 15, 28)]) ∈ gW := gW_mem 393 (by decide +kernel) (by decide +kernel)
theorem qs_L_close : (Cond.static yL_close) ∈ gW := gW_mem 392 (by decide +kernel) (by decide +kernel)
theorem mH_L_close : hMH yL_close cL_close 4 (some .int) [(0, 9, 12, 13), (0, 9, 15, 28)] 3 := ⟨qc_L_close, qs_L_close, qN_L, ⟨by decide, by decide⟩, by decide +kernel⟩
theorem qc_L_deliver : (Cond.codeWith yL_deliver cL_deliver 4 (some .int) [(0, 9, 12, 13), (0, 9, 15, 28)]) ∈ gW := gW_mem 412 (by decide +kernel) (by decide +kernel)
theorem qs_L_deliver : (Cond.static yL_deliver) ∈ gW := gW_mem 411 (by decide +kernel) (by decide +kernel)
theorem mH_L_deliver : hMH yL_deliver cL_deliver 4 (some .int) [(0, 9, 12, 13), (0, 9, 15, 28)] 3 := ⟨qc_L_deliver, qs_L_deliver, qN_L, ⟨by decide, by decide⟩, by decide +kernel⟩
theorem qc_L_lose : (Cond.codeWith yL_lose cL_lose 4 (some .int) [(0, 9, 12, 13), (0, 9, 15, 28)]) ∈ gW := gW_mem 471 (by decide +kernel) (by decide +kernel)
theorem qs_L_lose : (Cond.static yL_lose) ∈ gW := gW_mem 470 (by decide +kernel) (by decide +kernel)
theorem mH_L_lose : hMH yL_lose cL_lose 4 (some .int) [(0, 9, 12, 13), (0, 9, 15, 28)] 3 := ⟨qc_L_lose, qs_L_lose, qN_L, ⟨by decide, by decide⟩, by decide +kernel⟩
theorem qc_L_loop : (Cond.codeWith yL_loop cL_loop 4 (some .int) [(0, 9, 12, 13), (0, 9, 15, 28)]) ∈ gW := gW_mem 478 (by decide +kernel) (by decide +kernel)
theorem qs_L_loop : (Cond.static yL_loop) ∈ gW := gW_mem 477 (by decide +kernel) (by decide +kernel)
theorem mH_L_loop : hMH yL_loop cL_loop 4 (some .int) [(0, 9, 12, 13), (0, 9, 15, 28)] 3 := ⟨qc_L_loop, qs_L_loop, qN_L, ⟨by decide, by decide⟩, by decide +kernel⟩
theorem qc_L_pass : (Cond.codeWith yL_pass cL_pass 4 (some .int) [(0, 9, 12, 15)]) ∈ gW := gW_mem 485 (by decide +kernel) (by decide +kernel)
theorem qs_L_pass : (Cond.static yL_pass) ∈ gW := gW_mem 484 (by decide +kernel) (by decide +kernel)
theorem mH_L_pass : hMH yL_pass cL_pass 4 (some .int) [(0, 9, 12, 15)] 3 := ⟨qc_L_pass, qs_L_pass, qN_L, ⟨by decide, by decide⟩, by decide +kernel⟩
theorem qc_L_stateOf : (Cond.codeWith yL_stateOf cL_stateOf 4 (some .int) [(0, 9, 12, 13)]) ∈ gW := gW_mem 497 (by decide +kernel) (by decide +kernel)
theorem qs_L_stateOf : (Cond.static yL_stateOf) ∈ gW := gW_mem 496 (by decide +kernel) (by decide +kernel)
theorem mH_L_stateOf : hMH yL_stateOf cL_stateOf 4 (some .int) [(0, 9, 12, 13)] 3 := ⟨qc_L_stateOf, qs_L_stateOf, qN_L, ⟨by decide, by decide⟩, by decide +kernel⟩
theorem qc_L_asked : (Cond.codeWith yL_asked cL_asked 5 (some .int) [(0, 10, 13, 13)]) ∈ gW := gW_mem 504 (by decide +kernel) (by decide +kernel)
theorem qs_L_asked : (Cond.static yL_asked) ∈ gW := gW_mem 503 (by decide +kernel) (by decide +kernel)
theorem mH_L_asked : hMH yL_asked cL_asked 5 (some .int) [(0, 10, 13, 13)] 4 := ⟨qc_L_asked, qs_L_asked, qN_L, ⟨by decide, by decide⟩, by decide +kernel⟩
theorem qc_L_requests : (Cond.codeWith yL_requests cL_requests 4 (some .int) [(0, 9, 12, 13)]) ∈ gW := gW_mem 511 (by decide +kernel) (by decide +kernel)
theorem qs_L_requests : (Cond.static yL_requests) ∈ gW := gW_mem 510 (by decide +kernel) (by decide +kernel)
theorem mH_L_requests : hMH yL_requests cL_requests 4 (some .int) [(0, 9, 12, 13)] 3 := ⟨qc_L_requests, qs_L_requests, qN_L, ⟨by decide, by decide⟩, by decide +kernel⟩
theorem qc_L_isLooped : (Cond.codeWith yL_isLooped cL_isLooped 4 (some .int) [(0, 16, 19, 13)]) ∈ gW := gW_mem 518 (by decide +kernel) (by decide +kernel)
theorem qs_L_isLooped : (Cond.static yL_isLooped) ∈ gW := gW_mem 517 (by decide +kernel) (by decide +kernel)
theorem mH_L_isLooped : hMH yL_isLooped cL_isLooped 4 (some .int) [(0, 16, 19, 13)] 3 := ⟨qc_L_isLooped, qs_L_isLooped, qN_L, ⟨by decide, by decide⟩, by decide +kernel⟩
theorem qc_L_underWay : (Cond.codeWith yL_underWay cL_underWay 4 (some .int) [(0, 9, 12, 13)]) ∈ gW := gW_mem 525 (by decide +kernel) (by decide +kernel)
theorem qs_L_underWay : (Cond.static yL_underWay) ∈ gW := gW_mem 524 (by decide +kernel) (by decide +kernel)
theorem mH_L_underWay : hMH yL_underWay cL_underWay 4 (some .int) [(0, 9, 12, 13)] 3 := ⟨qc_L_underWay, qs_L_underWay, qN_L, ⟨by decide, by decide⟩, by decide +kernel⟩
theorem qc_L_missed : (Cond.codeWith yL_missed cL_missed 4 (some .int) [(0, 9, 12, 13)]) ∈ gW := gW_mem 532 (by decide +kernel) (by decide +kernel)
theorem qs_L_missed : (Cond.static yL_missed) ∈ gW := gW_mem 531 (by decide +kernel) (by decide +kernel)
theorem mH_L_missed : hMH yL_missed cL_missed 4 (some .int) [(0, 9, 12, 13)] 3 := ⟨qc_L_missed, qs_L_missed, qN_L, ⟨by decide, by decide⟩, by decide +kernel⟩
theorem qc_L_send : (Cond.codeWith yL_send cL_send 4 (some .int) [(0, 9, 12, 15), (0, 9, 15, 28)]) ∈ gW := gW_mem 539 (by decide +kernel) (by decide +kernel)
theorem qs_L_send : (Cond.static yL_send) ∈ gW := gW_mem 538 (by decide +kernel) (by decide +kernel)
theorem mH_L_send : hMH yL_send cL_send 4 (some .int) [(0, 9, 12, 15), (0, 9, 15, 28)] 3 := ⟨qc_L_send, qs_L_send, qN_L, ⟨by decide, by decide⟩, by decide +kernel⟩
theorem qc_L_come : (Cond.codeWith yL_come cL_come 4 (some .int) [(0, 9, 12, 13), (0, 9, 15, 28)]) ∈ gW := gW_mem 552 (by decide +kernel) (by decide +kernel)
theorem qs_L_come : (Cond.static yL_come) ∈ gW := gW_mem 551 (by decide +kernel) (by decide +kernel)
theorem mH_L_come : hMH yL_come cL_come 4 (some .int) [(0, 9, 12, 13), (0, 9, 15, 28)] 3 := ⟨qc_L_come, qs_L_come, qN_L, ⟨by decide, by decide⟩, by decide +kernel⟩
theorem qc_L_drop : (Cond.codeWith yL_drop cL_drop 4 (some .int) [(0, 9, 12, 13), (0, 9, 15, 28)]) ∈ gW := gW_mem 598 (by decide +kernel) (by decide +kernel)
theorem qs_L_drop : (Cond.static yL_drop) ∈ gW := gW_mem 597 (by decide +kernel) (by decide +kernel)
theorem mH_L_drop : hMH yL_drop cL_drop 4 (some .int) [(0, 9, 12, 13), (0, 9, 15, 28)] 3 := ⟨qc_L_drop, qs_L_drop, qN_L, ⟨by decide, by decide⟩, by decide +kernel⟩
theorem qc_L_givenAt : (Cond.codeWith yL_givenAt cL_givenAt 4 (some .int) [(0, 9, 12, 13)]) ∈ gW := gW_mem 606 (by decide +kernel) (by decide +kernel)
theorem qs_L_givenAt : (Cond.static yL_givenAt) ∈ gW := gW_mem 605 (by decide +kernel) (by decide +kernel)
theorem mH_L_givenAt : hMH yL_givenAt cL_givenAt 4 (some .int) [(0, 9, 12, 13)] 3 := ⟨qc_L_givenAt, qs_L_givenAt, qN_L, ⟨by decide, by decide⟩, by decide +kernel⟩
theorem in_X0 : ∀ w ∈ u_ws RX0 TX0 9, w ∈ gW := gW_all [145, 147, 149, 151, 153, 155, 157, 159, 161] (by decide +kernel) (by decide +kernel)
theorem in_X1 : ∀ w ∈ u_ws RX1 TX1 11, w ∈ gW := gW_all [102, 104, 106, 108, 110, 112, 114, 116, 118, 120, 122] (by decide +kernel) (by decide +kernel)
theorem in_X2 : ∀ w ∈ u_ws RX2 TX2 5, w ∈ gW := gW_all [376, 378, 380, 382, 384] (by decide +kernel) (by decide +kernel)
theorem in_X3 : ∀ w ∈ u_ws RX3 TX3 3, w ∈ gW := gW_all [74, 76, 78] (by decide +kernel) (by decide +kernel)
theorem in_X4 : ∀ w ∈ u_ws RX4 TX4 3, w ∈ gW := gW_all [168, 170, 172] (by decide +kernel) (by decide +kernel)
theorem in_X5 : ∀ w ∈ u_ws RX5 TX5 27, w ∈ gW := gW_all [645, 647, 649, 651, 653, 655, 657, 659, 661, 663, 665, 667, 669, 671, 673, 675, 677, 679, 681, 683, 685, 687, 689, 691, 693, 695, 697] (by decide +kernel) (by decide +kernel)
theorem tF_eI : Bundle.fit eI = true ∧ (∀ n ∈ tNm, Bundle.fit n = true) := ⟨by decide +kernel, by decide +kernel⟩
theorem tA_eI : ∀ w ∈ (vx_atS RX4 141 eI tNm).filter goodWord, w ∈ gW := hall_of (by decide +kernel)
theorem tB_eI : ∀ w ∈ (vx_atS RX4 141 eI tNm).filter (fun w => !goodWord w), w ∈ hOt := hall_of (by decide +kernel)
theorem tF_eA : Bundle.fit eA = true ∧ (∀ n ∈ tNm, Bundle.fit n = true) := ⟨by decide +kernel, by decide +kernel⟩
theorem tA_eA : ∀ w ∈ (vx_atS RX4 39 eA tNm).filter goodWord, w ∈ gW := hall_of (by decide +kernel)
theorem tB_eA : ∀ w ∈ (vx_atS RX4 39 eA tNm).filter (fun w => !goodWord w), w ∈ hOt := hall_of (by decide +kernel)
theorem tF_eS : Bundle.fit eS = true ∧ (∀ n ∈ tNm, Bundle.fit n = true) := ⟨by decide +kernel, by decide +kernel⟩
theorem tA_eS : ∀ w ∈ (vx_atS RX4 63 eS tNm).filter goodWord, w ∈ gW := hall_of (by decide +kernel)
theorem tB_eS : ∀ w ∈ (vx_atS RX4 63 eS tNm).filter (fun w => !goodWord w), w ∈ hOt := hall_of (by decide +kernel)
theorem tG_eI : ∀ w ∈ Cond.classLink RX4 137 eI :: Cond.initialized eI :: vx_atS RX4 141 eI tNm, vx_ot w = true := hallb_of (by decide +kernel)
theorem tG_eA : ∀ w ∈ Cond.classLink RX4 35 eA :: Cond.initialized eA :: vx_atS RX4 39 eA tNm, vx_ot w = true := hallb_of (by decide +kernel)
theorem tG_eS : ∀ w ∈ Cond.classLink RX4 59 eS :: Cond.initialized eS :: vx_atS RX4 63 eS tNm, vx_ot w = true := hallb_of (by decide +kernel)
end
