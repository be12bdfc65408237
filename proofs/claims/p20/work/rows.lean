section
/-- a private method of a class that the tables say can be made, by its rows of tables_1 -/
def lw_okq (q : MethodName × Nat) : Prop := (q.1.cls ≠ "java/lang/invoke/MethodHandle" ∧ q.1.cls ≠ "java/lang/invoke/VarHandle") ∧ Cond.instantiable q.1.cls q.2 ∈ tables_1 ∧ Cond.privateMethod q.1 ∈ tables_1 ∧ Cond.instanceMethod q.1 ∈ tables_1
theorem lw_p0 : lw_okq (⟨"OptionLine", "endAt", "(I)LOptionLine$End;"⟩, 3) := ⟨⟨by decide +kernel, by decide +kernel⟩, List.mem_of_getElem? (i := 17) (by decide +kernel), List.mem_of_getElem? (i := 159) (by decide +kernel), List.mem_of_getElem? (i := 160) (by decide +kernel)⟩
theorem lw_p1 : lw_okq (⟨"java/lang/Throwable", "fillInStackTrace", "(I)Ljava/lang/Throwable;"⟩, 6) := ⟨⟨by decide +kernel, by decide +kernel⟩, List.mem_of_getElem? (i := 201) (by decide +kernel), List.mem_of_getElem? (i := 199) (by decide +kernel), List.mem_of_getElem? (i := 200) (by decide +kernel)⟩
theorem lw_p2 : lw_okq (⟨"OptionLine$End", "ask", "()Z"⟩, 11) := ⟨⟨by decide +kernel, by decide +kernel⟩, List.mem_of_getElem? (i := 25) (by decide +kernel), List.mem_of_getElem? (i := 309) (by decide +kernel), List.mem_of_getElem? (i := 310) (by decide +kernel)⟩
theorem lw_p3 : lw_okq (⟨"OptionLine$End", "sendStop", "()V"⟩, 11) := ⟨⟨by decide +kernel, by decide +kernel⟩, List.mem_of_getElem? (i := 25) (by decide +kernel), List.mem_of_getElem? (i := 370) (by decide +kernel), List.mem_of_getElem? (i := 371) (by decide +kernel)⟩
theorem lw_p4 : lw_okq (⟨"OptionLine$End", "hearRequest", "(LOptionLine$Frame;)V"⟩, 11) := ⟨⟨by decide +kernel, by decide +kernel⟩, List.mem_of_getElem? (i := 25) (by decide +kernel), List.mem_of_getElem? (i := 396) (by decide +kernel), List.mem_of_getElem? (i := 397) (by decide +kernel)⟩
theorem lw_p5 : lw_okq (⟨"OptionLine$End", "answer", "(LOptionLine$Frame;)V"⟩, 11) := ⟨⟨by decide +kernel, by decide +kernel⟩, List.mem_of_getElem? (i := 25) (by decide +kernel), List.mem_of_getElem? (i := 400) (by decide +kernel), List.mem_of_getElem? (i := 401) (by decide +kernel)⟩
theorem lw_p6 : lw_okq (⟨"OptionLine$End", "kindOfAnswer", "([I)I"⟩, 11) := ⟨⟨by decide +kernel, by decide +kernel⟩, List.mem_of_getElem? (i := 25) (by decide +kernel), List.mem_of_getElem? (i := 404) (by decide +kernel), List.mem_of_getElem? (i := 405) (by decide +kernel)⟩
theorem lw_p7 : lw_okq (⟨"OptionLine$End", "isUnknown", "(II)Z"⟩, 11) := ⟨⟨by decide +kernel, by decide +kernel⟩, List.mem_of_getElem? (i := 25) (by decide +kernel), List.mem_of_getElem? (i := 408) (by decide +kernel), List.mem_of_getElem? (i := 409) (by decide +kernel)⟩
theorem lw_p8 : lw_okq (⟨"OptionLine$End", "isRefused", "(II)Z"⟩, 11) := ⟨⟨by decide +kernel, by decide +kernel⟩, List.mem_of_getElem? (i := 25) (by decide +kernel), List.mem_of_getElem? (i := 412) (by decide +kernel), List.mem_of_getElem? (i := 413) (by decide +kernel)⟩
theorem lw_p9 : lw_okq (⟨"OptionLine$End", "allows", "(II)Z"⟩, 11) := ⟨⟨by decide +kernel, by decide +kernel⟩, List.mem_of_getElem? (i := 25) (by decide +kernel), List.mem_of_getElem? (i := 416) (by decide +kernel), List.mem_of_getElem? (i := 417) (by decide +kernel)⟩
theorem lw_p10 : lw_okq (⟨"OptionLine$End", "toldOptions", "(I[I)[I"⟩, 11) := ⟨⟨by decide +kernel, by decide +kernel⟩, List.mem_of_getElem? (i := 25) (by decide +kernel), List.mem_of_getElem? (i := 420) (by decide +kernel), List.mem_of_getElem? (i := 421) (by decide +kernel)⟩
theorem lw_p11 : lw_okq (⟨"OptionLine$End", "lowestAllowed", "(I)I"⟩, 11) := ⟨⟨by decide +kernel, by decide +kernel⟩, List.mem_of_getElem? (i := 25) (by decide +kernel), List.mem_of_getElem? (i := 424) (by decide +kernel), List.mem_of_getElem? (i := 425) (by decide +kernel)⟩
theorem lw_p12 : lw_okq (⟨"OptionLine$End", "hearAnswer", "(LOptionLine$Frame;)V"⟩, 11) := ⟨⟨by decide +kernel, by decide +kernel⟩, List.mem_of_getElem? (i := 25) (by decide +kernel), List.mem_of_getElem? (i := 428) (by decide +kernel), List.mem_of_getElem? (i := 429) (by decide +kernel)⟩
theorem lw_p13 : lw_okq (⟨"OptionLine$End", "changeAskedFor", "(LOptionLine$Frame;)V"⟩, 11) := ⟨⟨by decide +kernel, by decide +kernel⟩, List.mem_of_getElem? (i := 25) (by decide +kernel), List.mem_of_getElem? (i := 432) (by decide +kernel), List.mem_of_getElem? (i := 433) (by decide +kernel)⟩
theorem lw_p14 : lw_okq (⟨"OptionLine", "refuseEmptyLine", "(I)V"⟩, 3) := ⟨⟨by decide +kernel, by decide +kernel⟩, List.mem_of_getElem? (i := 17) (by decide +kernel), List.mem_of_getElem? (i := 524) (by decide +kernel), List.mem_of_getElem? (i := 525) (by decide +kernel)⟩
theorem lw_p15 : lw_okq (⟨"OptionLine$Bundle", "advance", "()Z"⟩, 9) := ⟨⟨by decide +kernel, by decide +kernel⟩, List.mem_of_getElem? (i := 92) (by decide +kernel), List.mem_of_getElem? (i := 542) (by decide +kernel), List.mem_of_getElem? (i := 543) (by decide +kernel)⟩
def lw_privs_1 : List (MethodName × Nat) := [(⟨"OptionLine", "endAt", "(I)LOptionLine$End;"⟩, 3), (⟨"java/lang/Throwable", "fillInStackTrace", "(I)Ljava/lang/Throwable;"⟩, 6), (⟨"OptionLine$End", "ask", "()Z"⟩, 11), (⟨"OptionLine$End", "sendStop", "()V"⟩, 11), (⟨"OptionLine$End", "hearRequest", "(LOptionLine$Frame;)V"⟩, 11), (⟨"OptionLine$End", "answer", "(LOptionLine$Frame;)V"⟩, 11), (⟨"OptionLine$End", "kindOfAnswer", "([I)I"⟩, 11), (⟨"OptionLine$End", "isUnknown", "(II)Z"⟩, 11), (⟨"OptionLine$End", "isRefused", "(II)Z"⟩, 11), (⟨"OptionLine$End", "allows", "(II)Z"⟩, 11), (⟨"OptionLine$End", "toldOptions", "(I[I)[I"⟩, 11), (⟨"OptionLine$End", "lowestAllowed", "(I)I"⟩, 11), (⟨"OptionLine$End", "hearAnswer", "(LOptionLine$Frame;)V"⟩, 11), (⟨"OptionLine$End", "changeAskedFor", "(LOptionLine$Frame;)V"⟩, 11), (⟨"OptionLine", "refuseEmptyLine", "(I)V"⟩, 3), (⟨"OptionLine$Bundle", "advance", "()Z"⟩, 9)]
theorem lw_r1 : ∀ q ∈ lw_privs_1, lw_okq q := List.forall_mem_cons.mpr ⟨lw_p0, List.forall_mem_cons.mpr ⟨lw_p1, List.forall_mem_cons.mpr ⟨lw_p2, List.forall_mem_cons.mpr ⟨lw_p3, List.forall_mem_cons.mpr ⟨lw_p4, List.forall_mem_cons.mpr ⟨lw_p5, List.forall_mem_cons.mpr ⟨lw_p6, List.forall_mem_cons.mpr ⟨lw_p7, List.forall_mem_cons.mpr ⟨lw_p8, List.forall_mem_cons.mpr ⟨lw_p9, List.forall_mem_cons.mpr ⟨lw_p10, List.forall_mem_cons.mpr ⟨lw_p11, List.forall_mem_cons.mpr ⟨lw_p12, List.forall_mem_cons.mpr ⟨lw_p13, List.forall_mem_cons.mpr ⟨lw_p14, List.forall_mem_cons.mpr ⟨lw_p15, fun _ h => absurd h List.not_mem_nil⟩⟩⟩⟩⟩⟩⟩⟩⟩⟩⟩⟩⟩⟩⟩⟩
theorem lw_p16 : lw_okq (⟨"OptionLine$Bundle", "advanceFromFirst", "(I)Z"⟩, 9) := ⟨⟨by decide +kernel, by decide +kernel⟩, List.mem_of_getElem? (i := 92) (by decide +kernel), List.mem_of_getElem? (i := 546) (by decide +kernel), List.mem_of_getElem? (i := 547) (by decide +kernel)⟩
theorem lw_p17 : lw_okq (⟨"OptionLine$Bundle", "firstNotCome", "(I)I"⟩, 9) := ⟨⟨by decide +kernel, by decide +kernel⟩, List.mem_of_getElem? (i := 92) (by decide +kernel), List.mem_of_getElem? (i := 550) (by decide +kernel), List.mem_of_getElem? (i := 551) (by decide +kernel)⟩
theorem lw_p18 : lw_okq (⟨"OptionLine$Bundle", "give", "(I)V"⟩, 9) := ⟨⟨by decide +kernel, by decide +kernel⟩, List.mem_of_getElem? (i := 92) (by decide +kernel), List.mem_of_getElem? (i := 554) (by decide +kernel), List.mem_of_getElem? (i := 555) (by decide +kernel)⟩
theorem lw_p19 : lw_okq (⟨"OptionLine$Bundle", "bound", "()I"⟩, 9) := ⟨⟨by decide +kernel, by decide +kernel⟩, List.mem_of_getElem? (i := 92) (by decide +kernel), List.mem_of_getElem? (i := 558) (by decide +kernel), List.mem_of_getElem? (i := 559) (by decide +kernel)⟩
theorem lw_p20 : lw_okq (⟨"OptionLineModel", "begs", "(I)Z"⟩, 27) := ⟨⟨by decide +kernel, by decide +kernel⟩, List.mem_of_getElem? (i := 579) (by decide +kernel), List.mem_of_getElem? (i := 692) (by decide +kernel), List.mem_of_getElem? (i := 693) (by decide +kernel)⟩
theorem lw_p21 : lw_okq (⟨"OptionLineModel", "sends", "(IIII)V"⟩, 27) := ⟨⟨by decide +kernel, by decide +kernel⟩, List.mem_of_getElem? (i := 579) (by decide +kernel), List.mem_of_getElem? (i := 699) (by decide +kernel), List.mem_of_getElem? (i := 700) (by decide +kernel)⟩
theorem lw_p22 : lw_okq (⟨"OptionLineModel", "asksFrame", "(I)Z"⟩, 27) := ⟨⟨by decide +kernel, by decide +kernel⟩, List.mem_of_getElem? (i := 579) (by decide +kernel), List.mem_of_getElem? (i := 711) (by decide +kernel), List.mem_of_getElem? (i := 712) (by decide +kernel)⟩
theorem lw_p23 : lw_okq (⟨"OptionLineModel", "takes", "(I)I"⟩, 27) := ⟨⟨by decide +kernel, by decide +kernel⟩, List.mem_of_getElem? (i := 579) (by decide +kernel), List.mem_of_getElem? (i := 715) (by decide +kernel), List.mem_of_getElem? (i := 716) (by decide +kernel)⟩
theorem lw_p24 : lw_okq (⟨"OptionLineModel", "comes", "(II)V"⟩, 27) := ⟨⟨by decide +kernel, by decide +kernel⟩, List.mem_of_getElem? (i := 579) (by decide +kernel), List.mem_of_getElem? (i := 719) (by decide +kernel), List.mem_of_getElem? (i := 720) (by decide +kernel)⟩
theorem lw_p25 : lw_okq (⟨"OptionLineModel", "comesRequest", "(IIII)V"⟩, 27) := ⟨⟨by decide +kernel, by decide +kernel⟩, List.mem_of_getElem? (i := 579) (by decide +kernel), List.mem_of_getElem? (i := 723) (by decide +kernel), List.mem_of_getElem? (i := 724) (by decide +kernel)⟩
theorem lw_p26 : lw_okq (⟨"OptionLineModel", "answers", "(III)V"⟩, 27) := ⟨⟨by decide +kernel, by decide +kernel⟩, List.mem_of_getElem? (i := 579) (by decide +kernel), List.mem_of_getElem? (i := 727) (by decide +kernel), List.mem_of_getElem? (i := 728) (by decide +kernel)⟩
theorem lw_p27 : lw_okq (⟨"OptionLineModel", "comesAnswer", "(III)V"⟩, 27) := ⟨⟨by decide +kernel, by decide +kernel⟩, List.mem_of_getElem? (i := 579) (by decide +kernel), List.mem_of_getElem? (i := 737) (by decide +kernel), List.mem_of_getElem? (i := 738) (by decide +kernel)⟩
theorem lw_p28 : lw_okq (⟨"OptionLineModel", "goesBy", "(I)I"⟩, 27) := ⟨⟨by decide +kernel, by decide +kernel⟩, List.mem_of_getElem? (i := 579) (by decide +kernel), List.mem_of_getElem? (i := 753) (by decide +kernel), List.mem_of_getElem? (i := 754) (by decide +kernel)⟩
theorem lw_p29 : lw_okq (⟨"OptionLineModel", "asksEnd", "(I)Z"⟩, 27) := ⟨⟨by decide +kernel, by decide +kernel⟩, List.mem_of_getElem? (i := 579) (by decide +kernel), List.mem_of_getElem? (i := 761) (by decide +kernel), List.mem_of_getElem? (i := 762) (by decide +kernel)⟩
theorem lw_p30 : lw_okq (⟨"OptionLineModel", "asksLine", "(I)Z"⟩, 27) := ⟨⟨by decide +kernel, by decide +kernel⟩, List.mem_of_getElem? (i := 579) (by decide +kernel), List.mem_of_getElem? (i := 793) (by decide +kernel), List.mem_of_getElem? (i := 794) (by decide +kernel)⟩
theorem lw_p31 : lw_okq (⟨"OptionLineModel", "goesOn", "()Z"⟩, 27) := ⟨⟨by decide +kernel, by decide +kernel⟩, List.mem_of_getElem? (i := 579) (by decide +kernel), List.mem_of_getElem? (i := 797) (by decide +kernel), List.mem_of_getElem? (i := 798) (by decide +kernel)⟩
def lw_privs_2 : List (MethodName × Nat) := [(⟨"OptionLine$Bundle", "advanceFromFirst", "(I)Z"⟩, 9), (⟨"OptionLine$Bundle", "firstNotCome", "(I)I"⟩, 9), (⟨"OptionLine$Bundle", "give", "(I)V"⟩, 9), (⟨"OptionLine$Bundle", "bound", "()I"⟩, 9), (⟨"OptionLineModel", "begs", "(I)Z"⟩, 27), (⟨"OptionLineModel", "sends", "(IIII)V"⟩, 27), (⟨"OptionLineModel", "asksFrame", "(I)Z"⟩, 27), (⟨"OptionLineModel", "takes", "(I)I"⟩, 27), (⟨"OptionLineModel", "comes", "(II)V"⟩, 27), (⟨"OptionLineModel", "comesRequest", "(IIII)V"⟩, 27), (⟨"OptionLineModel", "answers", "(III)V"⟩, 27), (⟨"OptionLineModel", "comesAnswer", "(III)V"⟩, 27), (⟨"OptionLineModel", "goesBy", "(I)I"⟩, 27), (⟨"OptionLineModel", "asksEnd", "(I)Z"⟩, 27), (⟨"OptionLineModel", "asksLine", "(I)Z"⟩, 27), (⟨"OptionLineModel", "goesOn", "()Z"⟩, 27)]
theorem lw_r2 : ∀ q ∈ lw_privs_2, lw_okq q := List.forall_mem_cons.mpr ⟨lw_p16, List.forall_mem_cons.mpr ⟨lw_p17, List.forall_mem_cons.mpr ⟨lw_p18, List.forall_mem_cons.mpr ⟨lw_p19, List.forall_mem_cons.mpr ⟨lw_p20, List.forall_mem_cons.mpr ⟨lw_p21, List.forall_mem_cons.mpr ⟨lw_p22, List.forall_mem_cons.mpr ⟨lw_p23, List.forall_mem_cons.mpr ⟨lw_p24, List.forall_mem_cons.mpr ⟨lw_p25, List.forall_mem_cons.mpr ⟨lw_p26, List.forall_mem_cons.mpr ⟨lw_p27, List.forall_mem_cons.mpr ⟨lw_p28, List.forall_mem_cons.mpr ⟨lw_p29, List.forall_mem_cons.mpr ⟨lw_p30, List.forall_mem_cons.mpr ⟨lw_p31, fun _ h => absurd h List.not_mem_nil⟩⟩⟩⟩⟩⟩⟩⟩⟩⟩⟩⟩⟩⟩⟩⟩
theorem lw_p32 : lw_okq (⟨"OptionLineModel", "bound", "()I"⟩, 27) := ⟨⟨by decide +kernel, by decide +kernel⟩, List.mem_of_getElem? (i := 579) (by decide +kernel), List.mem_of_getElem? (i := 801) (by decide +kernel), List.mem_of_getElem? (i := 802) (by decide +kernel)⟩
theorem lw_p33 : lw_okq (⟨"OptionLineModel", "missing", "(I)I"⟩, 27) := ⟨⟨by decide +kernel, by decide +kernel⟩, List.mem_of_getElem? (i := 579) (by decide +kernel), List.mem_of_getElem? (i := 805) (by decide +kernel), List.mem_of_getElem? (i := 806) (by decide +kernel)⟩
def lw_privs_3 : List (MethodName × Nat) := [(⟨"OptionLineModel", "bound", "()I"⟩, 27), (⟨"OptionLineModel", "missing", "(I)I"⟩, 27)]
theorem lw_r3 : ∀ q ∈ lw_privs_3, lw_okq q := List.forall_mem_cons.mpr ⟨lw_p32, List.forall_mem_cons.mpr ⟨lw_p33, fun _ h => absurd h List.not_mem_nil⟩⟩
def lw_privs : List (MethodName × Nat) := lw_privs_1 ++ (lw_privs_2 ++ (lw_privs_3))
def lw_tbl : List Cond := k2_sels lw_privs ++ tables_1
theorem lw_privs_ok : ∀ q ∈ lw_privs, lw_okq q := by
  show ∀ q ∈ lw_privs_1 ++ (lw_privs_2 ++ (lw_privs_3)), lw_okq q
  exact List.forall_mem_append.mpr ⟨lw_r1, List.forall_mem_append.mpr ⟨lw_r2, lw_r3⟩⟩
/-! ===== BEGIN words of one list among another's, by their places ===== -/
theorem goodIn_r {big : List Cond} (ws : List Cond) (ps : List Nat) (hp : ws = ps.filterMap (fun i => big[i]?)) (h : ws.all goodWord = true) : GoodIn big ws := by
  intro w hw
  have h1 := List.all_eq_true.mp h w hw
  rw [hp] at hw
  obtain ⟨i, -, hi⟩ := List.mem_filterMap.mp hw
  have hm : w ∈ big := by first | exact List.mem_of_getElem? hi | exact List.getElem?_mem hi
  exact ⟨hm, good_of_word h1⟩
theorem goodIn_app {big a b : List Cond} (ha : GoodIn big a) (hb : GoodIn big b) : GoodIn big (a ++ b) := fun w h => (List.mem_append.mp h).elim (ha w) (hb w)
theorem goodIn_ca {big a b : List Cond} {c : Cond} (ha : GoodIn big (c :: a)) (hb : GoodIn big b) : GoodIn big (c :: (a ++ b)) := fun w h => (List.mem_cons.mp h).elim (fun e => ha w (List.mem_cons.mpr (Or.inl e))) (fun h => (List.mem_append.mp h).elim (fun h => ha w (List.mem_cons.mpr (Or.inr h))) (hb w))
theorem goodIn_sub {big ws : List Cond} (hm : ∀ w ∈ ws, w ∈ big) (h : ws.all goodWord = true) : GoodIn big ws := fun w hw => ⟨hm w hw, good_of_word (List.all_eq_true.mp h w hw)⟩
/-! ===== END ===== -/

/-! ===== BEGIN exceptions that leave a method, and their catching by the caller (launches without stack traces) ===== -/
section VXA
/-! The laws vx_back, vx_callV, vx_callS, vx_callSW, vx_throw0, vx_throwS follow proofs of the library, with one case more: JvmDerived/Free/Laws.lean (Back.of_free), Shelf42/LK1.lean (callV, callS), Shelf/KitTraced.lean (throwNew0V, throwNewS). -/
/-- where a method has thrown q: the class by its name, the cell, what was written, the world -/
def vx_T (XC : String → State → State → Prop) (st : State) (q : Addr) (t : State) (mc ms : Nat) (free : Addr → Prop) : Prop :=
  ∃ (E : String) (ce : Cell) (L : List Loc), XC E st t ∧ t.heap[q]? = some ce ∧ ce.vm = .none ∧ st.vm.findClass E = some ce.cls ∧ st.WarmedH t.vm ∧ st.sameButNew ({ t with vm := st.vm } : State) L mc ms ∧ ∀ z ∈ L, free z.base
def vx_Q (Qc : Array Value → State → Outcome → State → Prop) (XC : String → State → State → Prop) (mc ms : Nat) (free : Addr → Prop) : Array Value → State → Outcome → State → Prop := fun a st o t =>
  (Qc a st o t ∧ ∃ L, FrameEnd st o t L mc ms ∧ ∀ q ∈ L, free q.base) ∨ ∃ q, o = .threw q ∧ vx_T XC st q t mc ms free
/-- a callee that returns or throws -/
def vx_Met (l : Launch) (y : MethodName) (ws : List Cond) (rm : Room) (Pc : Array Value → State → Prop) (Qc : Array Value → State → Outcome → State → Prop) (XC : String → State → State → Prop) (mc ms : Nat) (free : Addr → Prop) : Prop :=
  MetFree l y (headSpec ws rm) Pc (fun _ _ _ _ _ => True) (vx_Q Qc XC mc ms free)
def vx_Post (XC : String → State → State → Prop) (mc ms : Nat) (free : Addr → Prop) : Pt → Array Value → Addr → Pt → Prop := fun A a q B =>
  ∃ (g : JFrame) (mk : MethodId) (t : State) (L : List Loc) (E : String) (ce : Cell), B.U.heap = t.heap ∧ B.U.vm = t.vm ∧ XC E (A.U.calling g mk a) t ∧ t.heap[q]? = some ce ∧ ce.vm = .none ∧ A.U.vm.findClass E = some ce.cls ∧ B.locs = A.locs ++ L ∧ (∀ z ∈ L, free z.base) ∧ B.cells = A.cells + mc ∧ B.slots = A.slots + ms
def vx_Back (l : Launch) (R : Room) (p : Program) (e : Env) (below : List Frame) (s : State) (sargs : Array Value) (y : MethodName) (len W9 : Nat)
    (Pre : Pt → Array Value → Prop) (Post : Pt → Array Value → Option Value → Pt → Prop) (PostX : Pt → Array Value → Addr → Pt → Prop) : Prop :=
  ∀ (m : MethodId) (meth : Method) (c : Code) (A : Pt) (g : JFrame) (ig : Instr) (mk : MethodId) (a : Array Value),
    Stand p l e R s m sargs below meth c A.U A.locs A.cells A.slots → g.method = m → g.locals.size = c.maxLocals → decode c.code g.pc = .ok (ig, len) →
    2 * g.monitorRoom + (g.stack.map fun v => v.category).sum ≤ W9 → A.U.methodNamed? y = some mk → Pre A a →
    (∃ (v : Option Value) (B : Pt), Stand p l e R s m sargs below meth c B.U B.locs B.cells B.slots ∧ Post A a v B ∧
      Steps p.tables e below (doInvoke e (A.U.setTop g) [] mk a).1 (B.U.setTop { g with pc := g.pc + len, stack := v.toList ++ g.stack })) ∨
    (∃ (q : Addr) (B : Pt), Stand p l e R s m sargs below meth c B.U B.locs B.cells B.slots ∧ PostX A a q B ∧
      Steps p.tables e below (doInvoke e (A.U.setTop g) [] mk a).1 ((B.U.setTop g).pushFrame (.throwing q)))
section Payer
variable {l : Launch} {R : Room} {p : Program} {e : Env} {below : List Frame} {s : State} {sargs : Array Value} {y : MethodName} {len W9 : Nat}
theorem vx_back {ws : List Cond} {rm : Room} {Pc : Array Value → State → Prop} {Qc : Array Value → State → Outcome → State → Prop} {XC : String → State → State → Prop} {mc ms : Nat} {free : Addr → Prop} {bytes : ByteArray} {maxL : Nat} {ret : Option FieldType}
    (hM : vx_Met l y ws rm Pc Qc XC mc ms free) (hblind : FrameBlind Pc) (hrc : rm.cells = mc) (hrs : rm.slots = ms)
    (hframes : rm.frames + 1 ≤ R.frames) (hlocals : W9 + (maxL + 11) + rm.locals ≤ R.locals)
    (hws : ∀ w ∈ ws, ∀ a' U, s.WarmedH U.vm → w.before a' U = true) (hcode : Cond.code y bytes maxL ret ∈ ws) (hinit : ∀ a' U, s.WarmedH U.vm → (Cond.initialized y.cls).before a' U = true) :
    vx_Back l R p e below s sargs y len W9 (PreOf R mc ms Pc) (PostOf Qc mc ms free) (vx_Post XC mc ms free) := by
  intro m meth c A g ig mk a X hg hsize hdg hW hn hp
  have h1 : (headSpec ws rm).pre.before a A.U = true := atoms_intro fun w hw => hws w hw _ _ X.warmed
  have h2 : (Cond.code y bytes maxL ret).before a A.U = true := hws _ hcode _ _ X.warmed
  have h3 : (Cond.initialized y.cls).before a A.U = true := hinit _ _ X.warmed
  have h4 : A.cells + (headSpec ws rm).room.cells ≤ R.cells := by rw [show (headSpec ws rm).room.cells = mc from hrc]; exact hp.1
  have h5 : A.slots + (headSpec ws rm).room.slots ≤ R.slots := by rw [show (headSpec ws rm).room.slots = ms from hrs]; exact hp.2.1
  have hPc : Pc a (A.U.calling g mk a) := hblind _ _ _ _ hp.2.2
  obtain ⟨U, Ls, c0, s0⟩ := A
  dsimp only [Pt.U, Pt.locs, Pt.cells, Pt.slots] at h1 h2 h3 h4 h5 X hn hPc ⊢
  obtain ⟨methY, cY, hmY, hcY, -, hlY, -, -, -, -⟩ := Cond.code_spec hn h2
  obtain ⟨kY, hkY, -⟩ := className_of_methodNamed hn
  have hinitY : kY.init = .initialized := Cond.initialized_spec (findClass_of_methodNamed hn) hkY h3
  have h : At U g.method c below := by rw [hg]; exact X.here
  have hlocals9 : W9 + (maxL + 11) + (headSpec ws rm).room.locals ≤ R.locals := hlocals
  have happ : (headSpec ws rm).appliesLoose y e.platform (U.calling g mk a) = true :=
    Spec.appliesLoose_calling (g := g) h hdg hn hkY hinitY
      (X.room_calling (g := g) (R' := (headSpec ws rm).room) hsize hmY hcY hframes (by rw [hlY]; omega) h4 h5) h1
  obtain ⟨mid, hmid⟩ := h.above
  have hfr : (U.setTop g).frames = (.java g :: mid) ++ below := by rw [State.frames_setTop' g h.top, hmid]; rfl
  obtain ⟨o, s₂, hsteps, -, hend, hq⟩ := Steps.callFree hM p X.admits X.cas X.clock (acts := []) hfr happ hPc trivial
  have hq' : vx_Q Qc XC mc ms free a (U.calling g mk a) o s₂ := hq
  rw [State.frames_setTop' g h.top] at hend
  obtain ⟨g₀, hg0⟩ := Option.isSome_iff_exists.mp h.top
  obtain ⟨r, hr⟩ := State.topJava?_eq_some.mp hg0
  have hr' : (({ U with heap := s₂.heap, slotsUsed := s₂.slotsUsed } : State).setVm s₂.vm).frames = .java g₀ :: r := hr
  rcases hq' with ⟨hqc, L, hfe, hL⟩ | ⟨q, rfl, E, ce, L, hx, hce, hcv, hcl, hW₂, hsm, hL⟩
  · obtain ⟨⟨v, rfl⟩, hW₂, e2, q2, q3, q4, q5, q6⟩ := id hfe
    have e3 : s₂ = ({ (U.calling g mk a).setFrames s₂.frames with heap := s₂.heap, slotsUsed := s₂.slotsUsed } : State).setVm s₂.vm := by
      have : s₂ = ({ s₂ with vm := (U.calling g mk a).vm } : State).setVm s₂.vm := rfl
      rw [e2] at this
      exact this
    obtain ⟨c₂, i₂, len₂, hc₂, hd₂, hf₂⟩ := hend
    have hW' : U.WarmedH s₂.vm := hW₂
    have hcc : c₂ = c := by
      have h1 : s₂.code? g.method = U.code? g.method := by
        rw [State.code?_eq, State.code?_eq, hW'.alike.method?]
      exact Option.some.inj (hc₂.symm.trans (h1.trans h.code))
    subst hcc
    have hlen : len₂ = len := by rw [hdg] at hd₂; cases hd₂; rfl
    subst hlen
    have hs₂ : s₂ = (({ U with heap := s₂.heap, slotsUsed := s₂.slotsUsed } : State).setVm s₂.vm).setTop { g with pc := g.pc + len₂, stack := v.toList ++ g.stack } := by
      refine e3.trans ?_
      rw [hf₂, State.calling_eq h.top, State.setFrames_setFrames, State.setTop_of_frames _ hr', hr]
      rfl
    have hsame : U.sameButNew ({ U with heap := s₂.heap, slotsUsed := s₂.slotsUsed } : State) L mc ms := by
      refine ⟨?_, q2, q3, q4, q5, q6⟩
      obtain ⟨t, ht, -⟩ := State.frames_cons hr
      show ({ U with heap := s₂.heap, slotsUsed := s₂.slotsUsed } : State) = { U.setFrames U.frames with heap := s₂.heap, slotsUsed := s₂.slotsUsed }
      rw [State.setFrames_self ht]
    subst hg
    refine Or.inl ⟨v, ⟨(({ U with heap := s₂.heap, slotsUsed := s₂.slotsUsed } : State).setVm s₂.vm), Ls ++ L, c0 + mc, s0 + ms⟩,
      ⟨X.admits, X.cas, X.clock, X.frames, X.room, X.hears, X.method, X.code, (X.here.setHeapUsed s₂.heap s₂.slotsUsed).setVm hW'.alike, X.tail, State.WarmedH.trans X.warmed hW', X.limits, X.bytes, X.same.trans (hsame.setVm s.vm)⟩,
      ⟨g, mk, s₂, L, rfl, rfl, hqc, rfl, hL, rfl, rfl⟩, ?_⟩
    show Steps p.tables e below _ ((({ U with heap := s₂.heap, slotsUsed := s₂.slotsUsed } : State).setVm s₂.vm).setTop { g with pc := g.pc + len₂, stack := v.toList ++ g.stack })
    rw [← hs₂]
    exact hsteps
  · obtain ⟨e2, q2, q3, q4, q5, q6⟩ := id hsm
    have e3 : s₂ = ({ (U.calling g mk a).setFrames s₂.frames with heap := s₂.heap, slotsUsed := s₂.slotsUsed } : State).setVm s₂.vm := by
      have : s₂ = ({ s₂ with vm := (U.calling g mk a).vm } : State).setVm s₂.vm := rfl
      rw [e2] at this
      exact this
    have hf₂ : s₂.frames = .throwing q :: .java g :: U.frames.tail := hend
    have hW' : U.WarmedH s₂.vm := hW₂
    have hs₂ : s₂ = ((({ U with heap := s₂.heap, slotsUsed := s₂.slotsUsed } : State).setVm s₂.vm).setTop g).pushFrame (.throwing q) := by
      refine e3.trans ?_
      rw [hf₂, State.calling_eq h.top, State.setFrames_setFrames, State.pushFrame, State.frames_setTop _ hr', State.setTop_of_frames _ hr', State.setFrames_setFrames, hr]
      rfl
    have hsame : U.sameButNew ({ U with heap := s₂.heap, slotsUsed := s₂.slotsUsed } : State) L mc ms := by
      refine ⟨?_, q2, q3, q4, q5, q6⟩
      obtain ⟨t, ht, -⟩ := State.frames_cons hr
      show ({ U with heap := s₂.heap, slotsUsed := s₂.slotsUsed } : State) = { U.setFrames U.frames with heap := s₂.heap, slotsUsed := s₂.slotsUsed }
      rw [State.setFrames_self ht]
    subst hg
    refine Or.inr ⟨q, ⟨(({ U with heap := s₂.heap, slotsUsed := s₂.slotsUsed } : State).setVm s₂.vm), Ls ++ L, c0 + mc, s0 + ms⟩,
      ⟨X.admits, X.cas, X.clock, X.frames, X.room, X.hears, X.method, X.code, (X.here.setHeapUsed s₂.heap s₂.slotsUsed).setVm hW'.alike, X.tail, State.WarmedH.trans X.warmed hW', X.limits, X.bytes, X.same.trans (hsame.setVm s.vm)⟩,
      ⟨g, mk, s₂, L, E, ce, rfl, rfl, hx, hce, hcv, hcl, rfl, hL, rfl, rfl⟩, ?_⟩
    show Steps p.tables e below _ (((({ U with heap := s₂.heap, slotsUsed := s₂.slotsUsed } : State).setVm s₂.vm).setTop g).pushFrame (.throwing q))
    rw [← hs₂]
    exact hsteps
end Payer
section Calls
variable {p : Program} {l : Launch} {e : Env} {R : Room} {s : State} {m : MethodId} {args : Array Value} {below : List Frame} {meth : Method} {c : Code} {T : State} {locs : List Loc} {cells slots : Nat}
theorem vx_callV (X : Stand p l e R s m args below meth c T locs cells slots) (hexec : p.tables.exec = Jvm.exec) {own C : String} {index : Nat} {y : MethodName} {bytes : ByteArray} {maxL : Nat} {ret : Option FieldType}
    (hown : s.vm.findClass own = some m.cls) (hlink : (Cond.methodLink own index y).before args s = true) (hinst : (Cond.instanceMethod y).before args s = true) (hsel : (Cond.selects C y y).before args s = true)
    (hcode : (Cond.code y bytes maxL ret).before args s = true) (hy : y.cls ≠ "java/lang/invoke/MethodHandle" ∧ y.cls ≠ "java/lang/invoke/VarHandle")
    {W9 : Nat} {Pre : Pt → Array Value → Prop} {Post : Pt → Array Value → Option Value → Pt → Prop} {PostX : Pt → Array Value → Addr → Pt → Prop} (hK : vx_Back l R p e below s args y 3 W9 Pre Post PostX)
    {b : Addr} {cellB : Cell} (hcell : T.heap[b]? = some cellB) (hobj : cellB.vm.isStatics = false) (hcls : s.vm.findClass C = some cellB.cls)
    {g : JFrame} (hg : g.method = m) (hsize : g.locals.size = c.maxLocals) {argsL rest : List Value} (hlen : ∀ sig, parseMethodDescriptor y.desc = some sig → argsL.length = sig.parameters.length)
    (hstack : g.stack = argsL.reverse ++ .ref b :: rest) (hW : 2 * g.monitorRoom + (rest.map fun v => v.category).sum ≤ W9) (hdg : decode c.code g.pc = .ok (.invokevirtual index, 3))
    (hpre : ∀ vm₁, s.WarmedH vm₁ → Pre ⟨T.setVm vm₁, locs, cells, slots⟩ (Value.ref b :: argsL).toArray) :
    (∃ (v : Option Value) (vm₁ : Vm) (B : Pt), s.WarmedH vm₁ ∧ Stand p l e R s m args below meth c B.U B.locs B.cells B.slots ∧ Post ⟨T.setVm vm₁, locs, cells, slots⟩ (Value.ref b :: argsL).toArray v B ∧
      ∀ target, Steps p.tables e below (B.U.setTop { g with pc := g.pc + 3, stack := v.toList ++ rest }) target → Steps p.tables e below (T.setTop g) target) ∨
    (∃ (q : Addr) (vm₁ : Vm) (B : Pt), s.WarmedH vm₁ ∧ Stand p l e R s m args below meth c B.U B.locs B.cells B.slots ∧ PostX ⟨T.setVm vm₁, locs, cells, slots⟩ (Value.ref b :: argsL).toArray q B ∧
      Steps p.tables e below (T.setTop g) ((B.U.setTop { g with stack := rest }).pushFrame (.throwing q))) := by
  obtain ⟨mk, methM, hnamed, hmethM, hstM, habM⟩ := Cond.instanceMethod_spec hinst
  obtain ⟨methM', cM, hmethM', -, -, -, -, -, -, hsigM⟩ := Cond.code_spec hnamed hcode
  cases hmethM.symm.trans hmethM'
  obtain ⟨c2, r2, m2, q1, q2, q3, q4, kP, hkP, hkPi⟩ := Cond.selects_spec hsel
  cases hcls.symm.trans q1
  cases (State.methodFound?_of_named hnamed hy).symm.trans q2
  cases hnamed.symm.trans q3
  have hselP : selectMethod e.platform s.vm cellB.cls mk = .method mk := by rw [Launch.admits_selectMethod X.admits]; exact q4
  obtain ⟨vm₁, X₁, hstep₁⟩ := X.invokevirtual hexec hown hlink hnamed hmethM hstM hkP hkPi hy (a := b) (cell := cellB) hcell
    (fun z h => by rw [h] at hobj; cases hobj) hselP hmethM habM hkP hkPi (g := g) hg (argsL := argsL) (rest := rest) (hlen _ hsigM) hstack hdg
  rcases hK m meth c ⟨T.setVm vm₁, locs, cells, slots⟩ { g with stack := rest } (.invokevirtual index) mk (Value.ref b :: argsL).toArray X₁ hg hsize hdg hW (X₁.named hnamed) (hpre vm₁ X₁.warmed) with ⟨v, B, X', hpost, hsteps⟩ | ⟨q, B, X', hpost, hsteps⟩
  · exact Or.inl ⟨v, vm₁, B, X₁.warmed, X', hpost, fun target h => hstep₁ _ fun acts => by rw [doInvoke_state]; exact hsteps.trans h⟩
  · exact Or.inr ⟨q, vm₁, B, X₁.warmed, X', hpost, hstep₁ _ fun acts => by rw [doInvoke_state]; exact hsteps⟩
theorem vx_callS (X : Stand p l e R s m args below meth c T locs cells slots) (hexec : p.tables.exec = Jvm.exec) {own : String} {index : Nat} {y : MethodName} {bytes : ByteArray} {maxL : Nat} {ret : Option FieldType}
    (hown : s.vm.findClass own = some m.cls) (hlink : (Cond.methodLink own index y).before args s = true) (hstat : (Cond.static y).before args s = true) (hinit : (Cond.initialized y.cls).before args s = true)
    (hcode : (Cond.code y bytes maxL ret).before args s = true) (hy : y.cls ≠ "java/lang/invoke/MethodHandle" ∧ y.cls ≠ "java/lang/invoke/VarHandle")
    {W9 : Nat} {Pre : Pt → Array Value → Prop} {Post : Pt → Array Value → Option Value → Pt → Prop} {PostX : Pt → Array Value → Addr → Pt → Prop} (hK : vx_Back l R p e below s args y 3 W9 Pre Post PostX)
    {g : JFrame} (hg : g.method = m) (hsize : g.locals.size = c.maxLocals) {argsL rest : List Value} (hlen : ∀ sig, parseMethodDescriptor y.desc = some sig → argsL.length = sig.parameters.length)
    (hstack : g.stack = argsL.reverse ++ rest) (hW : 2 * g.monitorRoom + (rest.map fun v => v.category).sum ≤ W9) (hdg : decode c.code g.pc = .ok (.invokestatic index, 3))
    (hpre : ∀ vm₁, s.WarmedH vm₁ → Pre ⟨T.setVm vm₁, locs, cells, slots⟩ argsL.toArray) :
    (∃ (v : Option Value) (vm₁ : Vm) (B : Pt), s.WarmedH vm₁ ∧ Stand p l e R s m args below meth c B.U B.locs B.cells B.slots ∧ Post ⟨T.setVm vm₁, locs, cells, slots⟩ argsL.toArray v B ∧
      ∀ target, Steps p.tables e below (B.U.setTop { g with pc := g.pc + 3, stack := v.toList ++ rest }) target → Steps p.tables e below (T.setTop g) target) ∨
    (∃ (q : Addr) (vm₁ : Vm) (B : Pt), s.WarmedH vm₁ ∧ Stand p l e R s m args below meth c B.U B.locs B.cells B.slots ∧ PostX ⟨T.setVm vm₁, locs, cells, slots⟩ argsL.toArray q B ∧
      Steps p.tables e below (T.setTop g) ((B.U.setTop { g with stack := rest }).pushFrame (.throwing q))) := by
  obtain ⟨mk, hnamed⟩ := Cond.code_named hcode
  obtain ⟨methM, cM, hmethM, -, -, -, -, -, -, hsigM⟩ := Cond.code_spec hnamed hcode
  have hstatic : methM.isStatic = true := Cond.static_spec hnamed hmethM hstat
  obtain ⟨kP, hkP, -⟩ := className_of_methodNamed hnamed
  have hinitP : kP.init = .initialized := Cond.initialized_spec (findClass_of_methodNamed hnamed) hkP hinit
  obtain ⟨vm₁, X₁, hstep₁⟩ := X.invokestatic hexec hown hlink hnamed hmethM hstatic hkP hinitP hy (g := g) hg (argsL := argsL) (rest := rest) (hlen _ hsigM) hstack hdg
  rcases hK m meth c ⟨T.setVm vm₁, locs, cells, slots⟩ { g with stack := rest } (.invokestatic index) mk argsL.toArray X₁ hg hsize hdg hW (X₁.named hnamed) (hpre vm₁ X₁.warmed) with ⟨v, B, X', hpost, hsteps⟩ | ⟨q, B, X', hpost, hsteps⟩
  · exact Or.inl ⟨v, vm₁, B, X₁.warmed, X', hpost, fun target h => hstep₁ _ fun acts => by rw [doInvoke_state]; exact hsteps.trans h⟩
  · exact Or.inr ⟨q, vm₁, B, X₁.warmed, X', hpost, hstep₁ _ fun acts => by rw [doInvoke_state]; exact hsteps⟩
end Calls
theorem vx_cls {s : State} {T : State} {vm₁ : Vm} {E : String} {k : ClassId} (hW : s.WarmedH vm₁) (h : (T.setVm vm₁).vm.findClass E = some k) : s.vm.findClass E = some k := by
  have h1 : vm₁.findClass E = some k := h
  rw [hW.alike.findClass] at h1
  exact h1
/-- the method's frame g, with q thrown over it -/
def vx_W (p : Program) (l : Launch) (e : Env) (R : Room) (s : State) (m : MethodId) (args : Array Value) (below : List Frame) (meth : Method) (c : Code) (H : Heap) (locs : List Loc) (cells slots : Nat) (Q : State → Prop) (g : JFrame) (q : Addr) : Prop :=
  ∀ T : State, T.heap = H → Stand p l e R s m args below meth c T locs cells slots → ∃ t, Steps p.tables e below ((T.setTop g).pushFrame (.throwing q)) t ∧ Q t
def vx_Run (p : Program) (l : Launch) (e : Env) (R : Room) (s : State) (m : MethodId) (args : Array Value) (below : List Frame) (meth : Method) (c : Code) (H : Heap) (locs : List Loc) (cells slots mc ms : Nat) (g : JFrame) (rest : List Value) (Qa : State → Outcome → State → Prop) (XC : String → State → State → Prop) (free : Addr → Prop) : Prop :=
  ∀ T : State, T.heap = H → Stand p l e R s m args below meth c T locs cells slots →
    (∃ (v : Option Value) (st₀ t T' : State) (L : List Loc), st₀.heap = H ∧ Stand p l e R s m args below meth c T' (locs ++ L) (cells + mc) (slots + ms) ∧ (∀ q ∈ L, free q.base) ∧ T'.heap = t.heap ∧ T'.vm = t.vm ∧ Qa st₀ (.returned v) t ∧
      Goes p e below T g T' { g with pc := g.pc + 3, stack := v.toList ++ rest }) ∨
    (∃ (q : Addr) (st₀ t T' : State) (L : List Loc) (E : String) (ce : Cell), st₀.heap = H ∧ Stand p l e R s m args below meth c T' (locs ++ L) (cells + mc) (slots + ms) ∧ (∀ z ∈ L, free z.base) ∧ T'.heap = t.heap ∧ T'.vm = t.vm ∧ XC E st₀ t ∧ t.heap[q]? = some ce ∧ ce.vm = .none ∧ s.vm.findClass E = some ce.cls ∧
      Steps p.tables e below (T.setTop g) ((T'.setTop { g with stack := rest }).pushFrame (.throwing q)))
def vx_X {S : Type} (px : S → Prop) (B : String → S → State → Prop) (A : Nat → Prop) : String → State → State → Prop := fun E st t => ∃ u : S, px u ∧ B E u t ∧ va_F A st t
section Runs
variable {p : Program} {l : Launch} {e : Env} {R : Room} {s : State} {m : MethodId} {args : Array Value} {below : List Frame} {meth : Method} {c : Code} {H : Heap} {locs : List Loc} {cells slots : Nat}
variable {y : MethodName} {bytes cc : ByteArray} {maxL nL mc ms n index : Nat} {ret : Option FieldType} {ws : List Cond} {rm : Room} {Pc : Array Value → State → Prop} {Qc : Array Value → State → Outcome → State → Prop} {XC : String → State → State → Prop} {free : Addr → Prop} {Ts : List Cond} {own C : String} {b : Addr} {As rest : List Value} {g : JFrame}
theorem vx_callBack (cb : CallB R s args own index y bytes maxL ret ws rm mc ms n) (hM : vx_Met l y ws rm Pc Qc XC mc ms free) (hbl : FrameBlind Pc) : vx_Back l R p e below s args y 3 8 (PreOf R mc ms Pc) (PostOf Qc mc ms free) (vx_Post XC mc ms free) := by
  obtain ⟨hrc, hrs, hfr, hlo, hws, hcw, -, hini, -⟩ := cb
  exact vx_back (bytes := bytes) (maxL := maxL) (ret := ret) hM hbl hrc hrs hfr hlo hws hcw (fun a' U hW => word_at hW (Or.inl (by first | rfl | simp [Cond.onTables, Cond.keeps, Cond.steady])) hini)
theorem vx_runV (S : CallFix p m c cc nL s args Ts own) (hM : vx_Met l y ws rm Pc Qc XC mc ms free) (cw : CallW R s args own C index y bytes maxL ret ws rm mc ms n) (hp : PreV s H C b Pc As)
    (hg : g.method = m) (hn : As.length = n) (hsize : g.locals.size = nL) (hstack : g.stack = As.reverse ++ .ref b :: rest) (hW : 2 * g.monitorRoom + (rest.map fun v => v.category).sum ≤ 8) (hdg : decode cc g.pc = .ok (.invokevirtual index, 3)) (hf : cells + mc ≤ R.cells ∧ slots + ms ≤ R.slots) :
    vx_Run p l e R s m args below meth c H locs cells slots mc ms g rest (Qc (Value.ref b :: As).toArray) XC free := by
  have hK : vx_Back l R p e below s args y 3 8 (PreOf R mc ms Pc) (PostOf Qc mc ms free) (vx_Post XC mc ms free) := vx_callBack cw.1 hM hp.1
  obtain ⟨⟨-, -, -, -, -, -, hcode, -, hy, hlen, hl⟩, hin, hse⟩ := cw
  obtain ⟨hx, hb, hml, ho, -⟩ := S
  obtain ⟨-, ⟨cellB, hcB, hoB, hclB⟩, hPc⟩ := hp
  intro T hT X
  rcases vx_callV X hx (C := C) (bytes := bytes) (maxL := maxL) (ret := ret) ho hl hin hse hcode hy hK (by rw [hT]; exact hcB) hoB hclB hg (hsize.trans hml.symm) (argsL := As) (rest := rest) (fun sig h => hn.trans (hlen sig h)) hstack hW (by rw [hb]; exact hdg)
    (fun vm₁ hW₁ => ⟨hf.1, hf.2, hPc (T.setVm vm₁) hT hW₁⟩) with ⟨v, vm₁, ⟨U', l2, c2, s2⟩, hW₁, X', ⟨g', mk, t, L, e1, e2, hq, h1, hL, h2, h3⟩, st⟩ | ⟨q, vm₁, ⟨U', l2, c2, s2⟩, hW₁, X', ⟨g', mk, t, L, E, ce, e1, e2, hq, hce, hcv, hcl, h1, hL, h2, h3⟩, st⟩
  · dsimp only [Pt.U, Pt.locs, Pt.cells, Pt.slots] at X' e1 e2 h1 h2 h3 st
    subst h1; subst h2; subst h3
    exact Or.inl ⟨v, (T.setVm vm₁).calling g' mk (Value.ref b :: As).toArray, t, U', L, hT, X', hL, e1, e2, hq, st⟩
  · dsimp only [Pt.U, Pt.locs, Pt.cells, Pt.slots] at X' e1 e2 h1 h2 h3 st hcl
    subst h1; subst h2; subst h3
    exact Or.inr ⟨q, (T.setVm vm₁).calling g' mk (Value.ref b :: As).toArray, t, U', L, E, ce, hT, X', hL, e1, e2, hq, hce, hcv, vx_cls hW₁ hcl, st⟩
theorem vx_runS (S : CallFix p m c cc nL s args Ts own) (hM : vx_Met l y ws rm Pc Qc XC mc ms free) (cw : CallB R s args own index y bytes maxL ret ws rm mc ms n ∧ (Cond.static y).before args s = true) (hp : PreS s H Pc As)
    (hg : g.method = m) (hn : As.length = n) (hsize : g.locals.size = nL) (hstack : g.stack = As.reverse ++ rest) (hW : 2 * g.monitorRoom + (rest.map fun v => v.category).sum ≤ 8) (hdg : decode cc g.pc = .ok (.invokestatic index, 3)) (hf : cells + mc ≤ R.cells ∧ slots + ms ≤ R.slots) :
    vx_Run p l e R s m args below meth c H locs cells slots mc ms g rest (Qc As.toArray) XC free := by
  have hK : vx_Back l R p e below s args y 3 8 (PreOf R mc ms Pc) (PostOf Qc mc ms free) (vx_Post XC mc ms free) := vx_callBack cw.1 hM hp.1
  obtain ⟨⟨-, -, -, -, -, -, hcode, hini, hy, hlen, hl⟩, hstt⟩ := cw
  obtain ⟨hx, hb, hml, ho, -⟩ := S
  intro T hT X
  rcases vx_callS X hx (bytes := bytes) (maxL := maxL) (ret := ret) ho hl hstt hini hcode hy hK hg (hsize.trans hml.symm) (argsL := As) (rest := rest) (fun sig h => hn.trans (hlen sig h)) hstack hW (by rw [hb]; exact hdg)
    (fun vm₁ hW₁ => ⟨hf.1, hf.2, hp.2 (T.setVm vm₁) hT hW₁⟩) with ⟨v, vm₁, ⟨U', l2, c2, s2⟩, hW₁, X', ⟨g', mk, t, L, e1, e2, hq, h1, hL, h2, h3⟩, st⟩ | ⟨q, vm₁, ⟨U', l2, c2, s2⟩, hW₁, X', ⟨g', mk, t, L, E, ce, e1, e2, hq, hce, hcv, hcl, h1, hL, h2, h3⟩, st⟩
  · dsimp only [Pt.U, Pt.locs, Pt.cells, Pt.slots] at X' e1 e2 h1 h2 h3 st
    subst h1; subst h2; subst h3
    exact Or.inl ⟨v, (T.setVm vm₁).calling g' mk As.toArray, t, U', L, hT, X', hL, e1, e2, hq, st⟩
  · dsimp only [Pt.U, Pt.locs, Pt.cells, Pt.slots] at X' e1 e2 h1 h2 h3 st hcl
    subst h1; subst h2; subst h3
    exact Or.inr ⟨q, (T.setVm vm₁).calling g' mk As.toArray, t, U', L, E, ce, hT, X', hL, e1, e2, hq, hce, hcv, vx_cls hW₁ hcl, st⟩
end Runs
section Rows
variable {p : Program} {l : Launch} {e : Env} {R : Room} {s : State} {m : MethodId} {args : Array Value} {below : List Frame} {meth : Method} {c : Code} {H : Heap} {locs : List Loc} {cells slots : Nat} {Q : State → Prop}
variable {mc ms : Nat} {free : Addr → Prop} {A0 A1 : Nat → Prop} {H0 : Heap} {a : Array Value} {pc : Nat} {ls : Array Slot} {st0 rest : List Value}
theorem vx_keep {st₀ t T' : State} {L : List Loc} (h0 : st₀.heap = H) (e1 : T'.heap = t.heap) (hS : va_S A0 H0 H locs) (hA : ∀ q, q < H.size → A1 q → A0 q) (hf : ∀ q, free q → A0 q) (hL : ∀ q ∈ L, free q.base) (hF : va_F A1 st₀ t) :
    H.size ≤ T'.heap.size ∧ (∀ q : Nat, q < H.size → ¬ A1 q → T'.heap[q]? = H[q]?) ∧ va_S A0 H0 T'.heap (locs ++ L) := by
  obtain ⟨hz, hk⟩ := hF
  rw [h0] at hz hk
  exact ⟨by rw [e1]; exact hz, fun q h1 h2 => by rw [e1]; exact hk q h1 h2,
    ⟨Nat.le_trans hS.1 (by rw [e1]; exact hz), fun q h1 h2 => by rw [e1, hk q (Nat.lt_of_lt_of_le h1 hS.1) (fun z => h2 (hA q (Nat.lt_of_lt_of_le h1 hS.1) z))]; exact hS.2.1 q h1 h2, fun q hq => by
      rcases List.mem_append.mp hq with h | h
      · exact hS.2.2 q h
      · exact hf _ (hL q h)⟩⟩
theorem vx_calli {S SX : Type} {post : Int32 → S → Prop} {px : SX → Prop} {B : S → State → Prop} {BX : String → SX → State → Prop} {AX : Nat → Prop} (hr : vx_Run p l e R s m args below meth c H locs cells slots mc ms (F0 m pc ls st0) rest (va_Qi post B A1 a) (vx_X px BX AX) free) (hS : va_S A0 H0 H locs) (hA : ∀ q, q < H.size → A1 q → A0 q) (hf : ∀ q, free q → A0 q) (hAX : ∀ q, q < H.size → AX q → A0 q)
    (kx : ∀ (E : String) (ce : Cell) (q9 : Addr) (u : SX) (t : State) (H1 : Heap) (locs1 : List Loc), t.heap = H1 → s.vm.Alike t.vm → px u → BX E u t → H.size ≤ H1.size → (∀ q : Nat, q < H.size → ¬ AX q → H1[q]? = H[q]?) → va_S A0 H0 H1 locs1 → H1[q9]? = some ce → ce.vm = .none → s.vm.findClass E = some ce.cls → vx_W p l e R s m args below meth c H1 locs1 (cells + mc) (slots + ms) Q (F0 m pc ls rest) q9)
    (kk : ∀ (r : Int32) (u : S) (t : State) (H1 : Heap) (locs1 : List Loc), t.heap = H1 → s.vm.Alike t.vm → post r u → B u t → H.size ≤ H1.size → (∀ q : Nat, q < H.size → ¬ A1 q → H1[q]? = H[q]?) → va_S A0 H0 H1 locs1 → W p l e R s m args below meth c H1 locs1 (cells + mc) (slots + ms) Q (F0 m (pc + 3) ls (.int r :: rest))) : W p l e R s m args below meth c H locs cells slots Q (F0 m pc ls st0) := by
  intro T hT X
  rcases hr T hT X with ⟨v, st₀, t, T', L, h0, X', hL, e1, e2, ⟨⟨r, u, hv, hp, hb⟩, hF⟩, st⟩ | ⟨q, st₀, t, T', L, E, ce, h0, X', hL, e1, e2, ⟨u, hp, hb, hF⟩, hce, hcv, hcl, st⟩
  · cases hv
    obtain ⟨k1, k2, k3⟩ := vx_keep h0 e1 hS hA hf hL hF
    obtain ⟨t2, a1, b1⟩ := kk r u t T'.heap (locs ++ L) e1.symm (by rw [← e2]; exact X'.warmed.alike) hp hb k1 k2 k3 T' rfl X'
    exact ⟨t2, st t2 a1, b1⟩
  · obtain ⟨k1, k2, k3⟩ := vx_keep h0 e1 hS hAX hf hL hF
    obtain ⟨t2, a1, b1⟩ := kx E ce q u t T'.heap (locs ++ L) e1.symm (by rw [← e2]; exact X'.warmed.alike) hp hb k1 k2 k3 (by rw [e1]; exact hce) hcv hcl T' rfl X'
    exact ⟨t2, st.trans a1, b1⟩
theorem vx_calll {S SX : Type} {post : Int64 → S → Prop} {px : SX → Prop} {B : S → State → Prop} {BX : String → SX → State → Prop} {AX : Nat → Prop} (hr : vx_Run p l e R s m args below meth c H locs cells slots mc ms (F0 m pc ls st0) rest (va_Ql post B A1 a) (vx_X px BX AX) free) (hS : va_S A0 H0 H locs) (hA : ∀ q, q < H.size → A1 q → A0 q) (hf : ∀ q, free q → A0 q) (hAX : ∀ q, q < H.size → AX q → A0 q)
    (kx : ∀ (E : String) (ce : Cell) (q9 : Addr) (u : SX) (t : State) (H1 : Heap) (locs1 : List Loc), t.heap = H1 → s.vm.Alike t.vm → px u → BX E u t → H.size ≤ H1.size → (∀ q : Nat, q < H.size → ¬ AX q → H1[q]? = H[q]?) → va_S A0 H0 H1 locs1 → H1[q9]? = some ce → ce.vm = .none → s.vm.findClass E = some ce.cls → vx_W p l e R s m args below meth c H1 locs1 (cells + mc) (slots + ms) Q (F0 m pc ls rest) q9)
    (kk : ∀ (r : Int64) (u : S) (t : State) (H1 : Heap) (locs1 : List Loc), t.heap = H1 → s.vm.Alike t.vm → post r u → B u t → H.size ≤ H1.size → (∀ q : Nat, q < H.size → ¬ A1 q → H1[q]? = H[q]?) → va_S A0 H0 H1 locs1 → W p l e R s m args below meth c H1 locs1 (cells + mc) (slots + ms) Q (F0 m (pc + 3) ls (.long r :: rest))) : W p l e R s m args below meth c H locs cells slots Q (F0 m pc ls st0) := by
  intro T hT X
  rcases hr T hT X with ⟨v, st₀, t, T', L, h0, X', hL, e1, e2, ⟨⟨r, u, hv, hp, hb⟩, hF⟩, st⟩ | ⟨q, st₀, t, T', L, E, ce, h0, X', hL, e1, e2, ⟨u, hp, hb, hF⟩, hce, hcv, hcl, st⟩
  · cases hv
    obtain ⟨k1, k2, k3⟩ := vx_keep h0 e1 hS hA hf hL hF
    obtain ⟨t2, a1, b1⟩ := kk r u t T'.heap (locs ++ L) e1.symm (by rw [← e2]; exact X'.warmed.alike) hp hb k1 k2 k3 T' rfl X'
    exact ⟨t2, st t2 a1, b1⟩
  · obtain ⟨k1, k2, k3⟩ := vx_keep h0 e1 hS hAX hf hL hF
    obtain ⟨t2, a1, b1⟩ := kx E ce q u t T'.heap (locs ++ L) e1.symm (by rw [← e2]; exact X'.warmed.alike) hp hb k1 k2 k3 (by rw [e1]; exact hce) hcv hcl T' rfl X'
    exact ⟨t2, st.trans a1, b1⟩
theorem vx_callf {S SX : Type} {post : UInt32 → S → Prop} {px : SX → Prop} {B : S → State → Prop} {BX : String → SX → State → Prop} {AX : Nat → Prop} (hr : vx_Run p l e R s m args below meth c H locs cells slots mc ms (F0 m pc ls st0) rest (va_Qf post B A1 a) (vx_X px BX AX) free) (hS : va_S A0 H0 H locs) (hA : ∀ q, q < H.size → A1 q → A0 q) (hf : ∀ q, free q → A0 q) (hAX : ∀ q, q < H.size → AX q → A0 q)
    (kx : ∀ (E : String) (ce : Cell) (q9 : Addr) (u : SX) (t : State) (H1 : Heap) (locs1 : List Loc), t.heap = H1 → s.vm.Alike t.vm → px u → BX E u t → H.size ≤ H1.size → (∀ q : Nat, q < H.size → ¬ AX q → H1[q]? = H[q]?) → va_S A0 H0 H1 locs1 → H1[q9]? = some ce → ce.vm = .none → s.vm.findClass E = some ce.cls → vx_W p l e R s m args below meth c H1 locs1 (cells + mc) (slots + ms) Q (F0 m pc ls rest) q9)
    (kk : ∀ (r : UInt32) (u : S) (t : State) (H1 : Heap) (locs1 : List Loc), t.heap = H1 → s.vm.Alike t.vm → post r u → B u t → H.size ≤ H1.size → (∀ q : Nat, q < H.size → ¬ A1 q → H1[q]? = H[q]?) → va_S A0 H0 H1 locs1 → W p l e R s m args below meth c H1 locs1 (cells + mc) (slots + ms) Q (F0 m (pc + 3) ls (.float r :: rest))) : W p l e R s m args below meth c H locs cells slots Q (F0 m pc ls st0) := by
  intro T hT X
  rcases hr T hT X with ⟨v, st₀, t, T', L, h0, X', hL, e1, e2, ⟨⟨r, u, hv, hp, hb⟩, hF⟩, st⟩ | ⟨q, st₀, t, T', L, E, ce, h0, X', hL, e1, e2, ⟨u, hp, hb, hF⟩, hce, hcv, hcl, st⟩
  · cases hv
    obtain ⟨k1, k2, k3⟩ := vx_keep h0 e1 hS hA hf hL hF
    obtain ⟨t2, a1, b1⟩ := kk r u t T'.heap (locs ++ L) e1.symm (by rw [← e2]; exact X'.warmed.alike) hp hb k1 k2 k3 T' rfl X'
    exact ⟨t2, st t2 a1, b1⟩
  · obtain ⟨k1, k2, k3⟩ := vx_keep h0 e1 hS hAX hf hL hF
    obtain ⟨t2, a1, b1⟩ := kx E ce q u t T'.heap (locs ++ L) e1.symm (by rw [← e2]; exact X'.warmed.alike) hp hb k1 k2 k3 (by rw [e1]; exact hce) hcv hcl T' rfl X'
    exact ⟨t2, st.trans a1, b1⟩
theorem vx_calld {S SX : Type} {post : UInt64 → S → Prop} {px : SX → Prop} {B : S → State → Prop} {BX : String → SX → State → Prop} {AX : Nat → Prop} (hr : vx_Run p l e R s m args below meth c H locs cells slots mc ms (F0 m pc ls st0) rest (va_Qd post B A1 a) (vx_X px BX AX) free) (hS : va_S A0 H0 H locs) (hA : ∀ q, q < H.size → A1 q → A0 q) (hf : ∀ q, free q → A0 q) (hAX : ∀ q, q < H.size → AX q → A0 q)
    (kx : ∀ (E : String) (ce : Cell) (q9 : Addr) (u : SX) (t : State) (H1 : Heap) (locs1 : List Loc), t.heap = H1 → s.vm.Alike t.vm → px u → BX E u t → H.size ≤ H1.size → (∀ q : Nat, q < H.size → ¬ AX q → H1[q]? = H[q]?) → va_S A0 H0 H1 locs1 → H1[q9]? = some ce → ce.vm = .none → s.vm.findClass E = some ce.cls → vx_W p l e R s m args below meth c H1 locs1 (cells + mc) (slots + ms) Q (F0 m pc ls rest) q9)
    (kk : ∀ (r : UInt64) (u : S) (t : State) (H1 : Heap) (locs1 : List Loc), t.heap = H1 → s.vm.Alike t.vm → post r u → B u t → H.size ≤ H1.size → (∀ q : Nat, q < H.size → ¬ A1 q → H1[q]? = H[q]?) → va_S A0 H0 H1 locs1 → W p l e R s m args below meth c H1 locs1 (cells + mc) (slots + ms) Q (F0 m (pc + 3) ls (.double r :: rest))) : W p l e R s m args below meth c H locs cells slots Q (F0 m pc ls st0) := by
  intro T hT X
  rcases hr T hT X with ⟨v, st₀, t, T', L, h0, X', hL, e1, e2, ⟨⟨r, u, hv, hp, hb⟩, hF⟩, st⟩ | ⟨q, st₀, t, T', L, E, ce, h0, X', hL, e1, e2, ⟨u, hp, hb, hF⟩, hce, hcv, hcl, st⟩
  · cases hv
    obtain ⟨k1, k2, k3⟩ := vx_keep h0 e1 hS hA hf hL hF
    obtain ⟨t2, a1, b1⟩ := kk r u t T'.heap (locs ++ L) e1.symm (by rw [← e2]; exact X'.warmed.alike) hp hb k1 k2 k3 T' rfl X'
    exact ⟨t2, st t2 a1, b1⟩
  · obtain ⟨k1, k2, k3⟩ := vx_keep h0 e1 hS hAX hf hL hF
    obtain ⟨t2, a1, b1⟩ := kx E ce q u t T'.heap (locs ++ L) e1.symm (by rw [← e2]; exact X'.warmed.alike) hp hb k1 k2 k3 (by rw [e1]; exact hce) hcv hcl T' rfl X'
    exact ⟨t2, st.trans a1, b1⟩
theorem vx_callv {S SX : Type} {post : S → Prop} {px : SX → Prop} {B : S → State → Prop} {BX : String → SX → State → Prop} {AX : Nat → Prop} (hr : vx_Run p l e R s m args below meth c H locs cells slots mc ms (F0 m pc ls st0) rest (va_Qv post B A1 a) (vx_X px BX AX) free) (hS : va_S A0 H0 H locs) (hA : ∀ q, q < H.size → A1 q → A0 q) (hf : ∀ q, free q → A0 q) (hAX : ∀ q, q < H.size → AX q → A0 q)
    (kx : ∀ (E : String) (ce : Cell) (q9 : Addr) (u : SX) (t : State) (H1 : Heap) (locs1 : List Loc), t.heap = H1 → s.vm.Alike t.vm → px u → BX E u t → H.size ≤ H1.size → (∀ q : Nat, q < H.size → ¬ AX q → H1[q]? = H[q]?) → va_S A0 H0 H1 locs1 → H1[q9]? = some ce → ce.vm = .none → s.vm.findClass E = some ce.cls → vx_W p l e R s m args below meth c H1 locs1 (cells + mc) (slots + ms) Q (F0 m pc ls rest) q9)
    (kk : ∀ (u : S) (t : State) (H1 : Heap) (locs1 : List Loc), t.heap = H1 → s.vm.Alike t.vm → post u → B u t → H.size ≤ H1.size → (∀ q : Nat, q < H.size → ¬ A1 q → H1[q]? = H[q]?) → va_S A0 H0 H1 locs1 → W p l e R s m args below meth c H1 locs1 (cells + mc) (slots + ms) Q (F0 m (pc + 3) ls (rest))) : W p l e R s m args below meth c H locs cells slots Q (F0 m pc ls st0) := by
  intro T hT X
  rcases hr T hT X with ⟨v, st₀, t, T', L, h0, X', hL, e1, e2, ⟨⟨u, hv, hp, hb⟩, hF⟩, st⟩ | ⟨q, st₀, t, T', L, E, ce, h0, X', hL, e1, e2, ⟨u, hp, hb, hF⟩, hce, hcv, hcl, st⟩
  · cases hv
    obtain ⟨k1, k2, k3⟩ := vx_keep h0 e1 hS hA hf hL hF
    obtain ⟨t2, a1, b1⟩ := kk u t T'.heap (locs ++ L) e1.symm (by rw [← e2]; exact X'.warmed.alike) hp hb k1 k2 k3 T' rfl X'
    exact ⟨t2, st t2 a1, b1⟩
  · obtain ⟨k1, k2, k3⟩ := vx_keep h0 e1 hS hAX hf hL hF
    obtain ⟨t2, a1, b1⟩ := kx E ce q u t T'.heap (locs ++ L) e1.symm (by rw [← e2]; exact X'.warmed.alike) hp hb k1 k2 k3 (by rw [e1]; exact hce) hcv hcl T' rfl X'
    exact ⟨t2, st.trans a1, b1⟩
/-- caught by the row x of this method's table; the rows ahead don't take it -/
theorem vx_catch {own name : String} {E : String} {ce : Cell} {q : Addr} (hown : s.vm.findClass own = some m.cls) (pre : List ExceptionTableEntry) (x : ExceptionTableEntry) (suf : List ExceptionTableEntry) (hsplit : c.exceptionTable.toList = pre ++ x :: suf)
    (hpass : ∀ z ∈ pre, covers z pc = false ∨ (z.catchType ≠ 0 ∧ ∃ nm : String, (Cond.classLink own z.catchType nm).before args s = true ∧ va_Nc E nm s)) (hx : covers x pc = true) (h0 : x.catchType ≠ 0)
    (hlink : (Cond.classLink own x.catchType name).before args s = true) (hcast : (Cond.castable E name).before args s = true) (hcell : H[q]? = some ce) (hv : ce.vm = .none) (hcl : s.vm.findClass E = some ce.cls)
    (kk : W p l e R s m args below meth c H locs cells slots Q (F0 m x.handlerPc ls [.ref q])) : vx_W p l e R s m args below meth c H locs cells slots Q (F0 m pc ls rest) q := by
  intro T hT X
  have hpl : e.platform.magicAccessors = ({} : Platform).magicAccessors := by rw [X.admits.platform]
  obtain ⟨c3, c4, hc3, hc4, hasg⟩ := Cond.castable_spec hcast
  cases Option.some.inj (hc3.symm.trans hcl)
  obtain ⟨c5, hc5, hcl5⟩ := Cond.classLink_spec hown hlink e.platform hpl
  cases Option.some.inj (hc4.symm.trans hc5)
  obtain ⟨vm', X', st⟩ := X.thenCaughtThrough q (g := F0 m pc ls rest) rfl (Steps.refl _) (by rw [hT]; exact hcell) (by rw [hv]; rfl) (by obtain ⟨k9, h9, -⟩ := Vm.findClass_spec hcl; exact ⟨k9, h9⟩) pre x suf hsplit
    (fun z hz => by
      rcases hpass z hz with h | ⟨hz0, nm, hl1, hn1⟩
      · exact Or.inl h
      · obtain ⟨c6, hc6, hcl6⟩ := Cond.classLink_spec hown hl1 e.platform hpl
        obtain ⟨a8, b8, h1, h2, h3⟩ := hn1
        cases Option.some.inj (h1.symm.trans hcl)
        cases Option.some.inj (h2.symm.trans hc6)
        exact Or.inr ⟨hz0, _, hcl6, h3⟩) hx (Or.inr ⟨h0, c4, hcl5, hasg⟩)
  obtain ⟨t, a1, b1⟩ := kk (T.setVm vm') hT X'
  exact ⟨t, st.trans a1, b1⟩
end Rows
section Ends
variable {p : Program} {l : Launch} {e : Env} {R : Room} {s : State} {m : MethodId} {args : Array Value} {below : List Frame} {meth : Method} {c : Code} {H : Heap} {locs : List Loc} {cells slots : Nat} {Q : State → Prop}
variable {mc ms : Nat} {free : Addr → Prop} {A0 A1 : Nat → Prop} {H0 : Heap} {a : Array Value} {ls : Array Slot} {st0 rest : List Value}
variable {Qc : Array Value → State → Outcome → State → Prop} {XC : String → State → State → Prop}
/-- what a body that may throw owes at its end -/
def vx_MQ (below : List Frame) (Qc : Array Value → State → Outcome → State → Prop) (XC : String → State → State → Prop) (a : Array Value) (s : State) (mc ms : Nat) (free : Addr → Prop) : State → Prop := fun t =>
  ∃ o, t.status = .running ∧ Ended t below o ∧ vx_Q Qc XC mc ms free a s o t
theorem vx_ret {g : JFrame} {mc ms : Nat} (k : W p l e R s m args below meth c H locs cells slots (MQ below Qc args s mc ms free) g) : W p l e R s m args below meth c H locs cells slots (vx_MQ below Qc XC args s mc ms free) g := by
  intro T hT X
  obtain ⟨t, a1, o, b1, b2, b3, b4⟩ := k T hT X
  exact ⟨t, a1, o, b1, b2, Or.inl ⟨b3, b4⟩⟩
/-- not caught here: it goes on to the caller -/
theorem vx_widen {g : JFrame} {q : Addr} {k n : Nat} (h1 : cells ≤ k) (h2 : slots ≤ n) (kk : vx_W p l e R s m args below meth c H locs k n Q g q) : vx_W p l e R s m args below meth c H locs cells slots Q g q := fun T hT X => kk T hT (stand_widen X h1 h2)
theorem vx_out {pc : Nat} {E : String} {ce : Cell} {q : Addr} {mc ms : Nat} (hout : ∀ x ∈ c.exceptionTable.toList, covers x pc = false) (hlocks : meth.locks = false) (hcell : H[q]? = some ce) (hv : ce.vm = .none) (hcl : s.vm.findClass E = some ce.cls)
    (hx : ∀ t : State, t.heap = H → s.vm.Alike t.vm → XC E s t) (hf : ∀ z ∈ locs, free z.base) (hc : cells ≤ mc) (hs : slots ≤ ms) :
    vx_W p l e R s m args below meth c H locs cells slots (vx_MQ below Qc XC args s mc ms free) (F0 m pc ls rest) q := by
  intro T hT X
  obtain ⟨st1, hrun, hend, hW, hsm⟩ := X.leaveThrown q (g := F0 m pc ls rest) rfl rfl rfl hout hlocks
  have hcell9 : (T.setFrames (.throwing q :: below)).heap[q]? = some ce := by
    show T.heap[q]? = some ce
    rw [hT]; exact hcell
  exact ⟨_, st1, .threw q, hrun, hend, Or.inr ⟨q, rfl, E, ce, locs, hx _ hT hW.alike, hcell9, hv, hcl, hW, hsm.mono hc hs, hf⟩⟩
theorem vx_frame {U : State} {k n : Nat} (h : s.sameButNew ({ U with vm := s.vm } : State) locs k n) : s.heap.size ≤ U.heap.size ∧ ∀ q : Nat, q < s.heap.size → (∀ z ∈ locs, z.base ≠ q) → U.heap[q]? = s.heap[q]? := by
  obtain ⟨-, h2, -, -, -, h6⟩ := h
  refine ⟨h2, fun q hq hz => ?_⟩
  obtain ⟨c9, e1, e2, e3, e4⟩ := h6 q _ (Array.getElem?_eq_getElem hq)
  have hs : c9.slots = (s.heap[q]).slots := Array.ext_getElem? fun i => e4 i fun hm => hz _ hm rfl
  have h9 : c9 = s.heap[q] := by
    rw [hs] at e2
    exact e2
  have e5 : U.heap[q]? = some c9 := e1
  rw [e5, h9, Array.getElem?_eq_getElem hq]
/-- the words of a throw but the four that speak of the heap -/
def vx_no (w : Cond) : Bool := decide (w ≠ .isRef (.static Bundle.tN "UNASSIGNED_STACK" Bundle.steD)) && decide (w ≠ .isRef (.static Bundle.tN "SUPPRESSED_SENTINEL" Bundle.listD)) && decide (w ≠ .laysStatic Bundle.tN "UNASSIGNED_STACK" Bundle.steD) && decide (w ≠ .laysStatic Bundle.tN "SUPPRESSED_SENTINEL" Bundle.listD)
def vx_at0 (own : String) (ic : Nat) (X : String) (names : List String) : List Cond := (Bundle.ownAtoms0 own ic X names).filter vx_no
def vx_atS (own : String) (ic : Nat) (X : String) (names : List String) : List Cond := (Bundle.ownAtoms own ic X names).filter vx_no
/-- a word that the tables alone decide, or a good one -/
def vx_ot (w : Cond) : Bool := w.onTables || goodWord w
theorem vx_ot_at {args a' : Array Value} {s U : State} {w : Cond} (hW : s.WarmedH U.vm) (hvm : s.vm = U.vm) (hg : vx_ot w = true) (h : w.before args s = true) : w.before a' U = true := by
  simp only [vx_ot, Bool.or_eq_true] at hg
  rcases hg with hg | hg
  · exact va_tabs hg hvm h
  · exact word_at hW (good_of_word hg) h
/-- a list's words: the good ones out of the method's own list, the others by premises of their own -/
theorem vx_hat {args : Array Value} {s : State} {L B : List Cond} (h1 : ∀ w ∈ L.filter goodWord, w.before args s = true) (h2 : ∀ w ∈ L.filter (fun w => !goodWord w), w ∈ B) (h3 : ∀ w ∈ B, w.before args s = true) : ∀ w ∈ L, w.before args s = true := by
  intro w hw
  by_cases g : goodWord w = true
  · exact h1 w (List.mem_filter.mpr ⟨hw, g⟩)
  · refine h3 w (h2 w (List.mem_filter.mpr ⟨hw, ?_⟩))
    show (!goodWord w) = true
    cases hgw : goodWord w
    · rfl
    · exact absurd hgw g
theorem vx_c {args : Array Value} {s : State} {w : Cond} {B : List Cond} (h : w.before args s = true) (t : ∀ w ∈ B, w.before args s = true) : ∀ w' ∈ w :: B, w'.before args s = true := fun w' h' => (List.mem_cons.mp h').elim (fun e => by rw [e]; exact h) (t w')
theorem vx_n {args : Array Value} {s : State} : ∀ w ∈ ([] : List Cond), w.before args s = true := fun _ h => nomatch h
theorem vx_own {args : Array Value} {s : State} {L : List Cond} (h1 : ∀ w ∈ L.filter vx_no, w.before args s = true)
    (hU : (Cond.isRef (.static Bundle.tN "UNASSIGNED_STACK" Bundle.steD)).before args s = true) (hN : (Cond.isRef (.static Bundle.tN "SUPPRESSED_SENTINEL" Bundle.listD)).before args s = true)
    (lU : (Cond.laysStatic Bundle.tN "UNASSIGNED_STACK" Bundle.steD).before args s = true) (lN : (Cond.laysStatic Bundle.tN "SUPPRESSED_SENTINEL" Bundle.listD).before args s = true) : ∀ w ∈ L, w.before args s = true := by
  intro w hw
  by_cases e1 : w = .isRef (.static Bundle.tN "UNASSIGNED_STACK" Bundle.steD)
  · rw [e1]; exact hU
  · by_cases e2 : w = .isRef (.static Bundle.tN "SUPPRESSED_SENTINEL" Bundle.listD)
    · rw [e2]; exact hN
    · by_cases e3 : w = .laysStatic Bundle.tN "UNASSIGNED_STACK" Bundle.steD
      · rw [e3]; exact lU
      · by_cases e4 : w = .laysStatic Bundle.tN "SUPPRESSED_SENTINEL" Bundle.listD
        · rw [e4]; exact lN
        · exact h1 w (List.mem_filter.mpr ⟨hw, by unfold vx_no; rw [decide_eq_true e1, decide_eq_true e2, decide_eq_true e3, decide_eq_true e4]; rfl⟩)
/-- where a static field lies, its class's statics cell in H -/
def vx_L (C n d : String) (A : Nat → Prop) (U : State) (H : Heap) : Prop := ∃ (c : ClassId) (k : Class) (i : Nat) (f : Field) (a : Nat) (cell : Cell), U.vm.findClass C = some c ∧ U.fieldFound? C n d = some (c, k, i, f) ∧ f.isStatic = true ∧ k.statics = some a ∧ H[a]? = some cell ∧ cell.vm.isStatics = true ∧ cell.cls = c ∧ f.slot < cell.slots.size ∧ k.staticTypes[f.slot]? = some f.type ∧ ¬ A a
theorem vx_L.moved {C n d : String} {A : Nat → Prop} {u U : State} {H : Heap} (hvm : u.vm.Alike U.vm) (h : vx_L C n d A u H) : vx_L C n d A U H := by
  obtain ⟨c, k, i, f, a, cell, h1, h2, h3, h4, h5, h6, h7, h8, h9, h10⟩ := h
  obtain ⟨k', hi', he⟩ := State.fieldFound?_setVm hvm h2
  exact ⟨c, k', i, f, a, cell, by rw [hvm.findClass]; exact h1, hi', h3, by rw [he]; exact h4, h5, h6, h7, h8, by rw [he]; exact h9, h10⟩
theorem vx_L.kept {C n d : String} {A : Nat → Prop} {U : State} {H H1 : Heap} (h : vx_L C n d A U H) (hq : ∀ a : Nat, a < H.size → ¬ A a → H1[a]? = H[a]?) : vx_L C n d A U H1 := by
  obtain ⟨c, k, i, f, a, cell, h1, h2, h3, h4, h5, h6, h7, h8, h9, h10⟩ := h
  exact ⟨c, k, i, f, a, cell, h1, h2, h3, h4, by rw [hq a (Array.getElem?_eq_some_iff.mp h5).1 h10]; exact h5, h6, h7, h8, h9, h10⟩
theorem vx_L.narrow {C n d : String} {A B : Nat → Prop} {U : State} {H : Heap} (h : vx_L C n d A U H) (hAB : ∀ q, B q → A q) : vx_L C n d B U H := by
  obtain ⟨c, k, i, f, a, cell, h1, h2, h3, h4, h5, h6, h7, h8, h9, h10⟩ := h
  exact ⟨c, k, i, f, a, cell, h1, h2, h3, h4, h5, h6, h7, h8, h9, fun z => h10 (hAB _ z)⟩
theorem vx_L.word {C n d : String} {A : Nat → Prop} {s : State} {args : Array Value} (h : vx_L C n d A s s.heap) : (Cond.laysStatic C n d).before args s = true := by
  obtain ⟨c, k, i, f, a, cell, h1, h2, h3, h4, h5, h6, h7, h8, h9, -⟩ := h
  show (Cond.laysStatic C n d).holds args s none s [] = true
  exact Cond.laysStatic_of h1 h2 h3 h4 h5 h6 h7 h8 h9
/-- .. and what it holds: null or some reference -/
def vx_Zq (C n d : String) (A : Nat → Prop) (U : State) (H : Heap) : Prop := va_Zq C n d A U H ∧ vx_L C n d A U H
theorem vx_Zq.moved {C n d : String} {A : Nat → Prop} {u U : State} {H : Heap} (hvm : u.vm.Alike U.vm) (h : vx_Zq C n d A u H) : vx_Zq C n d A U H := ⟨va_Zq.moved hvm h.1, vx_L.moved hvm h.2⟩
theorem vx_Zq.kept {C n d : String} {A : Nat → Prop} {U : State} {H H1 : Heap} (h : vx_Zq C n d A U H) (hq : ∀ a : Nat, a < H.size → ¬ A a → H1[a]? = H[a]?) : vx_Zq C n d A U H1 := ⟨va_Zq.kept h.1 hq, vx_L.kept h.2 hq⟩
theorem vx_Zq.narrow {C n d : String} {A B : Nat → Prop} {U : State} {H : Heap} (h : vx_Zq C n d A U H) (hAB : ∀ q, B q → A q) : vx_Zq C n d B U H := ⟨va_Zq.narrow h.1 hAB, vx_L.narrow h.2 hAB⟩
theorem vx_Zqof {args : Array Value} {s : State} {C n d : String} {A : Nat → Prop} (hl : (Cond.laysStatic C n d).before args s = true) (hini : (Cond.initialized C).before args s = true) (h : (Cond.isRef (.static C n d)).before args s = true) (hA : ∀ a : Nat, a < s.heap.size → ¬ A a) : vx_Zq C n d A s s.heap := by
  refine ⟨va_Zqof hl hini h hA, ?_⟩
  obtain ⟨c, k, i, f, a, cell, h1, h2, h3, h4, h5, h6, h7, h8, h9⟩ := Cond.laysStatic_spec hl
  exact ⟨c, k, i, f, a, cell, h1, h2, h3, h4, h5, h6, h7, h8, h9, hA a (Array.getElem?_eq_some_iff.mp h5).1⟩
theorem vx_isRef {C n d : String} {v : Value} {A : Nat → Prop} {s : State} {args : Array Value} (h : va_Z C n d v A s s.heap) (hv : v.isRef = true) : (Cond.isRef (.static C n d)).before args s = true := by
  obtain ⟨cf, kf, fi, f, a, cell, h1, h2, h3, h4, h5, h6, h7, -⟩ := h
  have he : (Term.static C n d).eval args s none [] s = some v := by
    simp [Term.eval, State.fieldNamed?, h1, h2, h4, h5, h6, h7]
  simp only [Cond.before, Cond.holds, Cond.value, he]
  cases v <;> simp_all [Value.isRef]
theorem vx_isRefq {C n d : String} {A : Nat → Prop} {s : State} {args : Array Value} (h : va_Zq C n d A s s.heap) : (Cond.isRef (.static C n d)).before args s = true := by
  rcases h with h | ⟨t, h⟩
  · exact vx_isRef h rfl
  · exact vx_isRef h rfl
/-- the same frame, seen from here: as if the method were called anew in this heap -/
theorem vx_rebase {T : State} (X : Stand p l e R s m args below meth c T locs cells slots) {R' : Room} (hf : R'.frames ≤ R.frames) (hl : R'.locals ≤ R.locals) (hc : cells + R'.cells ≤ R.cells) (hs : slots + R'.slots ≤ R.slots) :
    Stand p l e R' ((T.setVm s.vm).setFrames (.invoking m args :: below)) m args below meth c T [] 0 0 := by
  have htop : (T.setVm s.vm).topJava?.isSome := X.here.top
  have hF : ((T.setVm s.vm).setFrames (.invoking m args :: below)).frames = .invoking m args :: below := State.frames_setFrames _ (State.cur_lt_of_top htop)
  obtain ⟨g₀, hg0⟩ := Option.isSome_iff_exists.mp htop
  obtain ⟨r, hr⟩ := State.topJava?_eq_some.mp hg0
  have hl9 : e.platform.stackLimits (T.setVm s.vm).me = e.platform.stackLimits s.me := X.limits
  have hb9 : (T.setVm s.vm).me.stackBytes = s.me.stackBytes := X.bytes
  refine ⟨X.admits, X.cas, X.clock, hF, ?_, X.hears, X.method, X.code, X.here, X.tail, X.warmed, ?_, ?_, ?_⟩
  · have h := X.room
    have hU : ((T.setVm s.vm).setFrames (.invoking m args :: below)).localsInUse = s.localsInUse := by
      rw [State.localsInUse_invoking hF (meth := meth) (c := c) X.method X.code, State.localsInUse_invoking X.frames X.method X.code]
    simp only [State.hasRoom, Bool.and_eq_true, decide_eq_true_eq] at h ⊢
    obtain ⟨⟨⟨⟨h1, h2, h3, h4, h5, h6⟩, h7⟩, h8⟩, h9⟩ := h
    rw [X.frames, List.length_cons] at h2 h3
    have q1 := X.heapSize
    have q2 := X.used
    simp only [hF, hU, List.length_cons, State.stackLimits_setFrames, State.stackBytes_setFrames, hl9, hb9]
    refine ⟨⟨⟨⟨by omega, by omega, by omega, by omega, by omega, h6⟩, ?_⟩, ?_⟩, X.book⟩
    · show T.heap.size + R'.cells ≤ e.platform.maxCells
      omega
    · show T.slotsUsed + R'.slots ≤ e.platform.maxSlots
      omega
  · rw [State.stackLimits_setFrames]; rfl
  · rw [State.stackBytes_setFrames]; rfl
  · refine ⟨?_, Nat.le_refl _, Nat.le_refl _, ?_, ?_, fun a c9 h9 => ⟨c9, h9, rfl, rfl, fun _ _ => rfl⟩⟩
    · obtain ⟨t, ht, -⟩ := State.frames_cons hr
      show T.setVm s.vm = { ((T.setVm s.vm).setFrames (.invoking m args :: below)).setFrames (T.setVm s.vm).frames with heap := T.heap, slotsUsed := T.slotsUsed }
      rw [State.setFrames_setFrames, State.setFrames_self ht]
      rfl
    · show T.slotsUsed = T.slotsUsed + ((T.heap.toList.drop T.heap.size).map (·.slots.size)).sum
      rw [List.drop_eq_nil_of_le (Nat.le_of_eq Array.length_toList)]
      rfl
    · show ((T.heap.toList.drop T.heap.size).map (·.slots.size)).sum ≤ 0
      rw [List.drop_eq_nil_of_le (Nat.le_of_eq Array.length_toList)]
      exact Nat.le_refl _
/-- 'throw new E()': new; dup; invokespecial; athrow -/
theorem vx_throw0 {cc : ByteArray} {pc : Nat} (hexec : p.tables.exec = Jvm.exec) (hb : c.code = cc) (hl : l.stackTraces = false) {own cls : String} {names : List String} {ik ic mc ms : Nat} {A : Nat → Prop}
    (hown : s.vm.findClass own = some m.cls) (hcls : Bundle.fit cls = true) (hnames : ∀ n ∈ names, Bundle.fit n = true)
    (hk : (Cond.classLink own ik cls).before args s = true) (hini : (Cond.initialized cls).before args s = true) (hat : ∀ w ∈ vx_at0 own ic cls names, w.before args s = true)
    (hgood : ∀ w ∈ Cond.classLink own ik cls :: Cond.initialized cls :: vx_at0 own ic cls names, vx_ot w = true)
    (hU : vx_Zq Bundle.tN "UNASSIGNED_STACK" Bundle.steD A s s.heap) (hN : vx_Zq Bundle.tN "SUPPRESSED_SENTINEL" Bundle.listD A s s.heap) (hS : va_S A s.heap H locs) (hsize : ls.size = c.maxLocals)
    (d0 : decode cc pc = .ok (.new ik, 3)) (d3 : decode cc (pc + 3) = .ok (.dup, 1)) (d4 : decode cc (pc + 4) = .ok (.invokespecial ic, 3)) (d7 : decode cc (pc + 7) = .ok (.athrow, 1))
    (hout : ∀ x ∈ c.exceptionTable.toList, covers x (pc + 7) = false)
    (hRframes : names.length + 3 < R.frames) (hRlocals : (rest.map fun v => v.category).sum + (13 * (names.length + 1) + 42) ≤ R.locals) (hRcells : cells + 1 ≤ R.cells) (hRslots : slots + 6 ≤ R.slots) (hlocks : meth.locks = false)
    (hx : ∀ t : State, s.vm.Alike t.vm → H.size ≤ t.heap.size → (∀ q : Nat, q < H.size → t.heap[q]? = H[q]?) → XC cls s t)
    (hf : ∀ z ∈ locs, free z.base) (hc : cells + 1 ≤ mc) (hs : slots + 6 ≤ ms) :
    W p l e R s m args below meth c H locs cells slots (vx_MQ below Qc XC args s mc ms free) (F0 m pc ls rest) := by
  intro T hT X
  have htr : e.platform.stackTraces = false := (show e.platform.stackTraces = l.stackTraces by rw [X.admits.platform]).trans hl
  have Y := vx_rebase X (R' := { frames := R.frames, locals := R.locals, cells := 1, slots := 6 }) (Nat.le_refl _) (Nat.le_refl _) hRcells hRslots
  obtain ⟨s', hA⟩ : ∃ z, z = (T.setVm s.vm).setFrames (.invoking m args :: below) := ⟨_, rfl⟩
  rw [← hA] at Y
  have hvm : s'.vm = s.vm := by rw [hA]; rfl
  have hhp : s'.heap = H := by rw [hA]; exact hT
  have hW0 : s.WarmedH s'.vm := by rw [hvm]; exact State.WarmedH.refl s
  have hat' : ∀ w ∈ vx_at0 own ic cls names, w.before args s' = true := fun w hw => vx_ot_at hW0 hvm.symm (hgood w (List.mem_cons_of_mem _ (List.mem_cons_of_mem _ hw))) (hat w hw)
  have hk' : (Cond.classLink own ik cls).before args s' = true := vx_ot_at hW0 hvm.symm (hgood _ List.mem_cons_self) hk
  have hini' : (Cond.initialized cls).before args s' = true := vx_ot_at hW0 hvm.symm (hgood _ (List.mem_cons_of_mem _ List.mem_cons_self)) hini
  have hU' : vx_Zq Bundle.tN "UNASSIGNED_STACK" Bundle.steD A s' s'.heap := by rw [hhp]; exact vx_Zq.moved hW0.alike (hU.kept hS.2.1)
  have hN' : vx_Zq Bundle.tN "SUPPRESSED_SENTINEL" Bundle.listD A s' s'.heap := by rw [hhp]; exact vx_Zq.moved hW0.alike (hN.kept hS.2.1)
  have h : ∀ w ∈ Bundle.ownAtoms0 own ic cls names, w.before args s' = true := vx_own hat' (vx_isRefq hU'.1) (vx_isRefq hN'.1) hU'.2.word hN'.2.word
  have hown' : s'.vm.findClass own = some m.cls := by rw [hvm]; exact hown
  have hins : (Cond.instantiable cls 6).before args s' = true := h _ (by simp [Bundle.ownAtoms0])
  obtain ⟨vm₁, cX, kX, hfX, hkX, -, -, X₁, st1⟩ := Y.newCold hexec (own := own) (C := cls) (index := ik) (n := 6) hown' hk' hins hini'
    (g := F0 m pc ls rest) rfl (by rw [hb]; exact d0) (Nat.le_refl _) (Nat.le_refl _)
  generalize hT1 : (T.setVm vm₁).pushCell { cls := cX, slots := kX.instanceTypes.map defaultValue, vm := .none } = T1 at X₁ st1
  have hcat : (Value.ref T.heap.size).category = 1 := rfl
  have hcellA : T1.heap[T.heap.size]? = some (freshCell cX kX) := by rw [← hT1]; exact State.heap_pushCell_size _ _
  have d3' : decode c.code (pc + 3) = .ok (.dup, 1) := by rw [hb]; exact d3
  obtain ⟨U, hsteps, hrun, hend, hW, hsame, ce, hce, hO⟩ := X₁.ctorThrow0 hexec htr (own := own) (cls := cls) (names := names) (ic := ic) hown' hcls hnames h (fun x hx => nomatch hx) hfX hkX hcellA (by rw [hhp, hT]; exact Nat.le_refl _)
    (g := { method := m, pc := pc + 4, locals := ls, stack := .ref T.heap.size :: .ref T.heap.size :: rest, locked := none }) rfl hsize rfl rfl (rest := rest) rfl
    (by rw [hb]; exact d4) (by rw [hb]; exact d7) hout hRframes (by simp only [List.map_cons, List.sum_cons, hcat]; omega) hlocks
  obtain ⟨f1, f2⟩ := vx_frame hsame
  rw [hhp] at f1 f2
  have hWs : s.WarmedH U.vm := State.WarmedH.trans hW0 hW
  have hcl : s.vm.findClass cls = some ce.cls := by
    have h9 := hO.cls
    rw [hvm] at h9
    exact h9
  have hall : s.sameButNew ({ U with vm := s.vm } : State) locs mc ms := by
    subst hA
    obtain ⟨e1, e2⟩ := hsame
    rw [State.setFrames_setFrames] at e1
    have h2 : (T.setVm s.vm).sameButNew ({ U with vm := s.vm } : State) [] (0 + 1) (0 + 6) := ⟨e1, e2⟩
    have h3 := X.same.trans h2
    rw [List.append_nil] at h3
    exact h3.mono hc hs
  refine ⟨U, ?_, .threw T.heap.size, hrun, hend, Or.inr ⟨T.heap.size, rfl, cls, ce, locs, hx U hWs.alike f1 (fun q hq => f2 q hq (fun z hz => nomatch hz)), hce, hO.vm, hcl, hWs, hall, hf⟩⟩
  refine st1 _ ?_
  show Steps p.tables e below (T1.setTop { method := m, pc := pc + 3, locals := ls, stack := .ref T.heap.size :: rest, locked := none }) _
  jvm_step X₁.here [X₁.here.top, hexec, d3', Value.category]
  exact hsteps
/-- 'throw new E("text")': new; dup; ldc; invokespecial; athrow -/
theorem vx_throwS {cc : ByteArray} {pc : Nat} (hexec : p.tables.exec = Jvm.exec) (hb : c.code = cc) (hl : l.stackTraces = false) {own cls text : String} {names : List String} {ik is ic mc ms sa : Nat} {A : Nat → Prop}
    (hown : s.vm.findClass own = some m.cls) (hcls : Bundle.fit cls = true) (hnames : ∀ n ∈ names, Bundle.fit n = true)
    (hk : (Cond.classLink own ik cls).before args s = true) (hini : (Cond.initialized cls).before args s = true) (hstr : vk_R own is text sa s) (hat : ∀ w ∈ vx_atS own ic cls names, w.before args s = true)
    (hgood : ∀ w ∈ Cond.classLink own ik cls :: Cond.initialized cls :: vx_atS own ic cls names, vx_ot w = true)
    (hU : vx_Zq Bundle.tN "UNASSIGNED_STACK" Bundle.steD A s s.heap) (hN : vx_Zq Bundle.tN "SUPPRESSED_SENTINEL" Bundle.listD A s s.heap) (hS : va_S A s.heap H locs) (hsize : ls.size = c.maxLocals)
    (d0 : decode cc pc = .ok (.new ik, 3)) (d3 : decode cc (pc + 3) = .ok (.dup, 1)) (d4 : decode cc (pc + 4) = .ok (.ldc is, 2)) (d6 : decode cc (pc + 6) = .ok (.invokespecial ic, 3)) (d9 : decode cc (pc + 9) = .ok (.athrow, 1))
    (hout : ∀ x ∈ c.exceptionTable.toList, covers x (pc + 9) = false)
    (hRframes : names.length + 3 < R.frames) (hRlocals : (rest.map fun v => v.category).sum + (13 * (names.length + 1) + 43) ≤ R.locals) (hRcells : cells + 1 ≤ R.cells) (hRslots : slots + 6 ≤ R.slots) (hlocks : meth.locks = false)
    (hx : ∀ t : State, s.vm.Alike t.vm → H.size ≤ t.heap.size → (∀ q : Nat, q < H.size → t.heap[q]? = H[q]?) → XC cls s t)
    (hf : ∀ z ∈ locs, free z.base) (hc : cells + 1 ≤ mc) (hs : slots + 6 ≤ ms) :
    W p l e R s m args below meth c H locs cells slots (vx_MQ below Qc XC args s mc ms free) (F0 m pc ls rest) := by
  intro T hT X
  have htr : e.platform.stackTraces = false := (show e.platform.stackTraces = l.stackTraces by rw [X.admits.platform]).trans hl
  have Y := vx_rebase X (R' := { frames := R.frames, locals := R.locals, cells := 1, slots := 6 }) (Nat.le_refl _) (Nat.le_refl _) hRcells hRslots
  obtain ⟨s', hA⟩ : ∃ z, z = (T.setVm s.vm).setFrames (.invoking m args :: below) := ⟨_, rfl⟩
  rw [← hA] at Y
  have hvm : s'.vm = s.vm := by rw [hA]; rfl
  have hhp : s'.heap = H := by rw [hA]; exact hT
  have hW0 : s.WarmedH s'.vm := by rw [hvm]; exact State.WarmedH.refl s
  have hat' : ∀ w ∈ vx_atS own ic cls names, w.before args s' = true := fun w hw => vx_ot_at hW0 hvm.symm (hgood w (List.mem_cons_of_mem _ (List.mem_cons_of_mem _ hw))) (hat w hw)
  have hk' : (Cond.classLink own ik cls).before args s' = true := vx_ot_at hW0 hvm.symm (hgood _ List.mem_cons_self) hk
  have hini' : (Cond.initialized cls).before args s' = true := vx_ot_at hW0 hvm.symm (hgood _ (List.mem_cons_of_mem _ List.mem_cons_self)) hini
  have hU' : vx_Zq Bundle.tN "UNASSIGNED_STACK" Bundle.steD A s' s'.heap := by rw [hhp]; exact vx_Zq.moved hW0.alike (hU.kept hS.2.1)
  have hN' : vx_Zq Bundle.tN "SUPPRESSED_SENTINEL" Bundle.listD A s' s'.heap := by rw [hhp]; exact vx_Zq.moved hW0.alike (hN.kept hS.2.1)
  have h : ∀ w ∈ Bundle.ownAtoms own ic cls names, w.before args s' = true := vx_own hat' (vx_isRefq hU'.1) (vx_isRefq hN'.1) hU'.2.word hN'.2.word
  have hown' : s'.vm.findClass own = some m.cls := by rw [hvm]; exact hown
  have hins : (Cond.instantiable cls 6).before args s' = true := h _ (by simp [Bundle.ownAtoms])
  obtain ⟨vm₁, cX, kX, hfX, hkX, -, -, X₁, st1⟩ := Y.newCold hexec (own := own) (C := cls) (index := ik) (n := 6) hown' hk' hins hini'
    (g := F0 m pc ls rest) rfl (by rw [hb]; exact d0) (Nat.le_refl _) (Nat.le_refl _)
  generalize hT1 : (T.setVm vm₁).pushCell { cls := cX, slots := kX.instanceTypes.map defaultValue, vm := .none } = T1 at X₁ st1
  have hcat : (Value.ref T.heap.size).category = 1 := rfl
  have hcellA : T1.heap[T.heap.size]? = some (freshCell cX kX) := by rw [← hT1]; exact State.heap_pushCell_size _ _
  have d3' : decode c.code (pc + 3) = .ok (.dup, 1) := by rw [hb]; exact d3
  have d4' : decode c.code (pc + 4) = .ok (.ldc is, 2) := by rw [hb]; exact d4
  have hstr' : vk_R own is text sa s' := vk_R.warm hW0 hstr
  obtain ⟨U, hsteps, hrun, hend, hW, hsame, ce, hce, hO⟩ := X₁.ctorThrowS hexec htr (own := own) (cls := cls) (names := names) (ic := ic) hown' hcls hnames h (fun x hx => nomatch hx) hfX hkX hcellA (by rw [hhp, hT]; exact Nat.le_refl _) (msg := .ref sa) rfl
    (g := { method := m, pc := pc + 6, locals := ls, stack := .ref sa :: .ref T.heap.size :: .ref T.heap.size :: rest, locked := none }) rfl hsize rfl rfl (rest := rest) rfl
    (by rw [hb]; exact d6) (by rw [hb]; exact d9) hout hRframes (by simp only [List.map_cons, List.sum_cons, hcat]; omega) hlocks
  obtain ⟨f1, f2⟩ := vx_frame hsame
  rw [hhp] at f1 f2
  have hWs : s.WarmedH U.vm := State.WarmedH.trans hW0 hW
  have hcl : s.vm.findClass cls = some ce.cls := by
    have h9 := hO.cls
    rw [hvm] at h9
    exact h9
  have hall : s.sameButNew ({ U with vm := s.vm } : State) locs mc ms := by
    subst hA
    obtain ⟨e1, e2⟩ := hsame
    rw [State.setFrames_setFrames] at e1
    have h2 : (T.setVm s.vm).sameButNew ({ U with vm := s.vm } : State) [] (0 + 1) (0 + 6) := ⟨e1, e2⟩
    have h3 := X.same.trans h2
    rw [List.append_nil] at h3
    exact h3.mono hc hs
  refine ⟨U, ?_, .threw T.heap.size, hrun, hend, Or.inr ⟨T.heap.size, rfl, cls, ce, locs, hx U hWs.alike f1 (fun q hq => f2 q hq (fun z hz => nomatch hz)), hce, hO.vm, hcl, hWs, hall, hf⟩⟩
  refine st1 _ ?_
  show Steps p.tables e below (T1.setTop { method := m, pc := pc + 3, locals := ls, stack := .ref T.heap.size :: rest, locked := none }) _
  jvm_step X₁.here [X₁.here.top, hexec, d3', Value.category]
  exact X₁.ldcString hexec (own := own) (text := text) (index := is) (a := sa) hown' hstr'.1 hstr'.2
    (g := { method := m, pc := pc + 4, locals := ls, stack := .ref T.heap.size :: .ref T.heap.size :: rest, locked := none }) rfl d4' _ hsteps
/-- 'throw new E("text")', the text by a wide index -/
theorem vx_throwSW {cc : ByteArray} {pc : Nat} (hexec : p.tables.exec = Jvm.exec) (hb : c.code = cc) (hl : l.stackTraces = false) {own cls text : String} {names : List String} {ik is ic mc ms sa : Nat} {A : Nat → Prop}
    (hown : s.vm.findClass own = some m.cls) (hcls : Bundle.fit cls = true) (hnames : ∀ n ∈ names, Bundle.fit n = true)
    (hk : (Cond.classLink own ik cls).before args s = true) (hini : (Cond.initialized cls).before args s = true) (hstr : vk_R own is text sa s) (hat : ∀ w ∈ vx_atS own ic cls names, w.before args s = true)
    (hgood : ∀ w ∈ Cond.classLink own ik cls :: Cond.initialized cls :: vx_atS own ic cls names, vx_ot w = true)
    (hU : vx_Zq Bundle.tN "UNASSIGNED_STACK" Bundle.steD A s s.heap) (hN : vx_Zq Bundle.tN "SUPPRESSED_SENTINEL" Bundle.listD A s s.heap) (hS : va_S A s.heap H locs) (hsize : ls.size = c.maxLocals)
    (d0 : decode cc pc = .ok (.new ik, 3)) (d3 : decode cc (pc + 3) = .ok (.dup, 1)) (d4 : decode cc (pc + 4) = .ok (.ldc_w is, 3)) (d7 : decode cc (pc + 7) = .ok (.invokespecial ic, 3)) (d10 : decode cc (pc + 10) = .ok (.athrow, 1))
    (hout : ∀ x ∈ c.exceptionTable.toList, covers x (pc + 10) = false)
    (hRframes : names.length + 3 < R.frames) (hRlocals : (rest.map fun v => v.category).sum + (13 * (names.length + 1) + 43) ≤ R.locals) (hRcells : cells + 1 ≤ R.cells) (hRslots : slots + 6 ≤ R.slots) (hlocks : meth.locks = false)
    (hx : ∀ t : State, s.vm.Alike t.vm → H.size ≤ t.heap.size → (∀ q : Nat, q < H.size → t.heap[q]? = H[q]?) → XC cls s t)
    (hf : ∀ z ∈ locs, free z.base) (hc : cells + 1 ≤ mc) (hs : slots + 6 ≤ ms) :
    W p l e R s m args below meth c H locs cells slots (vx_MQ below Qc XC args s mc ms free) (F0 m pc ls rest) := by
  intro T hT X
  have htr : e.platform.stackTraces = false := (show e.platform.stackTraces = l.stackTraces by rw [X.admits.platform]).trans hl
  have Y := vx_rebase X (R' := { frames := R.frames, locals := R.locals, cells := 1, slots := 6 }) (Nat.le_refl _) (Nat.le_refl _) hRcells hRslots
  obtain ⟨s', hA⟩ : ∃ z, z = (T.setVm s.vm).setFrames (.invoking m args :: below) := ⟨_, rfl⟩
  rw [← hA] at Y
  have hvm : s'.vm = s.vm := by rw [hA]; rfl
  have hhp : s'.heap = H := by rw [hA]; exact hT
  have hW0 : s.WarmedH s'.vm := by rw [hvm]; exact State.WarmedH.refl s
  have hat' : ∀ w ∈ vx_atS own ic cls names, w.before args s' = true := fun w hw => vx_ot_at hW0 hvm.symm (hgood w (List.mem_cons_of_mem _ (List.mem_cons_of_mem _ hw))) (hat w hw)
  have hk' : (Cond.classLink own ik cls).before args s' = true := vx_ot_at hW0 hvm.symm (hgood _ List.mem_cons_self) hk
  have hini' : (Cond.initialized cls).before args s' = true := vx_ot_at hW0 hvm.symm (hgood _ (List.mem_cons_of_mem _ List.mem_cons_self)) hini
  have hU' : vx_Zq Bundle.tN "UNASSIGNED_STACK" Bundle.steD A s' s'.heap := by rw [hhp]; exact vx_Zq.moved hW0.alike (hU.kept hS.2.1)
  have hN' : vx_Zq Bundle.tN "SUPPRESSED_SENTINEL" Bundle.listD A s' s'.heap := by rw [hhp]; exact vx_Zq.moved hW0.alike (hN.kept hS.2.1)
  have h : ∀ w ∈ Bundle.ownAtoms own ic cls names, w.before args s' = true := vx_own hat' (vx_isRefq hU'.1) (vx_isRefq hN'.1) hU'.2.word hN'.2.word
  have hown' : s'.vm.findClass own = some m.cls := by rw [hvm]; exact hown
  have hins : (Cond.instantiable cls 6).before args s' = true := h _ (by simp [Bundle.ownAtoms])
  obtain ⟨vm₁, cX, kX, hfX, hkX, -, -, X₁, st1⟩ := Y.newCold hexec (own := own) (C := cls) (index := ik) (n := 6) hown' hk' hins hini'
    (g := F0 m pc ls rest) rfl (by rw [hb]; exact d0) (Nat.le_refl _) (Nat.le_refl _)
  generalize hT1 : (T.setVm vm₁).pushCell { cls := cX, slots := kX.instanceTypes.map defaultValue, vm := .none } = T1 at X₁ st1
  have hcat : (Value.ref T.heap.size).category = 1 := rfl
  have hcellA : T1.heap[T.heap.size]? = some (freshCell cX kX) := by rw [← hT1]; exact State.heap_pushCell_size _ _
  have d3' : decode c.code (pc + 3) = .ok (.dup, 1) := by rw [hb]; exact d3
  have d4' : decode c.code (pc + 4) = .ok (.ldc_w is, 3) := by rw [hb]; exact d4
  have hstr' : vk_R own is text sa s' := vk_R.warm hW0 hstr
  obtain ⟨U, hsteps, hrun, hend, hW, hsame, ce, hce, hO⟩ := X₁.ctorThrowS hexec htr (own := own) (cls := cls) (names := names) (ic := ic) hown' hcls hnames h (fun x hx => nomatch hx) hfX hkX hcellA (by rw [hhp, hT]; exact Nat.le_refl _) (msg := .ref sa) rfl
    (g := { method := m, pc := pc + 7, locals := ls, stack := .ref sa :: .ref T.heap.size :: .ref T.heap.size :: rest, locked := none }) rfl hsize rfl rfl (rest := rest) rfl
    (by rw [hb]; exact d7) (by rw [hb]; exact d10) hout hRframes (by simp only [List.map_cons, List.sum_cons, hcat]; omega) hlocks
  obtain ⟨f1, f2⟩ := vx_frame hsame
  rw [hhp] at f1 f2
  have hWs : s.WarmedH U.vm := State.WarmedH.trans hW0 hW
  have hcl : s.vm.findClass cls = some ce.cls := by
    have h9 := hO.cls
    rw [hvm] at h9
    exact h9
  have hall : s.sameButNew ({ U with vm := s.vm } : State) locs mc ms := by
    subst hA
    obtain ⟨e1, e2⟩ := hsame
    rw [State.setFrames_setFrames] at e1
    have h2 : (T.setVm s.vm).sameButNew ({ U with vm := s.vm } : State) [] (0 + 1) (0 + 6) := ⟨e1, e2⟩
    have h3 := X.same.trans h2
    rw [List.append_nil] at h3
    exact h3.mono hc hs
  refine ⟨U, ?_, .threw T.heap.size, hrun, hend, Or.inr ⟨T.heap.size, rfl, cls, ce, locs, hx U hWs.alike f1 (fun q hq => f2 q hq (fun z hz => nomatch hz)), hce, hO.vm, hcl, hWs, hall, hf⟩⟩
  refine st1 _ ?_
  show Steps p.tables e below (T1.setTop { method := m, pc := pc + 3, locals := ls, stack := .ref T.heap.size :: rest, locked := none }) _
  jvm_step X₁.here [X₁.here.top, hexec, d3', Value.category]
  exact X₁.ldcStringW hexec (own := own) (text := text) (index := is) (a := sa) hown' hstr'.1 hstr'.2
    (g := { method := m, pc := pc + 4, locals := ls, stack := .ref T.heap.size :: .ref T.heap.size :: rest, locked := none }) rfl d4' _ hsteps
end Ends
section Bodies
variable {l : Launch}
theorem vx_ofW {y : MethodName} {ws ws' : List Cond} {rm : Room} {Pc : Array Value → State → Prop} {Qc : Array Value → State → Outcome → State → Prop} {XC : String → State → State → Prop} {mc ms : Nat} {free : Addr → Prop} {cc : ByteArray} {maxL : Nat} {ret : Option FieldType}
    (hy : plainName y.cls = true) (hw : ws = Cond.code y cc maxL ret :: ws')
    (body : ∀ p e s m args below meth c s₁, BodyLoose p l y (headSpec ws rm) cc maxL ret e s m args below meth c s₁ → c.maxLocals = maxL → (∀ x ∈ c.exceptionTable.toList, False) → Pc args s →
      W p l e (headSpec ws rm).room s m args below meth c s.heap [] 0 0 (vx_MQ below Qc XC args s mc ms free) (entryFrame m args maxL)) : vx_Met l y ws rm Pc Qc XC mc ms free := by
  refine MetFree.of_bodyS (code := cc) (maxLocals := maxL) (ret := ret) hy ?_ ?_
  · intro args s m h hn
    obtain ⟨meth, c, h1, h2, h3, h4, h5, h6, -, -⟩ := Cond.code_spec hn (atoms_spec (ws := ws) h _ (by rw [hw]; exact List.mem_cons_self))
    exact ⟨meth, c, h1, h2, h3, h4, h5, h6⟩
  · intro p e s m args below meth c s₁ B hml hP _
    have hh0 : s₁.heap = s.heap := by rw [B.state]; rfl
    have ht : ∀ x ∈ c.exceptionTable.toList, False := by
      obtain ⟨meth9, c9, h1, h2, -, -, -, -, h7, -⟩ := Cond.code_spec B.named (atoms_spec (ws := ws) B.pre _ (by rw [hw]; exact List.mem_cons_self))
      cases Option.some.inj (h1.symm.trans B.method)
      cases Option.some.inj (h2.symm.trans (Stand.of_body B).code)
      intro x hx
      rw [Array.isEmpty_iff.mp h7] at hx
      cases hx
    obtain ⟨t, a1, o, b1, b2, b3⟩ := body p e s m args below meth c s₁ B hml ht hP s₁ hh0 (Stand.of_body B)
    exact ⟨t, o, a1, b1, b2, b3⟩
/-- the table of a body with handlers -/
theorem vx_table {p : Program} {x y : MethodName} {S : Spec} {cc bytes : ByteArray} {maxL maxL' : Nat} {ret ret' : Option FieldType} {e : Env} {s s₁ : State} {m : MethodId} {args : Array Value} {below : List Frame} {meth : Method} {c : Code} {hh : List (Nat × Nat × Nat × Nat)}
    (B : BodyLoose p l y S cc maxL ret e s m args below meth c s₁) (h : (Cond.codeWith y bytes maxL' ret' hh).before args s = true) : c.exceptionTable.toList = tableOf hh := by
  obtain ⟨m9, meth9, c9, hn9, h1, h2, -, -, h6, -⟩ := Cond.codeWith_spec h
  cases Option.some.inj (hn9.symm.trans B.named)
  cases Option.some.inj (h1.symm.trans B.method)
  cases Option.some.inj (h2.symm.trans (Stand.of_body B).code)
  rw [← h6, table_eq]
end Bodies
end VXA
/-! ===== END ===== -/
/-! ===== BEGIN a static call of a method with an exception table ===== -/
section VXS
variable {p : Program} {l : Launch} {e : Env} {R : Room} {s : State} {m : MethodId} {args : Array Value} {below : List Frame} {meth : Method} {c : Code} {T : State} {H : Heap} {locs : List Loc} {cells slots : Nat}
abbrev vx_CSW (R : Room) (s : State) (args : Array Value) (own : String) (index : Nat) (y : MethodName) (bytes : ByteArray) (maxL : Nat) (ret : Option FieldType) (hh : List (Nat × Nat × Nat × Nat)) (ws : List Cond) (rm : Room) (mc ms n : Nat) : Prop :=
  (rm.cells = mc ∧ rm.slots = ms ∧ rm.frames + 1 ≤ R.frames ∧ 8 + (maxL + 11) + rm.locals ≤ R.locals ∧ (∀ w ∈ ws, ∀ (a' : Array Value) (U : State), s.WarmedH U.vm → w.before a' U = true) ∧ Cond.codeWith y bytes maxL ret hh ∈ ws) ∧
  (Cond.codeWith y bytes maxL ret hh).before args s = true ∧ (Cond.initialized y.cls).before args s = true ∧ (y.cls ≠ "java/lang/invoke/MethodHandle" ∧ y.cls ≠ "java/lang/invoke/VarHandle") ∧
  (∀ sig, parseMethodDescriptor y.desc = some sig → n = sig.parameters.length) ∧ (Cond.methodLink own index y).before args s = true ∧ (Cond.static y).before args s = true
theorem vx_cwSW {own : String} {index maxL mc ms : Nat} {y : MethodName} {bytes : ByteArray} {ret : Option FieldType} {hh : List (Nat × Nat × Nat × Nat)} {Ts ws ws' : List Cond} {rm : Room} (n : Nat) (ht : ∀ w ∈ Ts, w.before args s = true) (hT : GoodIn Ts (va_wsS own index y ws)) (hw : ws = Cond.codeWith y bytes maxL ret hh :: ws') (hrc : rm.cells = mc) (hrs : rm.slots = ms)
    (hd : y.cls ≠ "java/lang/invoke/MethodHandle" ∧ y.cls ≠ "java/lang/invoke/VarHandle" ∧ (parseMethodDescriptor y.desc).map (fun d => d.parameters.length) = some n) (hR : rm.frames + 1 ≤ R.frames ∧ 8 + (maxL + 11) + rm.locals ≤ R.locals) :
    vx_CSW R s args own index y bytes maxL ret hh ws rm mc ms n := by
  have ok : ∀ w ∈ va_wsS own index y ws, w.before args s = true := fun w h => ht w (hT w h).1
  have hG : GoodIn Ts ws := fun w h => hT w (by unfold va_wsS; exact List.mem_append_right _ h)
  have hc : Cond.codeWith y bytes maxL ret hh ∈ ws := by rw [hw]; exact List.mem_cons_self
  refine ⟨⟨hrc, hrs, hR.1, hR.2, pay_in ht hG, hc⟩, ht _ (hG _ hc).1, ok _ (by simp [va_wsS]), ⟨hd.1, hd.2.1⟩, fun sig h => ?_, ok _ (by simp [va_wsS]), ok _ (by simp [va_wsS])⟩
  have h2 := hd.2.2
  rw [h] at h2
  exact (Option.some.inj h2).symm
theorem vx_callSW (X : Stand p l e R s m args below meth c T locs cells slots) (hexec : p.tables.exec = Jvm.exec) {own : String} {index : Nat} {y : MethodName} {bytes : ByteArray} {maxL : Nat} {ret : Option FieldType} {hh : List (Nat × Nat × Nat × Nat)}
    (hown : s.vm.findClass own = some m.cls) (hlink : (Cond.methodLink own index y).before args s = true) (hstat : (Cond.static y).before args s = true) (hinit : (Cond.initialized y.cls).before args s = true)
    (hcode : (Cond.codeWith y bytes maxL ret hh).before args s = true) (hy : y.cls ≠ "java/lang/invoke/MethodHandle" ∧ y.cls ≠ "java/lang/invoke/VarHandle")
    {W9 : Nat} {Pre : Pt → Array Value → Prop} {Post : Pt → Array Value → Option Value → Pt → Prop} (hK : Back l R p e below s args y 3 W9 Pre Post)
    {g : JFrame} (hg : g.method = m) (hsize : g.locals.size = c.maxLocals) {argsL rest : List Value} (hlen : ∀ sig, parseMethodDescriptor y.desc = some sig → argsL.length = sig.parameters.length)
    (hstack : g.stack = argsL.reverse ++ rest) (hW : 2 * g.monitorRoom + (rest.map fun v => v.category).sum ≤ W9) (hdg : decode c.code g.pc = .ok (.invokestatic index, 3))
    (hpre : ∀ vm₁, s.WarmedH vm₁ → Pre ⟨T.setVm vm₁, locs, cells, slots⟩ argsL.toArray) :
    ∃ (v : Option Value) (vm₁ : Vm) (B : Pt), s.WarmedH vm₁ ∧ Stand p l e R s m args below meth c B.U B.locs B.cells B.slots ∧ Post ⟨T.setVm vm₁, locs, cells, slots⟩ argsL.toArray v B ∧
      ∀ target, Steps p.tables e below (B.U.setTop { g with pc := g.pc + 3, stack := v.toList ++ rest }) target → Steps p.tables e below (T.setTop g) target := by
  obtain ⟨mk, methM, cM, hnamed, hmethM, -, -, -, -, -, -, hsigM⟩ := Cond.codeWith_spec hcode
  have hstatic : methM.isStatic = true := Cond.static_spec hnamed hmethM hstat
  obtain ⟨kP, hkP, -⟩ := className_of_methodNamed hnamed
  have hinitP : kP.init = .initialized := Cond.initialized_spec (findClass_of_methodNamed hnamed) hkP hinit
  obtain ⟨vm₁, X₁, hstep₁⟩ := X.invokestatic hexec hown hlink hnamed hmethM hstatic hkP hinitP hy (g := g) hg (argsL := argsL) (rest := rest) (hlen _ hsigM) hstack hdg
  obtain ⟨v, B, X', hpost, hsteps⟩ := hK m meth c ⟨T.setVm vm₁, locs, cells, slots⟩ { g with stack := rest } (.invokestatic index) mk argsL.toArray X₁ hg hsize hdg hW (X₁.named hnamed) (hpre vm₁ X₁.warmed)
  exact ⟨v, vm₁, B, X₁.warmed, X', hpost, fun target h => hstep₁ _ fun acts => by rw [doInvoke_state]; exact hsteps.trans h⟩
theorem vx_runSW {y : MethodName} {bytes cc : ByteArray} {maxL nL mc ms n index : Nat} {ret : Option FieldType} {hh : List (Nat × Nat × Nat × Nat)} {ws : List Cond} {rm : Room} {Pc : Array Value → State → Prop} {Qc : Array Value → State → Outcome → State → Prop} {free : Addr → Prop} {Ts : List Cond} {own : String} {As rest : List Value} {g : JFrame}
    (S : CallFix p m c cc nL s args Ts own) (hM : Met l y ws rm Pc Qc mc ms free) (cw : vx_CSW R s args own index y bytes maxL ret hh ws rm mc ms n) (hp : PreS s H Pc As)
    (hg : g.method = m) (hn : As.length = n) (hsize : g.locals.size = nL) (hstack : g.stack = As.reverse ++ rest) (hW : 2 * g.monitorRoom + (rest.map fun v => v.category).sum ≤ 8) (hdg : decode cc g.pc = .ok (.invokestatic index, 3)) (hf : cells + mc ≤ R.cells ∧ slots + ms ≤ R.slots) :
    va_Run p l e R s m args below meth c H locs cells slots mc ms g rest (Qc As.toArray) (free) := by
  obtain ⟨⟨hrc, hrs, hfr, hlo, hws, hcw⟩, hcode, hini, hy, hlen, hl, hstt⟩ := cw
  have hK : Back l R p e below s args y 3 8 (PreOf R mc ms Pc) (PostOf Qc mc ms free) := va_backW (hh := hh) (bytes := bytes) (maxL := maxL) (ret := ret) hM hp.1 hrc hrs hfr hlo hws hcw (fun a' U hW => word_at hW (Or.inl (by first | rfl | simp [Cond.onTables, Cond.keeps, Cond.steady])) hini)
  obtain ⟨hx, hb, hml, ho, -⟩ := S
  intro T hT X
  obtain ⟨v, vm₁, ⟨U', l2, c2, s2⟩, hW₁, X', ⟨g', mk, t, L, e1, e2, hq, h1, hL, h2, h3⟩, st⟩ := vx_callSW X hx (hh := hh) (bytes := bytes) (maxL := maxL) (ret := ret) ho hl hstt hini hcode hy hK hg (hsize.trans hml.symm) (argsL := As) (rest := rest) (fun sig h => hn.trans (hlen sig h)) hstack hW (by rw [hb]; exact hdg)
    (fun vm₁ hW₁ => ⟨hf.1, hf.2, hp.2 (T.setVm vm₁) hT hW₁⟩)
  dsimp only [Pt.U, Pt.locs, Pt.cells, Pt.slots] at X' e1 e2 h1 h2 h3 st
  subst h1; subst h2; subst h3
  exact ⟨v, (T.setVm vm₁).calling g' mk As.toArray, t, U', L, hT, X', hL, e1, e2, hq, st⟩
/-- not caught here, past rows that name other classes: it goes on to the caller -/
theorem vx_outP {p : Program} {l : Launch} {e : Env} {R : Room} {s : State} {m : MethodId} {args : Array Value} {below : List Frame} {meth : Method} {c : Code} {H : Heap} {locs : List Loc} {cells slots : Nat} {free : Addr → Prop} {ls : Array Slot} {rest : List Value} {Qc : Array Value → State → Outcome → State → Prop} {XC : String → State → State → Prop}
    {pc : Nat} {own E : String} {ce : Cell} {q : Addr} {mc ms : Nat} (hown : s.vm.findClass own = some m.cls) (hlocks : meth.locks = false)
    (hpass : ∀ z ∈ c.exceptionTable.toList, covers z pc = false ∨ (z.catchType ≠ 0 ∧ ∃ nm : String, (Cond.classLink own z.catchType nm).before args s = true ∧ va_Nc E nm s)) (hcell : H[q]? = some ce) (hv : ce.vm = .none) (hcl : s.vm.findClass E = some ce.cls)
    (hx : ∀ t : State, t.heap = H → s.vm.Alike t.vm → XC E s t) (hf : ∀ z ∈ locs, free z.base) (hc : cells ≤ mc) (hs : slots ≤ ms) :
    vx_W p l e R s m args below meth c H locs cells slots (vx_MQ below Qc XC args s mc ms free) (F0 m pc ls rest) q := by
  intro T hT X
  have hpl : e.platform.magicAccessors = ({} : Platform).magicAccessors := by rw [X.admits.platform]
  obtain ⟨vm', hW', X', st⟩ := X.outThrough hlocks q (g := F0 m pc ls rest) rfl rfl rfl (cell := ce) (by rw [hT]; exact hcell) (by rw [hv]; rfl)
    (by obtain ⟨k9, h9, -⟩ := Vm.findClass_spec hcl; exact ⟨k9, h9⟩) (fun z hz => by
      rcases hpass z hz with h | ⟨hz0, nm, hl1, hn1⟩
      · exact Or.inl h
      · obtain ⟨c6, hc6, hcl6⟩ := Cond.classLink_spec hown hl1 e.platform hpl
        obtain ⟨a8, b8, h1, h2, h3⟩ := hn1
        cases Option.some.inj (h1.symm.trans hcl)
        cases Option.some.inj (h2.symm.trans hc6)
        exact Or.inr ⟨hz0, _, hcl6, h3⟩)
  obtain ⟨g₀, hfr⟩ := X'.frames_eq
  have hcell9 : ((T.setVm vm').setFrames (.throwing q :: below)).heap[q]? = some ce := by
    show T.heap[q]? = some ce
    rw [hT]; exact hcell
  have hend : Ended ((T.setVm vm').setFrames (.throwing q :: below)) below (.threw q) := State.frames_setFrames _ (State.cur_lt_of_frames hfr)
  refine ⟨(T.setVm vm').setFrames (.throwing q :: below), ?_, .threw q, X'.here.running, hend, Or.inr ⟨q, rfl, E, ce, locs, hx _ hT (X'.ends _).1.alike, hcell9, hv, hcl, (X'.ends _).1, (X'.ends _).2.mono hc hs, hf⟩⟩
  rw [X.pushThrowing_eq]
  exact st
/-- a thing of a world lies in the heap -/
theorem vx_lt {D : va_G} {cl : List vw_C} {ws : va_W} {H1 : Heap} (h : va_P D cl ws H1) {k : Nat} {q : Nat × va_E} (hk : ws[k]? = some q) : q.1 < H1.size := (h k q hk).lt
end VXS
/-! ===== END ===== -/
/-! ===== BEGIN methods with a table of their own: called by a name, returning or throwing ===== -/
section VXH
/-! vx_backW, vx_callVX, vx_callSX, vx_callVW, vx_runVW, vx_runVX, vx_runSX, vx_ofWH follow the same proofs as their sisters above (Free/Laws.lean, Shelf42/LK1.lean); vx_outP calls Shelf42/NT130.lean (outThrough). -/
section
variable {l : Launch} {R : Room} {p : Program} {e : Env} {below : List Frame} {s : State} {sargs : Array Value} {y : MethodName} {len W9 : Nat}
theorem vx_backW {ws : List Cond} {rm : Room} {Pc : Array Value → State → Prop} {Qc : Array Value → State → Outcome → State → Prop} {XC : String → State → State → Prop} {mc ms : Nat} {free : Addr → Prop} {bytes : ByteArray} {maxL : Nat} {ret : Option FieldType} {hh : List (Nat × Nat × Nat × Nat)}
    (hM : vx_Met l y ws rm Pc Qc XC mc ms free) (hblind : FrameBlind Pc) (hrc : rm.cells = mc) (hrs : rm.slots = ms)
    (hframes : rm.frames + 1 ≤ R.frames) (hlocals : W9 + (maxL + 11) + rm.locals ≤ R.locals)
    (hws : ∀ w ∈ ws, ∀ a' U, s.WarmedH U.vm → w.before a' U = true) (hcode : Cond.codeWith y bytes maxL ret hh ∈ ws) (hinit : ∀ a' U, s.WarmedH U.vm → (Cond.initialized y.cls).before a' U = true) :
    vx_Back l R p e below s sargs y len W9 (PreOf R mc ms Pc) (PostOf Qc mc ms free) (vx_Post XC mc ms free) := by
  intro m meth c A g ig mk a X hg hsize hdg hW hn hp
  have h1 : (headSpec ws rm).pre.before a A.U = true := atoms_intro fun w hw => hws w hw _ _ X.warmed
  have h2 : (Cond.codeWith y bytes maxL ret hh).before a A.U = true := hws _ hcode _ _ X.warmed
  have h3 : (Cond.initialized y.cls).before a A.U = true := hinit _ _ X.warmed
  have h4 : A.cells + (headSpec ws rm).room.cells ≤ R.cells := by rw [show (headSpec ws rm).room.cells = mc from hrc]; exact hp.1
  have h5 : A.slots + (headSpec ws rm).room.slots ≤ R.slots := by rw [show (headSpec ws rm).room.slots = ms from hrs]; exact hp.2.1
  have hPc : Pc a (A.U.calling g mk a) := hblind _ _ _ _ hp.2.2
  obtain ⟨U, Ls, c0, s0⟩ := A
  dsimp only [Pt.U, Pt.locs, Pt.cells, Pt.slots] at h1 h2 h3 h4 h5 X hn hPc ⊢
  obtain ⟨m9, methY, cY, hn9, hmY, hcY, -, hlY, -⟩ := Cond.codeWith_spec h2
  cases Option.some.inj (hn9.symm.trans hn)
  obtain ⟨kY, hkY, -⟩ := className_of_methodNamed hn
  have hinitY : kY.init = .initialized := Cond.initialized_spec (findClass_of_methodNamed hn) hkY h3
  have h : At U g.method c below := by rw [hg]; exact X.here
  have hlocals9 : W9 + (maxL + 11) + (headSpec ws rm).room.locals ≤ R.locals := hlocals
  have happ : (headSpec ws rm).appliesLoose y e.platform (U.calling g mk a) = true :=
    Spec.appliesLoose_calling (g := g) h hdg hn hkY hinitY
      (X.room_calling (g := g) (R' := (headSpec ws rm).room) hsize hmY hcY hframes (by rw [hlY]; omega) h4 h5) h1
  obtain ⟨mid, hmid⟩ := h.above
  have hfr : (U.setTop g).frames = (.java g :: mid) ++ below := by rw [State.frames_setTop' g h.top, hmid]; rfl
  obtain ⟨o, s₂, hsteps, -, hend, hq⟩ := Steps.callFree hM p X.admits X.cas X.clock (acts := []) hfr happ hPc trivial
  have hq' : vx_Q Qc XC mc ms free a (U.calling g mk a) o s₂ := hq
  rw [State.frames_setTop' g h.top] at hend
  obtain ⟨g₀, hg0⟩ := Option.isSome_iff_exists.mp h.top
  obtain ⟨r, hr⟩ := State.topJava?_eq_some.mp hg0
  have hr' : (({ U with heap := s₂.heap, slotsUsed := s₂.slotsUsed } : State).setVm s₂.vm).frames = .java g₀ :: r := hr
  rcases hq' with ⟨hqc, L, hfe, hL⟩ | ⟨q, rfl, E, ce, L, hx, hce, hcv, hcl, hW₂, hsm, hL⟩
  · obtain ⟨⟨v, rfl⟩, hW₂, e2, q2, q3, q4, q5, q6⟩ := id hfe
    have e3 : s₂ = ({ (U.calling g mk a).setFrames s₂.frames with heap := s₂.heap, slotsUsed := s₂.slotsUsed } : State).setVm s₂.vm := by
      have : s₂ = ({ s₂ with vm := (U.calling g mk a).vm } : State).setVm s₂.vm := rfl
      rw [e2] at this
      exact this
    obtain ⟨c₂, i₂, len₂, hc₂, hd₂, hf₂⟩ := hend
    have hW' : U.WarmedH s₂.vm := hW₂
    have hcc : c₂ = c := by
      have h1 : s₂.code? g.method = U.code? g.method := by
        rw [State.code?_eq, State.code?_eq, hW'.alike.method?]
      exact Option.some.inj (hc₂.symm.trans (h1.trans h.code))
    subst hcc
    have hlen : len₂ = len := by rw [hdg] at hd₂; cases hd₂; rfl
    subst hlen
    have hs₂ : s₂ = (({ U with heap := s₂.heap, slotsUsed := s₂.slotsUsed } : State).setVm s₂.vm).setTop { g with pc := g.pc + len₂, stack := v.toList ++ g.stack } := by
      refine e3.trans ?_
      rw [hf₂, State.calling_eq h.top, State.setFrames_setFrames, State.setTop_of_frames _ hr', hr]
      rfl
    have hsame : U.sameButNew ({ U with heap := s₂.heap, slotsUsed := s₂.slotsUsed } : State) L mc ms := by
      refine ⟨?_, q2, q3, q4, q5, q6⟩
      obtain ⟨t, ht, -⟩ := State.frames_cons hr
      show ({ U with heap := s₂.heap, slotsUsed := s₂.slotsUsed } : State) = { U.setFrames U.frames with heap := s₂.heap, slotsUsed := s₂.slotsUsed }
      rw [State.setFrames_self ht]
    subst hg
    refine Or.inl ⟨v, ⟨(({ U with heap := s₂.heap, slotsUsed := s₂.slotsUsed } : State).setVm s₂.vm), Ls ++ L, c0 + mc, s0 + ms⟩,
      ⟨X.admits, X.cas, X.clock, X.frames, X.room, X.hears, X.method, X.code, (X.here.setHeapUsed s₂.heap s₂.slotsUsed).setVm hW'.alike, X.tail, State.WarmedH.trans X.warmed hW', X.limits, X.bytes, X.same.trans (hsame.setVm s.vm)⟩,
      ⟨g, mk, s₂, L, rfl, rfl, hqc, rfl, hL, rfl, rfl⟩, ?_⟩
    show Steps p.tables e below _ ((({ U with heap := s₂.heap, slotsUsed := s₂.slotsUsed } : State).setVm s₂.vm).setTop { g with pc := g.pc + len₂, stack := v.toList ++ g.stack })
    rw [← hs₂]
    exact hsteps
  · obtain ⟨e2, q2, q3, q4, q5, q6⟩ := id hsm
    have e3 : s₂ = ({ (U.calling g mk a).setFrames s₂.frames with heap := s₂.heap, slotsUsed := s₂.slotsUsed } : State).setVm s₂.vm := by
      have : s₂ = ({ s₂ with vm := (U.calling g mk a).vm } : State).setVm s₂.vm := rfl
      rw [e2] at this
      exact this
    have hf₂ : s₂.frames = .throwing q :: .java g :: U.frames.tail := hend
    have hW' : U.WarmedH s₂.vm := hW₂
    have hs₂ : s₂ = ((({ U with heap := s₂.heap, slotsUsed := s₂.slotsUsed } : State).setVm s₂.vm).setTop g).pushFrame (.throwing q) := by
      refine e3.trans ?_
      rw [hf₂, State.calling_eq h.top, State.setFrames_setFrames, State.pushFrame, State.frames_setTop _ hr', State.setTop_of_frames _ hr', State.setFrames_setFrames, hr]
      rfl
    have hsame : U.sameButNew ({ U with heap := s₂.heap, slotsUsed := s₂.slotsUsed } : State) L mc ms := by
      refine ⟨?_, q2, q3, q4, q5, q6⟩
      obtain ⟨t, ht, -⟩ := State.frames_cons hr
      show ({ U with heap := s₂.heap, slotsUsed := s₂.slotsUsed } : State) = { U.setFrames U.frames with heap := s₂.heap, slotsUsed := s₂.slotsUsed }
      rw [State.setFrames_self ht]
    subst hg
    refine Or.inr ⟨q, ⟨(({ U with heap := s₂.heap, slotsUsed := s₂.slotsUsed } : State).setVm s₂.vm), Ls ++ L, c0 + mc, s0 + ms⟩,
      ⟨X.admits, X.cas, X.clock, X.frames, X.room, X.hears, X.method, X.code, (X.here.setHeapUsed s₂.heap s₂.slotsUsed).setVm hW'.alike, X.tail, State.WarmedH.trans X.warmed hW', X.limits, X.bytes, X.same.trans (hsame.setVm s.vm)⟩,
      ⟨g, mk, s₂, L, E, ce, rfl, rfl, hx, hce, hcv, hcl, rfl, hL, rfl, rfl⟩, ?_⟩
    show Steps p.tables e below _ (((({ U with heap := s₂.heap, slotsUsed := s₂.slotsUsed } : State).setVm s₂.vm).setTop g).pushFrame (.throwing q))
    rw [← hs₂]
    exact hsteps
end
variable {p : Program} {l : Launch} {e : Env} {R : Room} {s : State} {m : MethodId} {args : Array Value} {below : List Frame} {meth : Method} {c : Code} {T : State} {H : Heap} {locs : List Loc} {cells slots : Nat}
theorem vx_callVX (X : Stand p l e R s m args below meth c T locs cells slots) (hexec : p.tables.exec = Jvm.exec) {own C : String} {index : Nat} {y : MethodName} {bytes : ByteArray} {maxL : Nat} {ret : Option FieldType} {hh : List (Nat × Nat × Nat × Nat)}
    (hown : s.vm.findClass own = some m.cls) (hlink : (Cond.methodLink own index y).before args s = true) (hinst : (Cond.instanceMethod y).before args s = true) (hsel : (Cond.selects C y y).before args s = true)
    (hcode : (Cond.codeWith y bytes maxL ret hh).before args s = true) (hy : y.cls ≠ "java/lang/invoke/MethodHandle" ∧ y.cls ≠ "java/lang/invoke/VarHandle")
    {W9 : Nat} {Pre : Pt → Array Value → Prop} {Post : Pt → Array Value → Option Value → Pt → Prop} {PostX : Pt → Array Value → Addr → Pt → Prop} (hK : vx_Back l R p e below s args y 3 W9 Pre Post PostX)
    {b : Addr} {cellB : Cell} (hcell : T.heap[b]? = some cellB) (hobj : cellB.vm.isStatics = false) (hcls : s.vm.findClass C = some cellB.cls)
    {g : JFrame} (hg : g.method = m) (hsize : g.locals.size = c.maxLocals) {argsL rest : List Value} (hlen : ∀ sig, parseMethodDescriptor y.desc = some sig → argsL.length = sig.parameters.length)
    (hstack : g.stack = argsL.reverse ++ .ref b :: rest) (hW : 2 * g.monitorRoom + (rest.map fun v => v.category).sum ≤ W9) (hdg : decode c.code g.pc = .ok (.invokevirtual index, 3))
    (hpre : ∀ vm₁, s.WarmedH vm₁ → Pre ⟨T.setVm vm₁, locs, cells, slots⟩ (Value.ref b :: argsL).toArray) :
    (∃ (v : Option Value) (vm₁ : Vm) (B : Pt), s.WarmedH vm₁ ∧ Stand p l e R s m args below meth c B.U B.locs B.cells B.slots ∧ Post ⟨T.setVm vm₁, locs, cells, slots⟩ (Value.ref b :: argsL).toArray v B ∧
      ∀ target, Steps p.tables e below (B.U.setTop { g with pc := g.pc + 3, stack := v.toList ++ rest }) target → Steps p.tables e below (T.setTop g) target) ∨
    (∃ (q : Addr) (vm₁ : Vm) (B : Pt), s.WarmedH vm₁ ∧ Stand p l e R s m args below meth c B.U B.locs B.cells B.slots ∧ PostX ⟨T.setVm vm₁, locs, cells, slots⟩ (Value.ref b :: argsL).toArray q B ∧
      Steps p.tables e below (T.setTop g) ((B.U.setTop { g with stack := rest }).pushFrame (.throwing q))) := by
  obtain ⟨mk, methM, hnamed, hmethM, hstM, habM⟩ := Cond.instanceMethod_spec hinst
  obtain ⟨m8, methM', cM, hn8, hmethM', -, -, -, -, -, -, hsigM⟩ := Cond.codeWith_spec hcode
  cases Option.some.inj (hn8.symm.trans hnamed)
  cases hmethM.symm.trans hmethM'
  obtain ⟨c2, r2, m2, q1, q2, q3, q4, kP, hkP, hkPi⟩ := Cond.selects_spec hsel
  cases hcls.symm.trans q1
  cases (State.methodFound?_of_named hnamed hy).symm.trans q2
  cases hnamed.symm.trans q3
  have hselP : selectMethod e.platform s.vm cellB.cls mk = .method mk := by rw [Launch.admits_selectMethod X.admits]; exact q4
  obtain ⟨vm₁, X₁, hstep₁⟩ := X.invokevirtual hexec hown hlink hnamed hmethM hstM hkP hkPi hy (a := b) (cell := cellB) hcell
    (fun z h => by rw [h] at hobj; cases hobj) hselP hmethM habM hkP hkPi (g := g) hg (argsL := argsL) (rest := rest) (hlen _ hsigM) hstack hdg
  rcases hK m meth c ⟨T.setVm vm₁, locs, cells, slots⟩ { g with stack := rest } (.invokevirtual index) mk (Value.ref b :: argsL).toArray X₁ hg hsize hdg hW (X₁.named hnamed) (hpre vm₁ X₁.warmed) with ⟨v, B, X', hpost, hsteps⟩ | ⟨q, B, X', hpost, hsteps⟩
  · exact Or.inl ⟨v, vm₁, B, X₁.warmed, X', hpost, fun target h => hstep₁ _ fun acts => by rw [doInvoke_state]; exact hsteps.trans h⟩
  · exact Or.inr ⟨q, vm₁, B, X₁.warmed, X', hpost, hstep₁ _ fun acts => by rw [doInvoke_state]; exact hsteps⟩
theorem vx_callSX (X : Stand p l e R s m args below meth c T locs cells slots) (hexec : p.tables.exec = Jvm.exec) {own : String} {index : Nat} {y : MethodName} {bytes : ByteArray} {maxL : Nat} {ret : Option FieldType} {hh : List (Nat × Nat × Nat × Nat)}
    (hown : s.vm.findClass own = some m.cls) (hlink : (Cond.methodLink own index y).before args s = true) (hstat : (Cond.static y).before args s = true) (hinit : (Cond.initialized y.cls).before args s = true)
    (hcode : (Cond.codeWith y bytes maxL ret hh).before args s = true) (hy : y.cls ≠ "java/lang/invoke/MethodHandle" ∧ y.cls ≠ "java/lang/invoke/VarHandle")
    {W9 : Nat} {Pre : Pt → Array Value → Prop} {Post : Pt → Array Value → Option Value → Pt → Prop} {PostX : Pt → Array Value → Addr → Pt → Prop} (hK : vx_Back l R p e below s args y 3 W9 Pre Post PostX)
    {g : JFrame} (hg : g.method = m) (hsize : g.locals.size = c.maxLocals) {argsL rest : List Value} (hlen : ∀ sig, parseMethodDescriptor y.desc = some sig → argsL.length = sig.parameters.length)
    (hstack : g.stack = argsL.reverse ++ rest) (hW : 2 * g.monitorRoom + (rest.map fun v => v.category).sum ≤ W9) (hdg : decode c.code g.pc = .ok (.invokestatic index, 3))
    (hpre : ∀ vm₁, s.WarmedH vm₁ → Pre ⟨T.setVm vm₁, locs, cells, slots⟩ argsL.toArray) :
    (∃ (v : Option Value) (vm₁ : Vm) (B : Pt), s.WarmedH vm₁ ∧ Stand p l e R s m args below meth c B.U B.locs B.cells B.slots ∧ Post ⟨T.setVm vm₁, locs, cells, slots⟩ argsL.toArray v B ∧
      ∀ target, Steps p.tables e below (B.U.setTop { g with pc := g.pc + 3, stack := v.toList ++ rest }) target → Steps p.tables e below (T.setTop g) target) ∨
    (∃ (q : Addr) (vm₁ : Vm) (B : Pt), s.WarmedH vm₁ ∧ Stand p l e R s m args below meth c B.U B.locs B.cells B.slots ∧ PostX ⟨T.setVm vm₁, locs, cells, slots⟩ argsL.toArray q B ∧
      Steps p.tables e below (T.setTop g) ((B.U.setTop { g with stack := rest }).pushFrame (.throwing q))) := by
  obtain ⟨mk, methM, cM, hnamed, hmethM, -, -, -, -, -, -, hsigM⟩ := Cond.codeWith_spec hcode
  have hstatic : methM.isStatic = true := Cond.static_spec hnamed hmethM hstat
  obtain ⟨kP, hkP, -⟩ := className_of_methodNamed hnamed
  have hinitP : kP.init = .initialized := Cond.initialized_spec (findClass_of_methodNamed hnamed) hkP hinit
  obtain ⟨vm₁, X₁, hstep₁⟩ := X.invokestatic hexec hown hlink hnamed hmethM hstatic hkP hinitP hy (g := g) hg (argsL := argsL) (rest := rest) (hlen _ hsigM) hstack hdg
  rcases hK m meth c ⟨T.setVm vm₁, locs, cells, slots⟩ { g with stack := rest } (.invokestatic index) mk argsL.toArray X₁ hg hsize hdg hW (X₁.named hnamed) (hpre vm₁ X₁.warmed) with ⟨v, B, X', hpost, hsteps⟩ | ⟨q, B, X', hpost, hsteps⟩
  · exact Or.inl ⟨v, vm₁, B, X₁.warmed, X', hpost, fun target h => hstep₁ _ fun acts => by rw [doInvoke_state]; exact hsteps.trans h⟩
  · exact Or.inr ⟨q, vm₁, B, X₁.warmed, X', hpost, hstep₁ _ fun acts => by rw [doInvoke_state]; exact hsteps⟩
theorem vx_callVW (X : Stand p l e R s m args below meth c T locs cells slots) (hexec : p.tables.exec = Jvm.exec) {own C : String} {index : Nat} {y : MethodName} {bytes : ByteArray} {maxL : Nat} {ret : Option FieldType} {hh : List (Nat × Nat × Nat × Nat)}
    (hown : s.vm.findClass own = some m.cls) (hlink : (Cond.methodLink own index y).before args s = true) (hinst : (Cond.instanceMethod y).before args s = true) (hsel : (Cond.selects C y y).before args s = true)
    (hcode : (Cond.codeWith y bytes maxL ret hh).before args s = true) (hy : y.cls ≠ "java/lang/invoke/MethodHandle" ∧ y.cls ≠ "java/lang/invoke/VarHandle")
    {W9 : Nat} {Pre : Pt → Array Value → Prop} {Post : Pt → Array Value → Option Value → Pt → Prop} (hK : Back l R p e below s args y 3 W9 Pre Post)
    {b : Addr} {cellB : Cell} (hcell : T.heap[b]? = some cellB) (hobj : cellB.vm.isStatics = false) (hcls : s.vm.findClass C = some cellB.cls)
    {g : JFrame} (hg : g.method = m) (hsize : g.locals.size = c.maxLocals) {argsL rest : List Value} (hlen : ∀ sig, parseMethodDescriptor y.desc = some sig → argsL.length = sig.parameters.length)
    (hstack : g.stack = argsL.reverse ++ .ref b :: rest) (hW : 2 * g.monitorRoom + (rest.map fun v => v.category).sum ≤ W9) (hdg : decode c.code g.pc = .ok (.invokevirtual index, 3))
    (hpre : ∀ vm₁, s.WarmedH vm₁ → Pre ⟨T.setVm vm₁, locs, cells, slots⟩ (Value.ref b :: argsL).toArray) :
    ∃ (v : Option Value) (vm₁ : Vm) (B : Pt), s.WarmedH vm₁ ∧ Stand p l e R s m args below meth c B.U B.locs B.cells B.slots ∧ Post ⟨T.setVm vm₁, locs, cells, slots⟩ (Value.ref b :: argsL).toArray v B ∧
      ∀ target, Steps p.tables e below (B.U.setTop { g with pc := g.pc + 3, stack := v.toList ++ rest }) target → Steps p.tables e below (T.setTop g) target := by
  obtain ⟨mk, methM, hnamed, hmethM, hstM, habM⟩ := Cond.instanceMethod_spec hinst
  obtain ⟨m8, methM', cM, hn8, hmethM', -, -, -, -, -, -, hsigM⟩ := Cond.codeWith_spec hcode
  cases Option.some.inj (hn8.symm.trans hnamed)
  cases hmethM.symm.trans hmethM'
  obtain ⟨c2, r2, m2, q1, q2, q3, q4, kP, hkP, hkPi⟩ := Cond.selects_spec hsel
  cases hcls.symm.trans q1
  cases (State.methodFound?_of_named hnamed hy).symm.trans q2
  cases hnamed.symm.trans q3
  have hselP : selectMethod e.platform s.vm cellB.cls mk = .method mk := by rw [Launch.admits_selectMethod X.admits]; exact q4
  obtain ⟨vm₁, X₁, hstep₁⟩ := X.invokevirtual hexec hown hlink hnamed hmethM hstM hkP hkPi hy (a := b) (cell := cellB) hcell
    (fun z h => by rw [h] at hobj; cases hobj) hselP hmethM habM hkP hkPi (g := g) hg (argsL := argsL) (rest := rest) (hlen _ hsigM) hstack hdg
  obtain ⟨v, B, X', hpost, hsteps⟩ := hK m meth c ⟨T.setVm vm₁, locs, cells, slots⟩ { g with stack := rest } (.invokevirtual index) mk (Value.ref b :: argsL).toArray X₁ hg hsize hdg hW (X₁.named hnamed) (hpre vm₁ X₁.warmed)
  exact ⟨v, vm₁, B, X₁.warmed, X', hpost, fun target h => hstep₁ _ fun acts => by rw [doInvoke_state]; exact hsteps.trans h⟩
abbrev vx_CVW (R : Room) (s : State) (args : Array Value) (own C : String) (index : Nat) (y : MethodName) (bytes : ByteArray) (maxL : Nat) (ret : Option FieldType) (hh : List (Nat × Nat × Nat × Nat)) (ws : List Cond) (rm : Room) (mc ms n : Nat) : Prop :=
  (rm.cells = mc ∧ rm.slots = ms ∧ rm.frames + 1 ≤ R.frames ∧ 8 + (maxL + 11) + rm.locals ≤ R.locals ∧ (∀ w ∈ ws, ∀ (a' : Array Value) (U : State), s.WarmedH U.vm → w.before a' U = true) ∧ Cond.codeWith y bytes maxL ret hh ∈ ws) ∧
  (Cond.codeWith y bytes maxL ret hh).before args s = true ∧ (Cond.initialized y.cls).before args s = true ∧ (y.cls ≠ "java/lang/invoke/MethodHandle" ∧ y.cls ≠ "java/lang/invoke/VarHandle") ∧
  (∀ sig, parseMethodDescriptor y.desc = some sig → n = sig.parameters.length) ∧ (Cond.methodLink own index y).before args s = true ∧ (Cond.instanceMethod y).before args s = true ∧ (Cond.selects C y y).before args s = true
theorem vx_cwVW {own C : String} {index maxL mc ms : Nat} {y : MethodName} {bytes : ByteArray} {ret : Option FieldType} {hh : List (Nat × Nat × Nat × Nat)} {Ts ws ws' : List Cond} {rm : Room} (n : Nat) (ht : ∀ w ∈ Ts, w.before args s = true) (hT : GoodIn Ts (wsV own index C y ws)) (hw : ws = Cond.codeWith y bytes maxL ret hh :: ws') (hrc : rm.cells = mc) (hrs : rm.slots = ms)
    (hd : y.cls = C ∧ y.cls ≠ "java/lang/invoke/MethodHandle" ∧ y.cls ≠ "java/lang/invoke/VarHandle" ∧ (parseMethodDescriptor y.desc).map (fun d => d.parameters.length) = some n) (hR : rm.frames + 1 ≤ R.frames ∧ 8 + (maxL + 11) + rm.locals ≤ R.locals) :
    vx_CVW R s args own C index y bytes maxL ret hh ws rm mc ms n := by
  obtain ⟨hC, hd⟩ := hd
  subst hC
  have ok : ∀ w ∈ wsV own index y.cls y ws, w.before args s = true := fun w h => ht w (hT w h).1
  have hG : GoodIn Ts ws := fun w h => hT w (by unfold wsV; exact List.mem_append_right _ h)
  have hc : Cond.codeWith y bytes maxL ret hh ∈ ws := by rw [hw]; exact List.mem_cons_self
  refine ⟨⟨hrc, hrs, hR.1, hR.2, pay_in ht hG, hc⟩, ht _ (hG _ hc).1, ok _ (by simp [wsV]), ⟨hd.1, hd.2.1⟩, fun sig h => ?_, ok _ (by simp [wsV]), ok _ (by simp [wsV]), ok _ (by simp [wsV])⟩
  have h2 := hd.2.2
  rw [h] at h2
  exact (Option.some.inj h2).symm
theorem vx_runVW {y : MethodName} {bytes cc : ByteArray} {maxL nL mc ms n index : Nat} {ret : Option FieldType} {hh : List (Nat × Nat × Nat × Nat)} {ws : List Cond} {rm : Room} {Pc : Array Value → State → Prop} {Qc : Array Value → State → Outcome → State → Prop} {free : Addr → Prop} {Ts : List Cond} {own C : String} {b : Addr} {As rest : List Value} {g : JFrame}
    (S : CallFix p m c cc nL s args Ts own) (hM : Met l y ws rm Pc Qc mc ms free) (cw : vx_CVW R s args own C index y bytes maxL ret hh ws rm mc ms n) (hp : PreV s H C b Pc As)
    (hg : g.method = m) (hn : As.length = n) (hsize : g.locals.size = nL) (hstack : g.stack = As.reverse ++ .ref b :: rest) (hW : 2 * g.monitorRoom + (rest.map fun v => v.category).sum ≤ 8) (hdg : decode cc g.pc = .ok (.invokevirtual index, 3)) (hf : cells + mc ≤ R.cells ∧ slots + ms ≤ R.slots) :
    va_Run p l e R s m args below meth c H locs cells slots mc ms g rest (Qc (Value.ref b :: As).toArray) free := by
  obtain ⟨⟨hrc, hrs, hfr, hlo, hws, hcw⟩, hcode, hini, hy, hlen, hl, hin, hse⟩ := cw
  have hK : Back l R p e below s args y 3 8 (PreOf R mc ms Pc) (PostOf Qc mc ms free) := va_backW (hh := hh) (bytes := bytes) (maxL := maxL) (ret := ret) hM hp.1 hrc hrs hfr hlo hws hcw (fun a' U hW => word_at hW (Or.inl (by first | rfl | simp [Cond.onTables, Cond.keeps, Cond.steady])) hini)
  obtain ⟨hx, hb, hml, ho, -⟩ := S
  obtain ⟨-, ⟨cellB, hcB, hoB, hclB⟩, hPc⟩ := hp
  intro T hT X
  obtain ⟨v, vm₁, ⟨U', l2, c2, s2⟩, hW₁, X', ⟨g', mk, t, L, e1, e2, hq, h1, hL, h2, h3⟩, st⟩ := vx_callVW X hx (C := C) (hh := hh) (bytes := bytes) (maxL := maxL) (ret := ret) ho hl hin hse hcode hy hK (by rw [hT]; exact hcB) hoB hclB hg (hsize.trans hml.symm) (argsL := As) (rest := rest) (fun sig h => hn.trans (hlen sig h)) hstack hW (by rw [hb]; exact hdg)
    (fun vm₁ hW₁ => ⟨hf.1, hf.2, hPc (T.setVm vm₁) hT hW₁⟩)
  dsimp only [Pt.U, Pt.locs, Pt.cells, Pt.slots] at X' e1 e2 h1 h2 h3 st
  subst h1; subst h2; subst h3
  exact ⟨v, (T.setVm vm₁).calling g' mk (Value.ref b :: As).toArray, t, U', L, hT, X', hL, e1, e2, hq, st⟩
section
variable {y : MethodName} {bytes cc : ByteArray} {maxL nL mc ms n index : Nat} {ret : Option FieldType} {ws : List Cond} {rm : Room} {Pc : Array Value → State → Prop} {Qc : Array Value → State → Outcome → State → Prop} {XC : String → State → State → Prop} {free : Addr → Prop} {Ts : List Cond} {own C : String} {b : Addr} {As rest : List Value} {g : JFrame}
theorem vx_runVX {hh : List (Nat × Nat × Nat × Nat)} (S : CallFix p m c cc nL s args Ts own) (hM : vx_Met l y ws rm Pc Qc XC mc ms free) (cw : vx_CVW R s args own C index y bytes maxL ret hh ws rm mc ms n) (hp : PreV s H C b Pc As)
    (hg : g.method = m) (hn : As.length = n) (hsize : g.locals.size = nL) (hstack : g.stack = As.reverse ++ .ref b :: rest) (hW : 2 * g.monitorRoom + (rest.map fun v => v.category).sum ≤ 8) (hdg : decode cc g.pc = .ok (.invokevirtual index, 3)) (hf : cells + mc ≤ R.cells ∧ slots + ms ≤ R.slots) :
    vx_Run p l e R s m args below meth c H locs cells slots mc ms g rest (Qc (Value.ref b :: As).toArray) XC free := by
  obtain ⟨⟨hrc, hrs, hfr, hlo, hws, hcw⟩, hcode, hini, hy, hlen, hl, hin, hse⟩ := cw
  have hK : vx_Back l R p e below s args y 3 8 (PreOf R mc ms Pc) (PostOf Qc mc ms free) (vx_Post XC mc ms free) := vx_backW (hh := hh) (bytes := bytes) (maxL := maxL) (ret := ret) hM hp.1 hrc hrs hfr hlo hws hcw (fun a' U hW => word_at hW (Or.inl (by first | rfl | simp [Cond.onTables, Cond.keeps, Cond.steady])) hini)
  obtain ⟨hx, hb, hml, ho, -⟩ := S
  obtain ⟨-, ⟨cellB, hcB, hoB, hclB⟩, hPc⟩ := hp
  intro T hT X
  rcases vx_callVX X hx (C := C) (hh := hh) (bytes := bytes) (maxL := maxL) (ret := ret) ho hl hin hse hcode hy hK (by rw [hT]; exact hcB) hoB hclB hg (hsize.trans hml.symm) (argsL := As) (rest := rest) (fun sig h => hn.trans (hlen sig h)) hstack hW (by rw [hb]; exact hdg)
    (fun vm₁ hW₁ => ⟨hf.1, hf.2, hPc (T.setVm vm₁) hT hW₁⟩) with ⟨v, vm₁, ⟨U', l2, c2, s2⟩, hW₁, X', ⟨g', mk, t, L, e1, e2, hq, h1, hL, h2, h3⟩, st⟩ | ⟨q, vm₁, ⟨U', l2, c2, s2⟩, hW₁, X', ⟨g', mk, t, L, E, ce, e1, e2, hq, hce, hcv, hcl, h1, hL, h2, h3⟩, st⟩
  · dsimp only [Pt.U, Pt.locs, Pt.cells, Pt.slots] at X' e1 e2 h1 h2 h3 st
    subst h1; subst h2; subst h3
    exact Or.inl ⟨v, (T.setVm vm₁).calling g' mk (Value.ref b :: As).toArray, t, U', L, hT, X', hL, e1, e2, hq, st⟩
  · dsimp only [Pt.U, Pt.locs, Pt.cells, Pt.slots] at X' e1 e2 h1 h2 h3 st hcl
    subst h1; subst h2; subst h3
    exact Or.inr ⟨q, (T.setVm vm₁).calling g' mk (Value.ref b :: As).toArray, t, U', L, E, ce, hT, X', hL, e1, e2, hq, hce, hcv, vx_cls hW₁ hcl, st⟩
theorem vx_runSX {hh : List (Nat × Nat × Nat × Nat)} (S : CallFix p m c cc nL s args Ts own) (hM : vx_Met l y ws rm Pc Qc XC mc ms free) (cw : vx_CSW R s args own index y bytes maxL ret hh ws rm mc ms n) (hp : PreS s H Pc As)
    (hg : g.method = m) (hn : As.length = n) (hsize : g.locals.size = nL) (hstack : g.stack = As.reverse ++ rest) (hW : 2 * g.monitorRoom + (rest.map fun v => v.category).sum ≤ 8) (hdg : decode cc g.pc = .ok (.invokestatic index, 3)) (hf : cells + mc ≤ R.cells ∧ slots + ms ≤ R.slots) :
    vx_Run p l e R s m args below meth c H locs cells slots mc ms g rest (Qc As.toArray) XC free := by
  obtain ⟨⟨hrc, hrs, hfr, hlo, hws, hcw⟩, hcode, hini, hy, hlen, hl, hstt⟩ := cw
  have hK : vx_Back l R p e below s args y 3 8 (PreOf R mc ms Pc) (PostOf Qc mc ms free) (vx_Post XC mc ms free) := vx_backW (hh := hh) (bytes := bytes) (maxL := maxL) (ret := ret) hM hp.1 hrc hrs hfr hlo hws hcw (fun a' U hW => word_at hW (Or.inl (by first | rfl | simp [Cond.onTables, Cond.keeps, Cond.steady])) hini)
  obtain ⟨hx, hb, hml, ho, -⟩ := S
  intro T hT X
  rcases vx_callSX X hx (hh := hh) (bytes := bytes) (maxL := maxL) (ret := ret) ho hl hstt hini hcode hy hK hg (hsize.trans hml.symm) (argsL := As) (rest := rest) (fun sig h => hn.trans (hlen sig h)) hstack hW (by rw [hb]; exact hdg)
    (fun vm₁ hW₁ => ⟨hf.1, hf.2, hp.2 (T.setVm vm₁) hT hW₁⟩) with ⟨v, vm₁, ⟨U', l2, c2, s2⟩, hW₁, X', ⟨g', mk, t, L, e1, e2, hq, h1, hL, h2, h3⟩, st⟩ | ⟨q, vm₁, ⟨U', l2, c2, s2⟩, hW₁, X', ⟨g', mk, t, L, E, ce, e1, e2, hq, hce, hcv, hcl, h1, hL, h2, h3⟩, st⟩
  · dsimp only [Pt.U, Pt.locs, Pt.cells, Pt.slots] at X' e1 e2 h1 h2 h3 st
    subst h1; subst h2; subst h3
    exact Or.inl ⟨v, (T.setVm vm₁).calling g' mk As.toArray, t, U', L, hT, X', hL, e1, e2, hq, st⟩
  · dsimp only [Pt.U, Pt.locs, Pt.cells, Pt.slots] at X' e1 e2 h1 h2 h3 st hcl
    subst h1; subst h2; subst h3
    exact Or.inr ⟨q, (T.setVm vm₁).calling g' mk As.toArray, t, U', L, E, ce, hT, X', hL, e1, e2, hq, hce, hcv, vx_cls hW₁ hcl, st⟩
end
end VXH
theorem vx_ofWH {l : Launch} {y : MethodName} {ws ws' : List Cond} {rm : Room} {Pc : Array Value → State → Prop} {Qc : Array Value → State → Outcome → State → Prop} {XC : String → State → State → Prop} {mc ms : Nat} {free : Addr → Prop} {cc : ByteArray} {maxL : Nat} {ret : Option FieldType} {hh : List (Nat × Nat × Nat × Nat)}
    (hy : plainName y.cls = true) (hw : ws = Cond.codeWith y cc maxL ret hh :: ws')
    (body : ∀ p e s m args below meth c s₁, BodyLoose p l y (headSpec ws rm) cc maxL ret e s m args below meth c s₁ → c.maxLocals = maxL → Pc args s →
      W p l e (headSpec ws rm).room s m args below meth c s.heap [] 0 0 (vx_MQ below Qc XC args s mc ms free) (entryFrame m args maxL)) : vx_Met l y ws rm Pc Qc XC mc ms free := by
  refine MetFree.of_bodyS (code := cc) (maxLocals := maxL) (ret := ret) hy ?_ ?_
  · intro args s m h hn
    obtain ⟨m9, meth, c, hn9, h1, h2, h3, h4, -, h5, h6, -⟩ := Cond.codeWith_spec (atoms_spec (ws := ws) h _ (by rw [hw]; exact List.mem_cons_self))
    cases hn.symm.trans hn9
    exact ⟨meth, c, h1, h2, h3, h4, h5, h6⟩
  · intro p e s m args below meth c s₁ B hml hP _
    have hh0 : s₁.heap = s.heap := by rw [B.state]; rfl
    obtain ⟨t, a1, o, b1, b2, b3⟩ := body p e s m args below meth c s₁ B hml hP s₁ hh0 (Stand.of_body B)
    exact ⟨t, o, a1, b1, b2, b3⟩
/-! ===== END ===== -/
end
section
def RX0 : String := "OptionLine$Bundle"
def TX0 : u_T := fun k => match k with
  | 0 => ("OptionLine$Bundle", "starts", "[I", true)
  | 1 => ("OptionLine$Bundle", "packetOfPiece", "[I", true)
  | 2 => ("OptionLine$Bundle", "hasCome", "[Z", true)
  | 3 => ("OptionLine$Bundle", "firstOnLine", "[I", true)
  | 4 => ("OptionLine$Bundle", "lastOverLine", "[I", true)
  | 5 => ("OptionLine$Bundle", "givenPackets", "[I", true)
  | 6 => ("OptionLine$Bundle", "packets", "I", false)
  | 7 => ("OptionLine$Bundle", "givenCount", "I", false)
  | _ => ("OptionLine$Bundle", "nextNumber", "I", false)
def tyX0 : Nat → FieldType := fun k => match k with
  | 0 => .array .int
  | 1 => .array .int
  | 2 => .array .boolean
  | 3 => .array .int
  | 4 => .array .int
  | 5 => .array .int
  | 6 => .int
  | 7 => .int
  | _ => .int
theorem nmX0 : ∀ a, a < 9 → ∀ b, b < 9 → a ≠ b → (TX0 a).2.1 ≠ (TX0 b).2.1 := by decide +kernel
theorem tyX0_ok : ∀ k, k < 9 → parseFieldDescriptor (TX0 k).2.2.1 = some (tyX0 k) := by decide +kernel
abbrev cX0_init : ByteArray := prog_2_method_1_code
def yX0_init : MethodName := ⟨RX0, "<init>", "()V"⟩
abbrev cX0_addPacket : ByteArray := prog_2_method_2_code
def yX0_addPacket : MethodName := ⟨RX0, "addPacket", "(I)I"⟩
abbrev cX0_hasPieceOn : ByteArray := prog_2_method_3_code
def yX0_hasPieceOn : MethodName := ⟨RX0, "hasPieceOn", "(I)Z"⟩
abbrev cX0_takePiece : ByteArray := prog_2_method_4_code
def yX0_takePiece : MethodName := ⟨RX0, "takePiece", "(I)I"⟩
abbrev cX0_bring : ByteArray := prog_2_method_5_code
def yX0_bring : MethodName := ⟨RX0, "bring", "(I)I"⟩
abbrev cX0_advance : ByteArray := prog_2_method_6_code
def yX0_advance : MethodName := ⟨RX0, "advance", "()Z"⟩
abbrev cX0_advanceFromFirst : ByteArray := prog_2_method_7_code
def yX0_advanceFromFirst : MethodName := ⟨RX0, "advanceFromFirst", "(I)Z"⟩
abbrev cX0_give : ByteArray := prog_2_method_8_code
def yX0_give : MethodName := ⟨RX0, "give", "(I)V"⟩
abbrev cX0_firstNotCome : ByteArray := prog_2_method_9_code
def yX0_firstNotCome : MethodName := ⟨RX0, "firstNotCome", "(I)I"⟩
abbrev cX0_bound : ByteArray := prog_2_method_10_code
def yX0_bound : MethodName := ⟨RX0, "bound", "()I"⟩
def RX1 : String := "OptionLine$End"
def TX1 : u_T := fun k => match k with
  | 0 => ("OptionLine$End", "wishes", "[I", true)
  | 1 => ("OptionLine$End", "allowed", "[I", true)
  | 2 => ("OptionLine$End", "askedFor", "[I", true)
  | 3 => ("OptionLine$End", "row", "LOptionLine$FrameRow;", true)
  | 4 => ("OptionLine$End", "magic", "I", false)
  | 5 => ("OptionLine$End", "state", "I", false)
  | 6 => ("OptionLine$End", "timer", "I", false)
  | 7 => ("OptionLine$End", "sentRequests", "I", false)
  | 8 => ("OptionLine$End", "lastId", "I", false)
  | 9 => ("OptionLine$End", "looped", "Z", false)
  | _ => ("OptionLine$End", "missedFrames", "I", false)
def tyX1 : Nat → FieldType := fun k => match k with
  | 0 => .array .int
  | 1 => .array .int
  | 2 => .array .int
  | 3 => .object "OptionLine$FrameRow"
  | 4 => .int
  | 5 => .int
  | 6 => .int
  | 7 => .int
  | 8 => .int
  | 9 => .boolean
  | _ => .int
theorem nmX1 : ∀ a, a < 11 → ∀ b, b < 11 → a ≠ b → (TX1 a).2.1 ≠ (TX1 b).2.1 := by decide +kernel
theorem tyX1_ok : ∀ k, k < 11 → parseFieldDescriptor (TX1 k).2.2.1 = some (tyX1 k) := by decide +kernel
abbrev cX1_init : ByteArray := prog_3_method_1_code
def yX1_init : MethodName := ⟨RX1, "<init>", "(I)V"⟩
abbrev cX1_changeWish : ByteArray := prog_3_method_2_code
def yX1_changeWish : MethodName := ⟨RX1, "changeWish", "(II)I"⟩
abbrev cX1_changeAllowed : ByteArray := prog_3_method_3_code
def yX1_changeAllowed : MethodName := ⟨RX1, "changeAllowed", "(II)I"⟩
abbrev cX1_changeMagic : ByteArray := prog_3_method_4_code
def yX1_changeMagic : MethodName := ⟨RX1, "changeMagic", "(I)I"⟩
abbrev cX1_begin : ByteArray := prog_3_method_5_code
def yX1_begin : MethodName := ⟨RX1, "begin", "()I"⟩
abbrev cX1_finish : ByteArray := prog_3_method_6_code
def yX1_finish : MethodName := ⟨RX1, "finish", "()I"⟩
abbrev cX1_tick : ByteArray := prog_3_method_7_code
def yX1_tick : MethodName := ⟨RX1, "tick", "()Z"⟩
abbrev cX1_hear : ByteArray := prog_3_method_8_code
def yX1_hear : MethodName := ⟨RX1, "hear", "(LOptionLine$Frame;)V"⟩
abbrev cX1_hearRequest : ByteArray := prog_3_method_9_code
def yX1_hearRequest : MethodName := ⟨RX1, "hearRequest", "(LOptionLine$Frame;)V"⟩
abbrev cX1_hearAnswer : ByteArray := prog_3_method_10_code
def yX1_hearAnswer : MethodName := ⟨RX1, "hearAnswer", "(LOptionLine$Frame;)V"⟩
abbrev cX1_changeAskedFor : ByteArray := prog_3_method_11_code
def yX1_changeAskedFor : MethodName := ⟨RX1, "changeAskedFor", "(LOptionLine$Frame;)V"⟩
abbrev cX1_ask : ByteArray := prog_3_method_12_code
def yX1_ask : MethodName := ⟨RX1, "ask", "()Z"⟩
abbrev cX1_sendStop : ByteArray := prog_3_method_13_code
def yX1_sendStop : MethodName := ⟨RX1, "sendStop", "()V"⟩
abbrev cX1_answer : ByteArray := prog_3_method_14_code
def yX1_answer : MethodName := ⟨RX1, "answer", "(LOptionLine$Frame;)V"⟩
abbrev cX1_kindOfAnswer : ByteArray := prog_3_method_15_code
def yX1_kindOfAnswer : MethodName := ⟨RX1, "kindOfAnswer", "([I)I"⟩
abbrev cX1_toldOptions : ByteArray := prog_3_method_16_code
def yX1_toldOptions : MethodName := ⟨RX1, "toldOptions", "(I[I)[I"⟩
abbrev cX1_isUnknown : ByteArray := prog_3_method_17_code
def yX1_isUnknown : MethodName := ⟨RX1, "isUnknown", "(II)Z"⟩
abbrev cX1_isRefused : ByteArray := prog_3_method_18_code
def yX1_isRefused : MethodName := ⟨RX1, "isRefused", "(II)Z"⟩
abbrev cX1_allows : ByteArray := prog_3_method_19_code
def yX1_allows : MethodName := ⟨RX1, "allows", "(II)Z"⟩
abbrev cX1_lowestAllowed : ByteArray := prog_3_method_20_code
def yX1_lowestAllowed : MethodName := ⟨RX1, "lowestAllowed", "(I)I"⟩
abbrev cX1_tellNothing : ByteArray := prog_3_method_21_code
def yX1_tellNothing : MethodName := ⟨RX1, "tellNothing", "()[I"⟩
def RX2 : String := "OptionLine$Frame"
def TX2 : u_T := fun k => match k with
  | 0 => ("OptionLine$Frame", "kind", "I", true)
  | 1 => ("OptionLine$Frame", "id", "I", true)
  | 2 => ("OptionLine$Frame", "magic", "I", true)
  | 3 => ("OptionLine$Frame", "values", "[I", true)
  | _ => ("OptionLine$Frame", "behind", "LOptionLine$Frame;", false)
def tyX2 : Nat → FieldType := fun k => match k with
  | 0 => .int
  | 1 => .int
  | 2 => .int
  | 3 => .array .int
  | _ => .object "OptionLine$Frame"
theorem nmX2 : ∀ a, a < 5 → ∀ b, b < 5 → a ≠ b → (TX2 a).2.1 ≠ (TX2 b).2.1 := by decide +kernel
theorem tyX2_ok : ∀ k, k < 5 → parseFieldDescriptor (TX2 k).2.2.1 = some (tyX2 k) := by decide +kernel
abbrev cX2_init : ByteArray := prog_4_method_1_code
def yX2_init : MethodName := ⟨RX2, "<init>", "(III[I)V"⟩
def RX3 : String := "OptionLine$FrameRow"
def TX3 : u_T := fun k => match k with
  | 0 => ("OptionLine$FrameRow", "first", "LOptionLine$Frame;", false)
  | 1 => ("OptionLine$FrameRow", "last", "LOptionLine$Frame;", false)
  | _ => ("OptionLine$FrameRow", "count", "I", false)
def tyX3 : Nat → FieldType := fun k => match k with
  | 0 => .object "OptionLine$Frame"
  | 1 => .object "OptionLine$Frame"
  | _ => .int
theorem nmX3 : ∀ a, a < 3 → ∀ b, b < 3 → a ≠ b → (TX3 a).2.1 ≠ (TX3 b).2.1 := by decide +kernel
theorem tyX3_ok : ∀ k, k < 3 → parseFieldDescriptor (TX3 k).2.2.1 = some (tyX3 k) := by decide +kernel
abbrev cX3_init : ByteArray := prog_5_method_1_code
def yX3_init : MethodName := ⟨RX3, "<init>", "()V"⟩
abbrev cX3_put : ByteArray := prog_5_method_2_code
def yX3_put : MethodName := ⟨RX3, "put", "(LOptionLine$Frame;)V"⟩
abbrev cX3_takeFirst : ByteArray := prog_5_method_3_code
def yX3_takeFirst : MethodName := ⟨RX3, "takeFirst", "()LOptionLine$Frame;"⟩
def RX4 : String := "OptionLine"
def TX4 : u_T := fun k => match k with
  | 0 => ("OptionLine", "endZero", "LOptionLine$End;", true)
  | 1 => ("OptionLine", "endOne", "LOptionLine$End;", true)
  | _ => ("OptionLine", "bundle", "LOptionLine$Bundle;", true)
def tyX4 : Nat → FieldType := fun k => match k with
  | 0 => .object "OptionLine$End"
  | 1 => .object "OptionLine$End"
  | _ => .object "OptionLine$Bundle"
theorem nmX4 : ∀ a, a < 3 → ∀ b, b < 3 → a ≠ b → (TX4 a).2.1 ≠ (TX4 b).2.1 := by decide +kernel
theorem tyX4_ok : ∀ k, k < 3 → parseFieldDescriptor (TX4 k).2.2.1 = some (tyX4 k) := by decide +kernel
abbrev cX4_init : ByteArray := prog_1_method_1_code
def yX4_init : MethodName := ⟨RX4, "<init>", "()V"⟩
abbrev cX4_wish : ByteArray := prog_1_method_2_code
def yX4_wish : MethodName := ⟨RX4, "wish", "(III)I"⟩
abbrev cX4_allow : ByteArray := prog_1_method_3_code
def yX4_allow : MethodName := ⟨RX4, "allow", "(III)I"⟩
abbrev cX4_setMagic : ByteArray := prog_1_method_4_code
def yX4_setMagic : MethodName := ⟨RX4, "setMagic", "(II)I"⟩
abbrev cX4_open : ByteArray := prog_1_method_5_code
def yX4_open : MethodName := ⟨RX4, "open", "(I)I"⟩
abbrev cX4_close : ByteArray := prog_1_method_6_code
def yX4_close : MethodName := ⟨RX4, "close", "(I)I"⟩
abbrev cX4_deliver : ByteArray := prog_1_method_7_code
def yX4_deliver : MethodName := ⟨RX4, "deliver", "(I)I"⟩
abbrev cX4_lose : ByteArray := prog_1_method_8_code
def yX4_lose : MethodName := ⟨RX4, "lose", "(I)I"⟩
abbrev cX4_loop : ByteArray := prog_1_method_9_code
def yX4_loop : MethodName := ⟨RX4, "loop", "(I)I"⟩
abbrev cX4_pass : ByteArray := prog_1_method_10_code
def yX4_pass : MethodName := ⟨RX4, "pass", "(I)I"⟩
abbrev cX4_stateOf : ByteArray := prog_1_method_11_code
def yX4_stateOf : MethodName := ⟨RX4, "stateOf", "(I)I"⟩
abbrev cX4_asked : ByteArray := prog_1_method_12_code
def yX4_asked : MethodName := ⟨RX4, "asked", "(II)I"⟩
abbrev cX4_requests : ByteArray := prog_1_method_13_code
def yX4_requests : MethodName := ⟨RX4, "requests", "(I)I"⟩
abbrev cX4_isLooped : ByteArray := prog_1_method_14_code
def yX4_isLooped : MethodName := ⟨RX4, "isLooped", "(I)Z"⟩
abbrev cX4_underWay : ByteArray := prog_1_method_15_code
def yX4_underWay : MethodName := ⟨RX4, "underWay", "(I)I"⟩
abbrev cX4_missed : ByteArray := prog_1_method_16_code
def yX4_missed : MethodName := ⟨RX4, "missed", "(I)I"⟩
abbrev cX4_send : ByteArray := prog_1_method_17_code
def yX4_send : MethodName := ⟨RX4, "send", "(I)I"⟩
abbrev cX4_come : ByteArray := prog_1_method_18_code
def yX4_come : MethodName := ⟨RX4, "come", "(I)I"⟩
abbrev cX4_drop : ByteArray := prog_1_method_19_code
def yX4_drop : MethodName := ⟨RX4, "drop", "(I)I"⟩
abbrev cX4_given : ByteArray := prog_1_method_20_code
def yX4_given : MethodName := ⟨RX4, "given", "()I"⟩
abbrev cX4_givenAt : ByteArray := prog_1_method_21_code
def yX4_givenAt : MethodName := ⟨RX4, "givenAt", "(I)I"⟩
abbrev cX4_next : ByteArray := prog_1_method_22_code
def yX4_next : MethodName := ⟨RX4, "next", "()I"⟩
abbrev cX4_endAt : ByteArray := prog_1_method_23_code
def yX4_endAt : MethodName := ⟨RX4, "endAt", "(I)LOptionLine$End;"⟩
abbrev cX4_refuseNoOption : ByteArray := prog_1_method_24_code
def yX4_refuseNoOption : MethodName := ⟨RX4, "refuseNoOption", "(I)V"⟩
abbrev cX4_takeFrame : ByteArray := prog_1_method_25_code
def yX4_takeFrame : MethodName := ⟨RX4, "takeFrame", "(LOptionLine$End;)LOptionLine$Frame;"⟩
abbrev cX4_refuseEmptyLine : ByteArray := prog_1_method_26_code
def yX4_refuseEmptyLine : MethodName := ⟨RX4, "refuseEmptyLine", "(I)V"⟩
def RX5 : String := "OptionLineModel"
def TX5 : u_T := fun k => match k with
  | 0 => ("OptionLineModel", "thrown", "I", false)
  | 1 => ("OptionLineModel", "wishes", "[I", true)
  | 2 => ("OptionLineModel", "allowed", "[I", true)
  | 3 => ("OptionLineModel", "asks", "[I", true)
  | 4 => ("OptionLineModel", "magic", "[I", true)
  | 5 => ("OptionLineModel", "state", "[I", true)
  | 6 => ("OptionLineModel", "lastId", "[I", true)
  | 7 => ("OptionLineModel", "requests", "[I", true)
  | 8 => ("OptionLineModel", "timer", "[I", true)
  | 9 => ("OptionLineModel", "isLooped", "[Z", true)
  | 10 => ("OptionLineModel", "missed", "[I", true)
  | 11 => ("OptionLineModel", "head", "[I", true)
  | 12 => ("OptionLineModel", "many", "[I", true)
  | 13 => ("OptionLineModel", "kind", "[I", true)
  | 14 => ("OptionLineModel", "id", "[I", true)
  | 15 => ("OptionLineModel", "number", "[I", true)
  | 16 => ("OptionLineModel", "told", "[I", true)
  | 17 => ("OptionLineModel", "packets", "I", false)
  | 18 => ("OptionLineModel", "pieces", "I", false)
  | 19 => ("OptionLineModel", "firstOf", "[I", true)
  | 20 => ("OptionLineModel", "packetOf", "[I", true)
  | 21 => ("OptionLineModel", "isHere", "[Z", true)
  | 22 => ("OptionLineModel", "onLine", "[I", true)
  | 23 => ("OptionLineModel", "latest", "[I", true)
  | 24 => ("OptionLineModel", "next", "I", false)
  | 25 => ("OptionLineModel", "given", "I", false)
  | _ => ("OptionLineModel", "row", "[I", true)
def tyX5 : Nat → FieldType := fun k => match k with
  | 0 => .int
  | 1 => .array .int
  | 2 => .array .int
  | 3 => .array .int
  | 4 => .array .int
  | 5 => .array .int
  | 6 => .array .int
  | 7 => .array .int
  | 8 => .array .int
  | 9 => .array .boolean
  | 10 => .array .int
  | 11 => .array .int
  | 12 => .array .int
  | 13 => .array .int
  | 14 => .array .int
  | 15 => .array .int
  | 16 => .array .int
  | 17 => .int
  | 18 => .int
  | 19 => .array .int
  | 20 => .array .int
  | 21 => .array .boolean
  | 22 => .array .int
  | 23 => .array .int
  | 24 => .int
  | 25 => .int
  | _ => .array .int
theorem nmX5 : ∀ a, a < 27 → ∀ b, b < 27 → a ≠ b → (TX5 a).2.1 ≠ (TX5 b).2.1 := by decide +kernel
theorem tyX5_ok : ∀ k, k < 27 → parseFieldDescriptor (TX5 k).2.2.1 = some (tyX5 k) := by decide +kernel
abbrev cX5_init : ByteArray := prog_7_method_1_code
def yX5_init : MethodName := ⟨RX5, "<init>", "()V"⟩
abbrev cX5_in : ByteArray := prog_7_method_3_code
def yX5_in : MethodName := ⟨RX5, "in", "(III)Z"⟩
abbrev cX5_isEnd : ByteArray := prog_7_method_4_code
def yX5_isEnd : MethodName := ⟨RX5, "isEnd", "(I)Z"⟩
abbrev cX5_isOption : ByteArray := prog_7_method_5_code
def yX5_isOption : MethodName := ⟨RX5, "isOption", "(I)Z"⟩
abbrev cX5_wish : ByteArray := prog_7_method_6_code
def yX5_wish : MethodName := ⟨RX5, "wish", "(III)I"⟩
abbrev cX5_allow : ByteArray := prog_7_method_7_code
def yX5_allow : MethodName := ⟨RX5, "allow", "(III)I"⟩
abbrev cX5_setMagic : ByteArray := prog_7_method_8_code
def yX5_setMagic : MethodName := ⟨RX5, "setMagic", "(II)I"⟩
abbrev cX5_sends : ByteArray := prog_7_method_9_code
def yX5_sends : MethodName := ⟨RX5, "sends", "(IIII)V"⟩
abbrev cX5_place : ByteArray := prog_7_method_10_code
def yX5_place : MethodName := ⟨RX5, "place", "(I)I"⟩
abbrev cX5_valueIn : ByteArray := prog_7_method_11_code
def yX5_valueIn : MethodName := ⟨RX5, "valueIn", "(II)I"⟩
abbrev cX5_begs : ByteArray := prog_7_method_12_code
def yX5_begs : MethodName := ⟨RX5, "begs", "(I)Z"⟩
abbrev cX5_lowest : ByteArray := prog_7_method_13_code
def yX5_lowest : MethodName := ⟨RX5, "lowest", "(I)I"⟩
abbrev cX5_answers : ByteArray := prog_7_method_14_code
def yX5_answers : MethodName := ⟨RX5, "answers", "(III)V"⟩
abbrev cX5_comesRequest : ByteArray := prog_7_method_15_code
def yX5_comesRequest : MethodName := ⟨RX5, "comesRequest", "(IIII)V"⟩
abbrev cX5_comesAnswer : ByteArray := prog_7_method_16_code
def yX5_comesAnswer : MethodName := ⟨RX5, "comesAnswer", "(III)V"⟩
abbrev cX5_comes : ByteArray := prog_7_method_17_code
def yX5_comes : MethodName := ⟨RX5, "comes", "(II)V"⟩
abbrev cX5_takes : ByteArray := prog_7_method_18_code
def yX5_takes : MethodName := ⟨RX5, "takes", "(I)I"⟩
abbrev cX5_open : ByteArray := prog_7_method_19_code
def yX5_open : MethodName := ⟨RX5, "open", "(I)I"⟩
abbrev cX5_close : ByteArray := prog_7_method_20_code
def yX5_close : MethodName := ⟨RX5, "close", "(I)I"⟩
abbrev cX5_asksFrame : ByteArray := prog_7_method_21_code
def yX5_asksFrame : MethodName := ⟨RX5, "asksFrame", "(I)Z"⟩
abbrev cX5_deliver : ByteArray := prog_7_method_22_code
def yX5_deliver : MethodName := ⟨RX5, "deliver", "(I)I"⟩
abbrev cX5_lose : ByteArray := prog_7_method_23_code
def yX5_lose : MethodName := ⟨RX5, "lose", "(I)I"⟩
abbrev cX5_loop : ByteArray := prog_7_method_24_code
def yX5_loop : MethodName := ⟨RX5, "loop", "(I)I"⟩
abbrev cX5_goesBy : ByteArray := prog_7_method_25_code
def yX5_goesBy : MethodName := ⟨RX5, "goesBy", "(I)I"⟩
abbrev cX5_pass : ByteArray := prog_7_method_26_code
def yX5_pass : MethodName := ⟨RX5, "pass", "(I)I"⟩
abbrev cX5_asksEnd : ByteArray := prog_7_method_27_code
def yX5_asksEnd : MethodName := ⟨RX5, "asksEnd", "(I)Z"⟩
abbrev cX5_stateOf : ByteArray := prog_7_method_28_code
def yX5_stateOf : MethodName := ⟨RX5, "stateOf", "(I)I"⟩
abbrev cX5_asked : ByteArray := prog_7_method_29_code
def yX5_asked : MethodName := ⟨RX5, "asked", "(II)I"⟩
abbrev cX5_requests : ByteArray := prog_7_method_30_code
def yX5_requests : MethodName := ⟨RX5, "requests", "(I)I"⟩
abbrev cX5_isLooped : ByteArray := prog_7_method_31_code
def yX5_isLooped : MethodName := ⟨RX5, "isLooped", "(I)Z"⟩
abbrev cX5_underWay : ByteArray := prog_7_method_32_code
def yX5_underWay : MethodName := ⟨RX5, "underWay", "(I)I"⟩
abbrev cX5_missed : ByteArray := prog_7_method_33_code
def yX5_missed : MethodName := ⟨RX5, "missed", "(I)I"⟩
abbrev cX5_send : ByteArray := prog_7_method_34_code
def yX5_send : MethodName := ⟨RX5, "send", "(I)I"⟩
abbrev cX5_bound : ByteArray := prog_7_method_35_code
def yX5_bound : MethodName := ⟨RX5, "bound", "()I"⟩
abbrev cX5_missing : ByteArray := prog_7_method_36_code
def yX5_missing : MethodName := ⟨RX5, "missing", "(I)I"⟩
abbrev cX5_goesOn : ByteArray := prog_7_method_37_code
def yX5_goesOn : MethodName := ⟨RX5, "goesOn", "()Z"⟩
abbrev cX5_asksLine : ByteArray := prog_7_method_38_code
def yX5_asksLine : MethodName := ⟨RX5, "asksLine", "(I)Z"⟩
abbrev cX5_come : ByteArray := prog_7_method_39_code
def yX5_come : MethodName := ⟨RX5, "come", "(I)I"⟩
abbrev cX5_drop : ByteArray := prog_7_method_40_code
def yX5_drop : MethodName := ⟨RX5, "drop", "(I)I"⟩
abbrev cX5_given : ByteArray := prog_7_method_41_code
def yX5_given : MethodName := ⟨RX5, "given", "()I"⟩
abbrev cX5_givenAt : ByteArray := prog_7_method_42_code
def yX5_givenAt : MethodName := ⟨RX5, "givenAt", "(I)I"⟩
abbrev cX5_next : ByteArray := prog_7_method_43_code
def yX5_next : MethodName := ⟨RX5, "next", "()I"⟩
def RJx145de : String := "java/io/Serializable"
def TJx145de : u_T := fun k => match k with
  | _ => ("", "", "", false)
def tyJx145de : Nat → FieldType := fun k => match k with
  | _ => .int
def RJx8e188 : String := "java/lang/Cloneable"
def TJx8e188 : u_T := fun k => match k with
  | _ => ("", "", "", false)
def tyJx8e188 : Nat → FieldType := fun k => match k with
  | _ => .int
def RJ9 : String := "java/lang/Math"
def TJ9 : u_T := fun k => match k with
  | _ => ("", "", "", false)
def tyJ9 : Nat → FieldType := fun k => match k with
  | _ => .int
abbrev cJ9_min_7cf53 : ByteArray := prog_13_method_69_code
def yJ9_min_7cf53 : MethodName := ⟨RJ9, "min", "(II)I"⟩
def RJ0 : String := "java/lang/String"
def TJ0 : u_T := fun k => match k with
  | _ => ("", "", "", false)
def tyJ0 : Nat → FieldType := fun k => match k with
  | _ => .int
def RJ10 : String := "java/lang/System"
def TJ10 : u_T := fun k => match k with
  | _ => ("", "", "", false)
def tyJ10 : Nat → FieldType := fun k => match k with
  | _ => .int
def RJ7 : String := "java/util/Arrays"
def TJ7 : u_T := fun k => match k with
  | _ => ("", "", "", false)
def tyJ7 : Nat → FieldType := fun k => match k with
  | _ => .int
abbrev cJ7_fill_53178 : ByteArray := prog_18_method_103_code
def yJ7_fill_53178 : MethodName := ⟨RJ7, "fill", "([II)V"⟩
abbrev cJ7_copyOf_59c91 : ByteArray := prog_18_method_123_code
def yJ7_copyOf_59c91 : MethodName := ⟨RJ7, "copyOf", "([II)[I"⟩
def RL : String := "OptionLineLaw"
abbrev cL_wish : ByteArray := method_3_code
def yL_wish : MethodName := ⟨RL, "wish", "(LOptionLine;III[J)I"⟩
abbrev cL_allow : ByteArray := method_4_code
def yL_allow : MethodName := ⟨RL, "allow", "(LOptionLine;III[J)I"⟩
abbrev cL_setMagic : ByteArray := method_5_code
def yL_setMagic : MethodName := ⟨RL, "setMagic", "(LOptionLine;II[J)I"⟩
abbrev cL_open : ByteArray := method_6_code
def yL_open : MethodName := ⟨RL, "open", "(LOptionLine;I[J)I"⟩
abbrev cL_close : ByteArray := method_7_code
def yL_close : MethodName := ⟨RL, "close", "(LOptionLine;I[J)I"⟩
abbrev cL_deliver : ByteArray := method_8_code
def yL_deliver : MethodName := ⟨RL, "deliver", "(LOptionLine;I[J)I"⟩
abbrev cL_lose : ByteArray := method_9_code
def yL_lose : MethodName := ⟨RL, "lose", "(LOptionLine;I[J)I"⟩
abbrev cL_loop : ByteArray := method_10_code
def yL_loop : MethodName := ⟨RL, "loop", "(LOptionLine;I[J)I"⟩
abbrev cL_pass : ByteArray := method_11_code
def yL_pass : MethodName := ⟨RL, "pass", "(LOptionLine;I[J)I"⟩
abbrev cL_stateOf : ByteArray := method_12_code
def yL_stateOf : MethodName := ⟨RL, "stateOf", "(LOptionLine;I[J)I"⟩
abbrev cL_asked : ByteArray := method_13_code
def yL_asked : MethodName := ⟨RL, "asked", "(LOptionLine;II[J)I"⟩
abbrev cL_requests : ByteArray := method_14_code
def yL_requests : MethodName := ⟨RL, "requests", "(LOptionLine;I[J)I"⟩
abbrev cL_isLooped : ByteArray := method_15_code
def yL_isLooped : MethodName := ⟨RL, "isLooped", "(LOptionLine;I[J)I"⟩
abbrev cL_underWay : ByteArray := method_16_code
def yL_underWay : MethodName := ⟨RL, "underWay", "(LOptionLine;I[J)I"⟩
abbrev cL_missed : ByteArray := method_17_code
def yL_missed : MethodName := ⟨RL, "missed", "(LOptionLine;I[J)I"⟩
abbrev cL_send : ByteArray := method_18_code
def yL_send : MethodName := ⟨RL, "send", "(LOptionLine;I[J)I"⟩
abbrev cL_come : ByteArray := method_19_code
def yL_come : MethodName := ⟨RL, "come", "(LOptionLine;I[J)I"⟩
abbrev cL_drop : ByteArray := method_20_code
def yL_drop : MethodName := ⟨RL, "drop", "(LOptionLine;I[J)I"⟩
abbrev cL_givenAt : ByteArray := method_21_code
def yL_givenAt : MethodName := ⟨RL, "givenAt", "(LOptionLine;I[J)I"⟩
abbrev cL_law : ByteArray := code
def yL_law : MethodName := ⟨RL, "law", "([I)Z"⟩
abbrev vwCl : List vw_C := [(RX0, TX0, 9), (RX1, TX1, 11), (RX2, TX2, 5), (RX3, TX3, 3), (RX4, TX4, 3), (RX5, TX5, 27)]
end
section
/-! rows of kit/laws/EXCEPTIONS.to-paste (calls of constructors that may throw), pasted -/
section VXIA
variable {p : Program} {l : Launch} {e : Env} {R : Room} {s : State} {m : MethodId} {args : Array Value} {below : List Frame} {meth : Method} {c : Code} {T : State} {locs : List Loc} {cells slots : Nat}
theorem vx_callI (X : Stand p l e R s m args below meth c T locs cells slots) (hexec : p.tables.exec = Jvm.exec) {own : String} {index : Nat} {y : MethodName} {bytes : ByteArray} {maxL : Nat}
    (hown : s.vm.findClass own = some m.cls) (hy1 : y.name = "<init>") (hlink : (Cond.methodLink own index y).before args s = true) (hinst : (Cond.instanceMethod y).before args s = true)
    (hcode : (Cond.code y bytes maxL none).before args s = true) (hy : y.cls ≠ "java/lang/invoke/MethodHandle" ∧ y.cls ≠ "java/lang/invoke/VarHandle")
    {W9 : Nat} {Pre : Pt → Array Value → Prop} {Post : Pt → Array Value → Option Value → Pt → Prop} {PostX : Pt → Array Value → Addr → Pt → Prop} (hK : vx_Back l R p e below s args y 3 W9 Pre Post PostX)
    {g : JFrame} (hg : g.method = m) (hsize : g.locals.size = c.maxLocals) {a : Addr} {argsL rest : List Value} (hlen : ∀ sig, parseMethodDescriptor y.desc = some sig → argsL.length = sig.parameters.length)
    (hstack : g.stack = argsL.reverse ++ .ref a :: rest) (hW : 2 * g.monitorRoom + (rest.map fun v => v.category).sum ≤ W9) (hdg : decode c.code g.pc = .ok (.invokespecial index, 3))
    (hpre : ∀ vm₁, s.WarmedH vm₁ → Pre ⟨T.setVm vm₁, locs, cells, slots⟩ (Value.ref a :: argsL).toArray) :
    (∃ (v : Option Value) (vm₁ : Vm) (B : Pt), s.WarmedH vm₁ ∧ Stand p l e R s m args below meth c B.U B.locs B.cells B.slots ∧ Post ⟨T.setVm vm₁, locs, cells, slots⟩ (Value.ref a :: argsL).toArray v B ∧
      ∀ target, Steps p.tables e below (B.U.setTop { g with pc := g.pc + 3, stack := v.toList ++ rest }) target → Steps p.tables e below (T.setTop g) target) ∨
    (∃ (q : Addr) (vm₁ : Vm) (B : Pt), s.WarmedH vm₁ ∧ Stand p l e R s m args below meth c B.U B.locs B.cells B.slots ∧ PostX ⟨T.setVm vm₁, locs, cells, slots⟩ (Value.ref a :: argsL).toArray q B ∧
      Steps p.tables e below (T.setTop g) ((B.U.setTop { g with stack := rest }).pushFrame (.throwing q))) := by
  subst hg
  have hpl : e.platform.magicAccessors = ({} : Platform).magicAccessors := by rw [X.admits.platform]
  obtain ⟨mk, methM, cM, kP, vm₁, hnamed, hmethM, hcodeM, -, hlocalsM, -, hkP, -, hW₁, hstep₁⟩ := Steps.initColdArgs (e := e) X.here hexec X.warmed hpl hown hy1 hy hlink hinst hcode (f := g) rfl hlen hstack hdg
  have X₁ := X.noted hW₁
  rcases hK g.method meth c ⟨T.setVm vm₁, locs, cells, slots⟩ { g with stack := rest } (.invokespecial index) mk (Value.ref a :: argsL).toArray X₁ rfl hsize hdg hW (X₁.named hnamed) (hpre vm₁ X₁.warmed) with ⟨v, B, X', hpost, hsteps⟩ | ⟨q, B, X', hpost, hsteps⟩
  · exact Or.inl ⟨v, vm₁, B, X₁.warmed, X', hpost, fun target h => hstep₁ _ fun acts => by rw [doInvoke_state]; exact hsteps.trans h⟩
  · exact Or.inr ⟨q, vm₁, B, X₁.warmed, X', hpost, hstep₁ _ fun acts => by rw [doInvoke_state]; exact hsteps⟩
end VXIA
section VXIB
variable {p : Program} {l : Launch} {e : Env} {R : Room} {s : State} {m : MethodId} {args : Array Value} {below : List Frame} {meth : Method} {c : Code} {H : Heap} {locs : List Loc} {cells slots : Nat}
variable {y : MethodName} {bytes cc : ByteArray} {maxL nL mc ms n index : Nat} {ret : Option FieldType} {ws : List Cond} {rm : Room} {Pc : Array Value → State → Prop} {Qc : Array Value → State → Outcome → State → Prop} {XC : String → State → State → Prop} {free : Addr → Prop} {Ts : List Cond} {own C : String} {b : Addr} {As rest : List Value} {g : JFrame}
theorem vx_runI (S : CallFix p m c cc nL s args Ts own) (hM : vx_Met l y ws rm Pc Qc XC mc ms free) (cw : CallB R s args own index y bytes maxL none ws rm mc ms n ∧ y.name = "<init>" ∧ (Cond.instanceMethod y).before args s = true) (hp : PreS s H Pc (.ref b :: As))
    (hg : g.method = m) (hn : As.length = n) (hsize : g.locals.size = nL) (hstack : g.stack = As.reverse ++ .ref b :: rest) (hW : 2 * g.monitorRoom + (rest.map fun v => v.category).sum ≤ 8) (hdg : decode cc g.pc = .ok (.invokespecial index, 3)) (hf : cells + mc ≤ R.cells ∧ slots + ms ≤ R.slots) :
    vx_Run p l e R s m args below meth c H locs cells slots mc ms g rest (Qc (Value.ref b :: As).toArray) XC free := by
  have hK : vx_Back l R p e below s args y 3 8 (PreOf R mc ms Pc) (PostOf Qc mc ms free) (vx_Post XC mc ms free) := vx_callBack cw.1 hM hp.1
  obtain ⟨⟨-, -, -, -, -, -, hcode, -, hy, hlen, hl⟩, hy1, hin⟩ := cw
  obtain ⟨hx, hb, hml, ho, -⟩ := S
  have hPc := hp.2
  intro T hT X
  rcases vx_callI X hx (bytes := bytes) (maxL := maxL) ho hy1 hl hin hcode hy hK hg (hsize.trans hml.symm) (a := b) (argsL := As) (rest := rest) (fun sig h => hn.trans (hlen sig h)) hstack hW (by rw [hb]; exact hdg)
    (fun vm₁ hW₁ => ⟨hf.1, hf.2, hPc (T.setVm vm₁) hT hW₁⟩) with ⟨v, vm₁, ⟨U', l2, c2, s2⟩, hW₁, X', ⟨g', mk, t, L, e1, e2, hq, h1, hL, h2, h3⟩, st⟩ | ⟨q, vm₁, ⟨U', l2, c2, s2⟩, hW₁, X', ⟨g', mk, t, L, E, ce, e1, e2, hq, hce, hcv, hcl, h1, hL, h2, h3⟩, st⟩
  · dsimp only [Pt.U, Pt.locs, Pt.cells, Pt.slots] at X' e1 e2 h1 h2 h3 st
    subst h1; subst h2; subst h3
    exact Or.inl ⟨v, (T.setVm vm₁).calling g' mk (Value.ref b :: As).toArray, t, U', L, hT, X', hL, e1, e2, hq, st⟩
  · dsimp only [Pt.U, Pt.locs, Pt.cells, Pt.slots] at X' e1 e2 h1 h2 h3 st hcl
    subst h1; subst h2; subst h3
    exact Or.inr ⟨q, (T.setVm vm₁).calling g' mk (Value.ref b :: As).toArray, t, U', L, E, ce, hT, X', hL, e1, e2, hq, hce, hcv, vx_cls hW₁ hcl, st⟩
end VXIB
/-! ===== END ===== -/
/-! ===== BEGIN a private constructor of a nest mate that throws ===== -/
section VXIC
variable {p : Program} {l : Launch} {e : Env} {R : Room} {s : State} {m : MethodId} {args : Array Value} {below : List Frame} {meth : Method} {c : Code} {T : State} {locs : List Loc} {cells slots : Nat}
theorem vx_callIN (X : Stand p l e R s m args below meth c T locs cells slots) (hexec : p.tables.exec = Jvm.exec) {own : String} {index : Nat} {host : String} {y : MethodName} {bytes : ByteArray} {maxL : Nat}
    (hown : s.vm.findClass own = some m.cls) (hy1 : y.name = "<init>") (hlink : (Cond.methodLinkNest own index y host).before args s = true) (hinst : (Cond.instanceMethod y).before args s = true)
    (hcode : (Cond.code y bytes maxL none).before args s = true) (hy : y.cls ≠ "java/lang/invoke/MethodHandle" ∧ y.cls ≠ "java/lang/invoke/VarHandle")
    {W9 : Nat} {Pre : Pt → Array Value → Prop} {Post : Pt → Array Value → Option Value → Pt → Prop} {PostX : Pt → Array Value → Addr → Pt → Prop} (hK : vx_Back l R p e below s args y 3 W9 Pre Post PostX)
    {g : JFrame} (hg : g.method = m) (hsize : g.locals.size = c.maxLocals) {a : Addr} {argsL rest : List Value} (hlen : ∀ sig, parseMethodDescriptor y.desc = some sig → argsL.length = sig.parameters.length)
    (hstack : g.stack = argsL.reverse ++ .ref a :: rest) (hW : 2 * g.monitorRoom + (rest.map fun v => v.category).sum ≤ W9) (hdg : decode c.code g.pc = .ok (.invokespecial index, 3))
    (hpre : ∀ vm₁, s.WarmedH vm₁ → Pre ⟨T.setVm vm₁, locs, cells, slots⟩ (Value.ref a :: argsL).toArray) :
    (∃ (v : Option Value) (vm₁ : Vm) (B : Pt), s.WarmedH vm₁ ∧ Stand p l e R s m args below meth c B.U B.locs B.cells B.slots ∧ Post ⟨T.setVm vm₁, locs, cells, slots⟩ (Value.ref a :: argsL).toArray v B ∧
      ∀ target, Steps p.tables e below (B.U.setTop { g with pc := g.pc + 3, stack := v.toList ++ rest }) target → Steps p.tables e below (T.setTop g) target) ∨
    (∃ (q : Addr) (vm₁ : Vm) (B : Pt), s.WarmedH vm₁ ∧ Stand p l e R s m args below meth c B.U B.locs B.cells B.slots ∧ PostX ⟨T.setVm vm₁, locs, cells, slots⟩ (Value.ref a :: argsL).toArray q B ∧
      Steps p.tables e below (T.setTop g) ((B.U.setTop { g with stack := rest }).pushFrame (.throwing q))) := by
  subst hg
  have hpl : e.platform.magicAccessors = ({} : Platform).magicAccessors := by rw [X.admits.platform]
  obtain ⟨mk, methM, cM, kP, vm₁, hnamed, hmethM, hcodeM, -, hlocalsM, -, hkP, -, hW₁, hstep₁⟩ := Steps.initColdArgsNest (e := e) X.here hexec X.warmed hpl hown hy1 hy hlink hinst hcode (f := g) rfl hlen hstack hdg
  have X₁ := X.noted hW₁
  rcases hK g.method meth c ⟨T.setVm vm₁, locs, cells, slots⟩ { g with stack := rest } (.invokespecial index) mk (Value.ref a :: argsL).toArray X₁ rfl hsize hdg hW (X₁.named hnamed) (hpre vm₁ X₁.warmed) with ⟨v, B, X', hpost, hsteps⟩ | ⟨q, B, X', hpost, hsteps⟩
  · exact Or.inl ⟨v, vm₁, B, X₁.warmed, X', hpost, fun target h => hstep₁ _ fun acts => by rw [doInvoke_state]; exact hsteps.trans h⟩
  · exact Or.inr ⟨q, vm₁, B, X₁.warmed, X', hpost, hstep₁ _ fun acts => by rw [doInvoke_state]; exact hsteps⟩
end VXIC
section VXID
variable {p : Program} {l : Launch} {e : Env} {R : Room} {s : State} {m : MethodId} {args : Array Value} {below : List Frame} {meth : Method} {c : Code} {H : Heap} {locs : List Loc} {cells slots : Nat}
theorem vx_runIN {y : MethodName} {bytes cc : ByteArray} {maxL nL mc ms n index : Nat} {ws : List Cond} {rm : Room} {Pc : Array Value → State → Prop} {Qc : Array Value → State → Outcome → State → Prop} {XC : String → State → State → Prop} {free : Addr → Prop} {Ts : List Cond} {own host : String} {b : Addr} {As rest : List Value} {g : JFrame}
    (S : CallFix p m c cc nL s args Ts own) (hM : vx_Met l y ws rm Pc Qc XC mc ms free) (cw : va_CN R s args own index y host bytes maxL none ws rm mc ms n ∧ y.name = "<init>" ∧ (Cond.instanceMethod y).before args s = true) (hp : PreS s H Pc (.ref b :: As))
    (hg : g.method = m) (hn : As.length = n) (hsize : g.locals.size = nL) (hstack : g.stack = As.reverse ++ .ref b :: rest) (hW : 2 * g.monitorRoom + (rest.map fun v => v.category).sum ≤ 8) (hdg : decode cc g.pc = .ok (.invokespecial index, 3)) (hf : cells + mc ≤ R.cells ∧ slots + ms ≤ R.slots) :
    vx_Run p l e R s m args below meth c H locs cells slots mc ms g rest (Qc (Value.ref b :: As).toArray) XC free := by
  obtain ⟨⟨⟨hrc, hrs, hfr, hlo, hws, hcw⟩, hcode, hini, hy, hlen, hl⟩, hx1, hx2⟩ := cw
  have hK : vx_Back l R p e below s args y 3 8 (PreOf R mc ms Pc) (PostOf Qc mc ms free) (vx_Post XC mc ms free) := vx_back (bytes := bytes) (maxL := maxL) (ret := none) hM hp.1 hrc hrs hfr hlo hws hcw (fun a' U hW => word_at hW (Or.inl (by first | rfl | simp [Cond.onTables, Cond.keeps, Cond.steady])) hini)
  obtain ⟨hx, hb, hml, ho, -⟩ := S
  have hPc := hp.2
  intro T hT X
  rcases vx_callIN X hx (bytes := bytes) (maxL := maxL) ho hx1 hl hx2 hcode hy hK hg (hsize.trans hml.symm) (a := b) (argsL := As) (rest := rest) (fun sig h => hn.trans (hlen sig h)) hstack hW (by rw [hb]; exact hdg)
    (fun vm₁ hW₁ => ⟨hf.1, hf.2, hPc (T.setVm vm₁) hT hW₁⟩) with ⟨v, vm₁, ⟨U', l2, c2, s2⟩, hW₁, X', ⟨g', mk, t, L, e1, e2, hq, h1, hL, h2, h3⟩, st⟩ | ⟨q, vm₁, ⟨U', l2, c2, s2⟩, hW₁, X', ⟨g', mk, t, L, E, ce, e1, e2, hq, hce, hcv, hcl, h1, hL, h2, h3⟩, st⟩
  · dsimp only [Pt.U, Pt.locs, Pt.cells, Pt.slots] at X' e1 e2 h1 h2 h3 st
    subst h1; subst h2; subst h3
    exact Or.inl ⟨v, (T.setVm vm₁).calling g' mk (Value.ref b :: As).toArray, t, U', L, hT, X', hL, e1, e2, hq, st⟩
  · dsimp only [Pt.U, Pt.locs, Pt.cells, Pt.slots] at X' e1 e2 h1 h2 h3 st hcl
    subst h1; subst h2; subst h3
    exact Or.inr ⟨q, (T.setVm vm₁).calling g' mk (Value.ref b :: As).toArray, t, U', L, E, ce, hT, X', hL, e1, e2, hq, hce, hcv, vx_cls hW₁ hcl, st⟩
end VXID
end
section
/-! A world is a partial map of addresses to cells; every method of the claim uses the same words and the same two-way contract. -/
section HP
/-- the good words of the tables, one list for every method -/
def gW : List Cond := lw_tbl.filter goodWord
theorem gW_mem (i : Nat) {w : Cond} (h : lw_tbl[i]? = some w) (g : goodWord w = true) : w ∈ gW := List.mem_filter.mpr ⟨List.mem_of_getElem? h, g⟩
theorem gW_all {ws : List Cond} (ps : List Nat) (h : ws = ps.filterMap (fun i => lw_tbl[i]?)) (g : ws.all goodWord = true) : ∀ w ∈ ws, w ∈ gW := by
  intro w hw
  have h1 := List.all_eq_true.mp g w hw
  rw [h] at hw
  obtain ⟨i, -, hi⟩ := List.mem_filterMap.mp hw
  exact gW_mem i hi h1
theorem gW_pay {args : Array Value} {s : State} (hts : ∀ w ∈ gW, w.before args s = true) {hd : Cond} (hhd : hd ∈ gW) : ∀ w ∈ hd :: gW, ∀ (a' : Array Value) (U : State), s.WarmedH U.vm → w.before a' U = true := by
  intro w hw a' U hW
  have hw' : w ∈ gW := by
    rcases List.mem_cons.mp hw with h | h
    · rw [h]; exact hhd
    · exact h
  exact word_at hW (good_of_word (List.mem_filter.mp hw').2) (hts w hw')
/-- the other words -/
def hOw (w : Cond) : Bool := match w with
  | .castable _ _ => true
  | .declares _ => true
  | .fieldLinkNest _ _ _ _ _ _ => true
  | .methodLinkNest _ _ _ _ => true
  | _ => false
theorem hOw_warm {w : Cond} (hm : hOw w = true) {s U : State} (hW : s.WarmedH U.vm) (h : va_Nw w s) : va_Nw w U := by
  cases w <;> first | exact va_Nw.warmC hW h | exact va_Nw.warmD hW h | exact va_Nw.warmF hW h | exact va_Nw.warmM hW h | simp [hOw] at hm
theorem hOw_tabs {w : Cond} (hm : hOw w = true) : w.onTables = true := by
  cases w <;> first | rfl | simp [hOw] at hm
def hOt : List Cond := lw_tbl.filter hOw
def hStr : List (String × Nat × String) := lw_tbl.filterMap (fun w => match w with | .stringRef a k t => some (a, k, t) | _ => none)
abbrev hC : List vw_C := [(RX0, TX0, 9), (RX1, TX1, 11), (RX2, TX2, 5), (RX3, TX3, 3), (RX4, TX4, 3), (RX5, TX5, 27)]
def eI : String := "java/lang/IndexOutOfBoundsException"
def eA : String := "java/lang/IllegalArgumentException"
def eS : String := "java/lang/IllegalStateException"
def hNcs : List (String × String) := [(eI, eA), (eI, eS), (eA, eI), (eA, eS), (eS, eI), (eS, eA)]
abbrev hG : Type := va_G × (ClassId × ClassId × ClassId) × Nat
abbrev cI (G : hG) : ClassId := G.2.1.1
abbrev cZ (G : hG) : ClassId := G.2.1.2.1
abbrev cJ (G : hG) : ClassId := G.2.1.2.2
abbrev hTy (G : hG) : List (ClassId × FieldType) := [(cI G, .int), (cZ G, .boolean), (cJ G, .long)]
def hFr (G : hG) : Nat → Prop := fun q => G.2.2 ≤ q
/-- what the tables, the statics and the strings are, at a method's start -/
def hK (G : hG) (U : State) : Prop :=
  va_K G.1 hC (hTy G) U ∧ vx_Zq Bundle.tN "UNASSIGNED_STACK" Bundle.steD (hFr G) U U.heap ∧ vx_Zq Bundle.tN "SUPPRESSED_SENTINEL" Bundle.listD (hFr G) U U.heap ∧
  (∀ w ∈ hOt, va_Nw w U) ∧ (∀ q ∈ hStr, ∃ sa : Nat, vk_R q.1 q.2.1 q.2.2 sa U) ∧ (∀ q ∈ hNcs, va_Nc q.1 q.2 U) ∧ G.2.2 ≤ U.heap.size
theorem hK.warm {G : hG} {s U : State} (h : hK G s) (hW : s.WarmedH U.vm) (hz : s.heap.size ≤ U.heap.size) (hq : ∀ a : Nat, a < s.heap.size → ¬ hFr G a → U.heap[a]? = s.heap[a]?) : hK G U :=
  ⟨va_K.moved hW.alike h.1, vx_Zq.moved hW.alike (h.2.1.kept hq), vx_Zq.moved hW.alike (h.2.2.1.kept hq), fun w hw => hOw_warm (List.mem_filter.mp hw).2 hW (h.2.2.2.1 w hw),
    fun q hq => by obtain ⟨sa, h9⟩ := h.2.2.2.2.1 q hq; exact ⟨sa, vk_R.warm hW h9⟩, fun q hq => va_Nc.moved hW.alike (h.2.2.2.2.2.1 q hq), Nat.le_trans h.2.2.2.2.2.2 hz⟩
abbrev hM : Type := Nat → Option va_E
/-- the heap holds the map's cells -/
def hW (G : hG) (f : hM) (H : Heap) : Prop := ∃ (L : List Nat) (g : Nat → va_E), (∀ a e, f a = some e → a ∈ L ∧ g a = e) ∧ va_P G.1 hC (va_pl L g) H ∧ va_D (hFr G) (va_pl L g)
/-- the cells of the map outside S stay -/
def hKeep (S : List Nat) (f f1 : hM) : Prop := ∀ a e, f a = some e → a ∉ S → f1 a = some e
theorem hKeep.rf {S : List Nat} {f : hM} : hKeep S f f := fun _ _ h _ => h
theorem hKeep.tr {S : List Nat} {f f1 f2 : hM} (h : hKeep S f f1) (h2 : hKeep S f1 f2) : hKeep S f f2 := fun a e q n => h2 a e (h a e q n) n
theorem hKeep.mono {S T : List Nat} {f f1 : hM} (h : hKeep S f f1) (hs : ∀ a, a ∈ S → a ∈ T) : hKeep T f f1 := fun a e q n => h a e q (fun z => n (hs a z))
theorem hKeep.up {S : List Nat} {f : hM} {a : Nat} {e : Option va_E} (h : a ∈ S) : hKeep S f (va_up f a e) := fun b x q n => by rw [va_up_ne _ _ (fun z => n (by rw [z]; exact h))]; exact q
theorem hKeep.new {S : List Nat} {f : hM} {a : Nat} {e : Option va_E} (h : f a = none) : hKeep S f (va_up f a e) := fun b x q _ => by
  rw [va_up_ne _ _ (fun z => by rw [z, h] at q; cases q)]; exact q
def hTag (e : va_E) : Nat := match e with
  | .inl _ => 0
  | .inr o => o.1 + 1
theorem hne {f : hM} {a b : Nat} {x y : va_E} (ha : f a = some x) (hb : f b = some y) (h : hTag x ≠ hTag y) : a ≠ b := fun e => by
  rw [e, hb] at ha
  cases ha
  exact h rfl
theorem hnew {f : hM} {a q : Nat} {x : va_E} (ha : f a = some x) (hq : f q = none) : a ≠ q := fun e => by
  rw [e, hq] at ha
  cases ha
theorem nin0 {a : Nat} : a ∉ ([] : List Nat) := List.not_mem_nil
theorem ninc {a b : Nat} {l : List Nat} (h : a ≠ b) (t : a ∉ l) : a ∉ b :: l := fun z => (List.mem_cons.mp z).elim h t
/-! what a method owes -/
def hPre (G : hG) (av : List Value) (f : hM) : Array Value → State → Prop := va_Pc av (fun U => hK G U ∧ hW G f U.heap)
def hQ (G : hG) (P : Option Value → hM → Prop) : Array Value → State → Outcome → State → Prop := fun _ st oc t => (∃ (v : Option Value) (f1 : hM), oc = .returned v ∧ P v f1 ∧ hW G f1 t.heap) ∧ va_F (hFr G) st t
def hX (G : hG) (PX : String → hM → Prop) : String → State → State → Prop := fun E st t => (∃ f1 : hM, PX E f1 ∧ hW G f1 t.heap) ∧ va_F (hFr G) st t
theorem hPre.blind {G : hG} {av : List Value} {f : hM} : FrameBlind (hPre G av f) := fun _ U g mk h => ⟨h.1, hK.warm (U := U.calling g mk _) h.2.1 (State.WarmedH.refl U) (Nat.le_refl _) (fun _ _ _ => rfl), h.2.2⟩
def CT (l : Launch) (y : MethodName) (hd : Cond) (fr lo mc ms : Nat) (G : hG) (av : List Value) (f : hM) (P : Option Value → hM → Prop) (PX : String → hM → Prop) : Prop :=
  vx_Met l y (hd :: gW) { frames := fr, cells := mc, slots := ms, locals := lo } (hPre G av f) (hQ G P) (hX G PX) mc ms (hFr G)
def hB (p : Program) (l : Launch) (s : State) (m : MethodId) (args : Array Value) (meth : Method) (c : Code) (cc : ByteArray) (nL : Nat) (own : String) (G : hG) : Prop :=
  p.tables.exec = Jvm.exec ∧ c.code = cc ∧ c.maxLocals = nL ∧ s.vm.findClass own = some m.cls ∧ (∀ w ∈ gW, w.before args s = true) ∧ meth.locks = false ∧ hK G s ∧ l.stackTraces = false
theorem hp_start {l : Launch} (hl : l.stackTraces = false) {own : String} {y : MethodName} {cc : ByteArray} {maxL : Nat} {ret : Option FieldType} {fr lo mc ms : Nat} {G : hG} {av : List Value} {f : hM} {P : Option Value → hM → Prop} {PX : String → hM → Prop}
    (hy : plainName y.cls = true) (ho : y.cls = own) (hlen : (lg_sl av).length ≤ maxL)
    (body : ∀ (p : Program) (e : Env) (s : State) (m : MethodId) (args : Array Value) (below : List Frame) (meth : Method) (c : Code), hB p l s m args meth c cc maxL own G → meth.sig.returnType = ret → meth.name = y.name → (∀ x ∈ c.exceptionTable.toList, False) →
      hW G f s.heap → va_S (hFr G) s.heap s.heap [] → ∀ ls : Array Slot, lv_has ls maxL (lv_args 0 av) → W p l e { frames := fr, cells := mc, slots := ms, locals := lo } s m args below meth c s.heap [] 0 0 (vx_MQ below (hQ G P) (hX G PX) args s mc ms (hFr G)) (F0 m 0 ls [])) :
    CT l y (.code y cc maxL ret) fr lo mc ms G av f P PX := by
  refine vx_ofW (cc := cc) (maxL := maxL) (ret := ret) hy rfl ?_
  intro p e s m args below meth c s₁ B hml hout hv
  obtain ⟨rfl, hk, hw⟩ := hv
  have hts := atoms_spec (ws := (Cond.code y cc maxL ret) :: gW) B.pre
  have hown : s.vm.findClass own = some m.cls := by rw [← ho]; exact findClass_of_methodNamed B.named
  have hl2 := lv_entry av (n := maxL) hlen
  rw [lg_entry_eq]
  exact body p e s m _ below meth c ⟨B.exec, B.bytes, hml, hown, fun w h => hts w (List.mem_cons_of_mem _ h), B.notSynchronized, hk, hl⟩ B.returns (name_of_methodNamed B.named B.method).1 hout hw va_S.rf _ hl2
/-- the start of a method with handlers -/
theorem hp_startH {l : Launch} (hl : l.stackTraces = false) {own : String} {y : MethodName} {cc : ByteArray} {maxL : Nat} {ret : Option FieldType} {hh : List (Nat × Nat × Nat × Nat)} {fr lo mc ms : Nat} {G : hG} {av : List Value} {f : hM} {P : Option Value → hM → Prop} {PX : String → hM → Prop}
    (hy : plainName y.cls = true) (ho : y.cls = own) (hlen : (lg_sl av).length ≤ maxL)
    (body : ∀ (p : Program) (e : Env) (s : State) (m : MethodId) (args : Array Value) (below : List Frame) (meth : Method) (c : Code), hB p l s m args meth c cc maxL own G → meth.sig.returnType = ret → c.exceptionTable.toList = tableOf hh →
      hW G f s.heap → va_S (hFr G) s.heap s.heap [] → ∀ ls : Array Slot, lv_has ls maxL (lv_args 0 av) → W p l e { frames := fr, cells := mc, slots := ms, locals := lo } s m args below meth c s.heap [] 0 0 (vx_MQ below (hQ G P) (hX G PX) args s mc ms (hFr G)) (F0 m 0 ls [])) :
    CT l y (.codeWith y cc maxL ret hh) fr lo mc ms G av f P PX := by
  refine vx_ofWH (cc := cc) (maxL := maxL) (ret := ret) (hh := hh) hy rfl ?_
  intro p e s m args below meth c s₁ B hml hv
  obtain ⟨rfl, hk, hw⟩ := hv
  have hts := atoms_spec (ws := (Cond.codeWith y cc maxL ret hh) :: gW) B.pre
  have hown : s.vm.findClass own = some m.cls := by rw [← ho]; exact findClass_of_methodNamed B.named
  have hl2 := lv_entry av (n := maxL) hlen
  rw [lg_entry_eq]
  exact body p e s m _ below meth c ⟨B.exec, B.bytes, hml, hown, fun w h => hts w (List.mem_cons_of_mem _ h), B.notSynchronized, hk, hl⟩ B.returns (vx_table (x := y) B (hts _ List.mem_cons_self)) hw va_S.rf _ hl2
section Rows9
variable {p : Program} {l : Launch} {e : Env} {R : Room} {s : State} {m : MethodId} {args : Array Value} {below : List Frame} {meth : Method} {c : Code} {H : Heap} {locs : List Loc} {cells slots : Nat} {Q : State → Prop}
variable {cc : ByteArray} {nL pc : Nat} {own : String} {G : hG} {f : hM} {ls : Array Slot} {rest : List Value} {a : Nat}
theorem hp_get (B0 : hB p l s m args meth c cc nL own G) (hw : hW G f H) (ci : Nat) {C : String} {T : u_T} {N : Nat} (hc : hC[ci]? = some (C, T, N)) (hin : ∀ w ∈ u_ws C T N, w ∈ gW) {fs : List Value} (ha : f a = some (.inr (ci, fs))) (k : Nat) (hk : k < N) {index : Nat} (hlink : Cond.fieldLink own index (T k).1 (T k).2.1 (T k).2.2.1 ∈ gW) {v : Value} (hv : fs[k]? = some v) (hdg : decode cc pc = .ok (.getfield index, 3))
    (kk : W p l e R s m args below meth c H locs cells slots Q (F0 m (pc + 3) ls (v :: rest))) : W p l e R s m args below meth c H locs cells slots Q (F0 m pc ls (.ref a :: rest)) := by
  obtain ⟨hx, hb, hml, hown, hts, hlk, hk0, hl⟩ := B0
  obtain ⟨L, g, hf, hP, hD⟩ := hw
  obtain ⟨hL, hg⟩ := hf a _ ha
  obtain ⟨i, hi⟩ := va_pl_get (X := []) (f := g) hL
  rw [hg] at hi
  exact va_get (D := G.1) (cl := hC) (tys := hTy G) hx hb hts hin hown hk0.1 hP i hi hc k hk (hts _ hlink) (fun _ h9 => h9) hv hdg kk
theorem hp_getN (B0 : hB p l s m args meth c cc nL own G) (hw : hW G f H) (ci : Nat) {C : String} {T : u_T} {N : Nat} (hc : hC[ci]? = some (C, T, N)) (hin : ∀ w ∈ u_ws C T N, w ∈ gW) {fs : List Value} (ha : f a = some (.inr (ci, fs))) (k : Nat) (hk : k < N) {index : Nat} {host : String} (hlink : Cond.fieldLinkNest own index (T k).1 (T k).2.1 (T k).2.2.1 host ∈ hOt) {v : Value} (hv : fs[k]? = some v) (hdg : decode cc pc = .ok (.getfield index, 3))
    (kk : W p l e R s m args below meth c H locs cells slots Q (F0 m (pc + 3) ls (v :: rest))) : W p l e R s m args below meth c H locs cells slots Q (F0 m pc ls (.ref a :: rest)) := by
  obtain ⟨hx, hb, hml, hown, hts, hlk, hk0, hl⟩ := B0
  obtain ⟨L, g, hf, hP, hD⟩ := hw
  obtain ⟨hL, hg⟩ := hf a _ ha
  obtain ⟨i, hi⟩ := va_pl_get (X := []) (f := g) hL
  rw [hg] at hi
  exact va_getN (D := G.1) (cl := hC) (tys := hTy G) hx hb hts hin hown hk0.1 hP i hi hc k hk (va_Nw.use rfl (hk0.2.2.2.1 _ hlink)) (fun _ h9 => h9) hv hdg kk
theorem hW.set {e0 e1 : va_E} {L : List Nat} {g : Nat → va_E} {H1 : Heap} {i : Nat} (hf : ∀ a e, f a = some e → a ∈ L ∧ g a = e) (hD : va_D (hFr G) ([] ++ va_pl L g)) (hL : a ∈ L) (hi : ([] ++ va_pl L g)[i]? = some (a, g a)) (hP1 : va_P G.1 hC (([] ++ va_pl L g).set i (a, e1)) H1) (hD1 : va_D (hFr G) (([] ++ va_pl L g).set i (a, e1))) : hW G (va_up f a (some e1)) H1 := by
  rw [va_pl_set hD hL hi] at hP1 hD1
  refine ⟨L, va_up g a e1, fun b x hb => ?_, hP1, hD1⟩
  by_cases hba : b = a
  · rw [hba, va_up_self] at hb
    cases hb
    rw [hba, va_up_self]
    exact ⟨hL, rfl⟩
  · rw [va_up_ne _ _ hba] at hb
    rw [va_up_ne _ _ hba]
    exact hf b x hb
theorem hp_put (B0 : hB p l s m args meth c cc nL own G) (hw : hW G f H) (hS : va_S (hFr G) s.heap H locs) (ci : Nat) {C : String} {T : u_T} {N : Nat} (hc : hC[ci]? = some (C, T, N)) (hin : ∀ w ∈ u_ws C T N, w ∈ gW) (ty0 : Nat → FieldType) (hty : ∀ k, k < N → parseFieldDescriptor (T k).2.2.1 = some (ty0 k)) (hnm : ∀ a, a < N → ∀ b, b < N → a ≠ b → (T a).2.1 ≠ (T b).2.1) {fs fs1 : List Value} (ha : f a = some (.inr (ci, fs))) (k : Nat) (hk : k < N) {index : Nat} (hlink : Cond.fieldLink own index (T k).1 (T k).2.1 (T k).2.2.1 ∈ gW) (hfin : (T k).2.2.2 = false) {ty : FieldType} {v : Value} (hd : parseFieldDescriptor (T k).2.2.1 = some ty) (hn : narrow ty v = v) (hfit : fits ty v = true) (hl : k < fs.length) (hfs : fs.set k v = fs1) (hdg : decode cc pc = .ok (.putfield index, 3))
    (kk : ∀ (H1 : Heap) (locs1 : List Loc) (f1 : hM), f1 = va_up f a (some (.inr (ci, fs1))) → hW G f1 H1 → va_S (hFr G) s.heap H1 locs1 → W p l e R s m args below meth c H1 locs1 cells slots Q (F0 m (pc + 3) ls rest)) : W p l e R s m args below meth c H locs cells slots Q (F0 m pc ls (v :: .ref a :: rest)) := by
  obtain ⟨hx, hb, hml, hown, hts, hlk, hk0, hl9⟩ := B0
  obtain ⟨L, g, hf, hP, hD⟩ := hw
  obtain ⟨hL, hg⟩ := hf a _ ha
  obtain ⟨i, hi0⟩ := va_pl_get (X := []) (f := g) hL
  have hi := hi0
  rw [hg] at hi
  subst hfs
  exact va_put (D := G.1) (cl := hC) (tys := hTy G) hx hb hts hin ty0 hty hnm hown hk0.1 hP hD hS i hi hc k hk (hts _ hlink) (fun _ h9 => h9) hfin hd hn hfit hl hdg (fun H1 locs1 hP1 hD1 hS1 => kk H1 locs1 _ rfl (hW.set (e0 := .inr (ci, fs)) hf hD hL hi0 hP1 hD1) hS1)
theorem hp_putF (B0 : hB p l s m args meth c cc nL own G) (hw : hW G f H) (hS : va_S (hFr G) s.heap H locs) (ci : Nat) {C : String} {T : u_T} {N : Nat} (hc : hC[ci]? = some (C, T, N)) (hin : ∀ w ∈ u_ws C T N, w ∈ gW) (ty0 : Nat → FieldType) (hty : ∀ k, k < N → parseFieldDescriptor (T k).2.2.1 = some (ty0 k)) (hnm : ∀ a, a < N → ∀ b, b < N → a ≠ b → (T a).2.1 ≠ (T b).2.1) {fs fs1 : List Value} (ha : f a = some (.inr (ci, fs))) (k : Nat) (hk : k < N) {index : Nat} (hlink : Cond.fieldLink own index (T k).1 (T k).2.1 (T k).2.2.1 ∈ gW) (hfin : (T k).2.2.2 = true) (hin2 : meth.name = "<init>") (hdecl : (T k).1 = own) {ty : FieldType} {v : Value} (hd : parseFieldDescriptor (T k).2.2.1 = some ty) (hn : narrow ty v = v) (hfit : fits ty v = true) (hl : k < fs.length) (hfs : fs.set k v = fs1) (hdg : decode cc pc = .ok (.putfield index, 3))
    (kk : ∀ (H1 : Heap) (locs1 : List Loc) (f1 : hM), f1 = va_up f a (some (.inr (ci, fs1))) → hW G f1 H1 → va_S (hFr G) s.heap H1 locs1 → W p l e R s m args below meth c H1 locs1 cells slots Q (F0 m (pc + 3) ls rest)) : W p l e R s m args below meth c H locs cells slots Q (F0 m pc ls (v :: .ref a :: rest)) := by
  obtain ⟨hx, hb, hml, hown, hts, hlk, hk0, hl9⟩ := B0
  obtain ⟨L, g, hf, hP, hD⟩ := hw
  obtain ⟨hL, hg⟩ := hf a _ ha
  obtain ⟨i, hi0⟩ := va_pl_get (X := []) (f := g) hL
  have hi := hi0
  rw [hg] at hi
  subst hfs
  exact va_putF (D := G.1) (cl := hC) (tys := hTy G) hx hb hts hin ty0 hty hnm hown hk0.1 hP hD hS i hi hc k hk (hts _ hlink) (fun _ h9 => h9) hfin hin2 hdecl hd hn hfit hl hdg (fun H1 locs1 hP1 hD1 hS1 => kk H1 locs1 _ rfl (hW.set (e0 := .inr (ci, fs)) hf hD hL hi0 hP1 hD1) hS1)
theorem hp_putN (B0 : hB p l s m args meth c cc nL own G) (hw : hW G f H) (hS : va_S (hFr G) s.heap H locs) (ci : Nat) {C : String} {T : u_T} {N : Nat} (hc : hC[ci]? = some (C, T, N)) (hin : ∀ w ∈ u_ws C T N, w ∈ gW) (ty0 : Nat → FieldType) (hty : ∀ k, k < N → parseFieldDescriptor (T k).2.2.1 = some (ty0 k)) (hnm : ∀ a, a < N → ∀ b, b < N → a ≠ b → (T a).2.1 ≠ (T b).2.1) {fs fs1 : List Value} (ha : f a = some (.inr (ci, fs))) (k : Nat) (hk : k < N) {index : Nat} {host : String} (hlink : Cond.fieldLinkNest own index (T k).1 (T k).2.1 (T k).2.2.1 host ∈ hOt) (hfin : (T k).2.2.2 = false) {ty : FieldType} {v : Value} (hd : parseFieldDescriptor (T k).2.2.1 = some ty) (hn : narrow ty v = v) (hfit : fits ty v = true) (hl : k < fs.length) (hfs : fs.set k v = fs1) (hdg : decode cc pc = .ok (.putfield index, 3))
    (kk : ∀ (H1 : Heap) (locs1 : List Loc) (f1 : hM), f1 = va_up f a (some (.inr (ci, fs1))) → hW G f1 H1 → va_S (hFr G) s.heap H1 locs1 → W p l e R s m args below meth c H1 locs1 cells slots Q (F0 m (pc + 3) ls rest)) : W p l e R s m args below meth c H locs cells slots Q (F0 m pc ls (v :: .ref a :: rest)) := by
  obtain ⟨hx, hb, hml, hown, hts, hlk, hk0, hl9⟩ := B0
  obtain ⟨L, g, hf, hP, hD⟩ := hw
  obtain ⟨hL, hg⟩ := hf a _ ha
  obtain ⟨i, hi0⟩ := va_pl_get (X := []) (f := g) hL
  have hi := hi0
  rw [hg] at hi
  subst hfs
  exact va_putN (D := G.1) (cl := hC) (tys := hTy G) hx hb hts hin ty0 hty hnm hown hk0.1 hP hD hS i hi hc k hk (va_Nw.use rfl (hk0.2.2.2.1 _ hlink)) (fun _ h9 => h9) hfin hd hn hfit hl hdg (fun H1 locs1 hP1 hD1 hS1 => kk H1 locs1 _ rfl (hW.set (e0 := .inr (ci, fs)) hf hD hL hi0 hP1 hD1) hS1)
theorem hp_iald (B0 : hB p l s m args meth c cc nL own G) (hw : hW G f H) {n : Nat} {x : Nat → Int32} (ha : f a = some (.inl (cI G, n, .inl x))) {i : Int32} (hin : vp_in i n) (hdg : decode cc pc = .ok (.iaload, 1))
    (kk : W p l e R s m args below meth c H locs cells slots Q (F0 m (pc + 1) ls (.int (x i.toNatClampNeg) :: rest))) : W p l e R s m args below meth c H locs cells slots Q (F0 m pc ls (.int i :: .ref a :: rest)) := by
  obtain ⟨hx, hb, hml, hown, hts, hlk, hk0, hl⟩ := B0
  obtain ⟨L, g, hf, hP, hD⟩ := hw
  obtain ⟨hL, hg⟩ := hf a _ ha
  obtain ⟨j, hj⟩ := va_pl_get (X := []) (f := g) hL
  rw [hg] at hj
  exact va_iald (D := G.1) (cl := hC) (tys := hTy G) hx hb hk0.1 hP j 0 hj rfl hin hdg kk
theorem hp_zald (B0 : hB p l s m args meth c cc nL own G) (hw : hW G f H) {n : Nat} {x : Nat → Int32} (ha : f a = some (.inl (cZ G, n, .inl x))) {i : Int32} (hin : vp_in i n) (hdg : decode cc pc = .ok (.baload, 1))
    (kk : W p l e R s m args below meth c H locs cells slots Q (F0 m (pc + 1) ls (.int (x i.toNatClampNeg) :: rest))) : W p l e R s m args below meth c H locs cells slots Q (F0 m pc ls (.int i :: .ref a :: rest)) := by
  obtain ⟨hx, hb, hml, hown, hts, hlk, hk0, hl⟩ := B0
  obtain ⟨L, g, hf, hP, hD⟩ := hw
  obtain ⟨hL, hg⟩ := hf a _ ha
  obtain ⟨j, hj⟩ := va_pl_get (X := []) (f := g) hL
  rw [hg] at hj
  exact va_zald (D := G.1) (cl := hC) (tys := hTy G) hx hb hk0.1 hP j 1 hj rfl hin hdg kk
theorem hp_lald (B0 : hB p l s m args meth c cc nL own G) (hw : hW G f H) {n : Nat} {x : Nat → Int64} (ha : f a = some (.inl (cJ G, n, .inr (.inl x)))) {i : Int32} (hin : vp_in i n) (hdg : decode cc pc = .ok (.laload, 1))
    (kk : W p l e R s m args below meth c H locs cells slots Q (F0 m (pc + 1) ls (.long (x i.toNatClampNeg) :: rest))) : W p l e R s m args below meth c H locs cells slots Q (F0 m pc ls (.int i :: .ref a :: rest)) := by
  obtain ⟨hx, hb, hml, hown, hts, hlk, hk0, hl⟩ := B0
  obtain ⟨L, g, hf, hP, hD⟩ := hw
  obtain ⟨hL, hg⟩ := hf a _ ha
  obtain ⟨j, hj⟩ := va_pl_get (X := []) (f := g) hL
  rw [hg] at hj
  exact va_lald (D := G.1) (cl := hC) (tys := hTy G) hx hb hk0.1 hP j 2 hj rfl hin hdg kk
theorem hp_iast (B0 : hB p l s m args meth c cc nL own G) (hw : hW G f H) (hS : va_S (hFr G) s.heap H locs) {n : Nat} {x : Nat → Int32} (ha : f a = some (.inl (cI G, n, .inl x))) {i v : Int32} (hin : vp_in i n) (hdg : decode cc pc = .ok (.iastore, 1))
    (kk : ∀ (H1 : Heap) (locs1 : List Loc) (f1 : hM), f1 = va_up f a (some (.inl (cI G, n, .inl (upd x i.toNatClampNeg v)))) → hW G f1 H1 → va_S (hFr G) s.heap H1 locs1 → W p l e R s m args below meth c H1 locs1 cells slots Q (F0 m (pc + 1) ls rest)) : W p l e R s m args below meth c H locs cells slots Q (F0 m pc ls (.int v :: .int i :: .ref a :: rest)) := by
  obtain ⟨hx, hb, hml, hown, hts, hlk, hk0, hl9⟩ := B0
  obtain ⟨L, g, hf, hP, hD⟩ := hw
  obtain ⟨hL, hg⟩ := hf a _ ha
  obtain ⟨j, hj0⟩ := va_pl_get (X := []) (f := g) hL
  have hj := hj0
  rw [hg] at hj
  exact va_iast (D := G.1) (cl := hC) (tys := hTy G) hx hb hk0.1 hP hD hS j 0 hj rfl hin hdg (fun H1 locs1 hP1 hD1 hS1 => kk H1 locs1 _ rfl (hW.set (e0 := .inl (cI G, n, .inl x)) hf hD hL hj0 hP1 hD1) hS1)
theorem hp_zast (B0 : hB p l s m args meth c cc nL own G) (hw : hW G f H) (hS : va_S (hFr G) s.heap H locs) {n : Nat} {x : Nat → Int32} (ha : f a = some (.inl (cZ G, n, .inl x))) {i v : Int32} (hin : vp_in i n) (hdg : decode cc pc = .ok (.bastore, 1))
    (kk : ∀ (H1 : Heap) (locs1 : List Loc) (f1 : hM), f1 = va_up f a (some (.inl (cZ G, n, .inl (upd x i.toNatClampNeg (vp_nar .boolean v))))) → hW G f1 H1 → va_S (hFr G) s.heap H1 locs1 → W p l e R s m args below meth c H1 locs1 cells slots Q (F0 m (pc + 1) ls rest)) : W p l e R s m args below meth c H locs cells slots Q (F0 m pc ls (.int v :: .int i :: .ref a :: rest)) := by
  obtain ⟨hx, hb, hml, hown, hts, hlk, hk0, hl9⟩ := B0
  obtain ⟨L, g, hf, hP, hD⟩ := hw
  obtain ⟨hL, hg⟩ := hf a _ ha
  obtain ⟨j, hj0⟩ := va_pl_get (X := []) (f := g) hL
  have hj := hj0
  rw [hg] at hj
  exact va_zast (D := G.1) (cl := hC) (tys := hTy G) hx hb hk0.1 hP hD hS j 1 hj rfl hin hdg (fun H1 locs1 hP1 hD1 hS1 => kk H1 locs1 _ rfl (hW.set (e0 := .inl (cZ G, n, .inl x)) hf hD hL hj0 hP1 hD1) hS1)
theorem hp_last (B0 : hB p l s m args meth c cc nL own G) (hw : hW G f H) (hS : va_S (hFr G) s.heap H locs) {n : Nat} {x : Nat → Int64} (ha : f a = some (.inl (cJ G, n, .inr (.inl x)))) {i : Int32} {v : Int64} (hin : vp_in i n) (hdg : decode cc pc = .ok (.lastore, 1))
    (kk : ∀ (H1 : Heap) (locs1 : List Loc) (f1 : hM), f1 = va_up f a (some (.inl (cJ G, n, .inr (.inl (vp_updL x i.toNatClampNeg v))))) → hW G f1 H1 → va_S (hFr G) s.heap H1 locs1 → W p l e R s m args below meth c H1 locs1 cells slots Q (F0 m (pc + 1) ls rest)) : W p l e R s m args below meth c H locs cells slots Q (F0 m pc ls (.long v :: .int i :: .ref a :: rest)) := by
  obtain ⟨hx, hb, hml, hown, hts, hlk, hk0, hl9⟩ := B0
  obtain ⟨L, g, hf, hP, hD⟩ := hw
  obtain ⟨hL, hg⟩ := hf a _ ha
  obtain ⟨j, hj0⟩ := va_pl_get (X := []) (f := g) hL
  have hj := hj0
  rw [hg] at hj
  exact va_last (D := G.1) (cl := hC) (tys := hTy G) hx hb hk0.1 hP hD hS j 2 hj rfl hin hdg (fun H1 locs1 hP1 hD1 hS1 => kk H1 locs1 _ rfl (hW.set (e0 := .inl (cJ G, n, .inr (.inl x))) hf hD hL hj0 hP1 hD1) hS1)
end Rows9
end HP
end
section
/-! Making cells, calls, ends, throws, handlers. -/
section HQ9
variable {p : Program} {l : Launch} {e : Env} {R : Room} {s : State} {m : MethodId} {args : Array Value} {below : List Frame} {meth : Method} {c : Code} {H : Heap} {locs : List Loc} {cells slots : Nat} {Q : State → Prop}
variable {cc : ByteArray} {nL pc : Nat} {own : String} {G : hG} {f : hM} {ls : Array Slot} {rest : List Value} {a : Nat}
theorem hB.le (B0 : hB p l s m args meth c cc nL own G) : ∀ q : Nat, s.heap.size ≤ q → hFr G q := fun _ h => Nat.le_trans B0.2.2.2.2.2.2.1.2.2.2.2.2.2 h
theorem hpush_nin {L : List Nat} {g : Nat → va_E} {q : Nat} {e1 : va_E} {A : Nat → Prop} (hD1 : va_D A (([] ++ va_pl L g) ++ [(q, e1)])) : q ∉ L := fun hq => by
  obtain ⟨k, hk⟩ := va_pl_get (X := []) (f := g) hq
  have hl := (List.getElem?_eq_some_iff.mp hk).1
  have h1 : (([] ++ va_pl L g) ++ [(q, e1)])[k]? = some (q, g q) := by rw [List.getElem?_append_left hl]; exact hk
  have h2 : (([] ++ va_pl L g) ++ [(q, e1)])[([] ++ va_pl L g).length]? = some (q, e1) := by rw [List.getElem?_append_right (Nat.le_refl _), Nat.sub_self]; rfl
  have := hD1.1 _ _ _ _ h1 h2 rfl
  omega
theorem hW.push {L : List Nat} {g : Nat → va_E} {q : Nat} {e1 : va_E} {H1 : Heap} (hf : ∀ a e, f a = some e → a ∈ L ∧ g a = e) (hP1 : va_P G.1 hC (([] ++ va_pl L g) ++ [(q, e1)]) H1) (hD1 : va_D (hFr G) (([] ++ va_pl L g) ++ [(q, e1)])) : f q = none ∧ hW G (va_up f q (some e1)) H1 := by
  have hq : q ∉ L := hpush_nin hD1
  have e9 : (([] ++ va_pl L g) ++ [(q, e1)]) = va_pl (L ++ [q]) (va_up g q e1) := by rw [List.nil_append]; exact va_pl_push hq
  have h0 : f q = none := by
    cases h : f q with
    | none => rfl
    | some x => exact absurd (hf q x h).1 hq
  rw [e9] at hP1 hD1
  refine ⟨h0, L ++ [q], va_up g q e1, fun b x hb => ?_, hP1, hD1⟩
  by_cases hba : b = q
  · rw [hba, va_up_self] at hb
    cases hb
    rw [hba, va_up_self]
    exact ⟨List.mem_append_right _ List.mem_cons_self, rfl⟩
  · rw [va_up_ne _ _ hba] at hb
    rw [va_up_ne _ _ hba]
    obtain ⟨h1, h2⟩ := hf b x hb
    exact ⟨List.mem_append_left _ h1, h2⟩
theorem hp_new (B0 : hB p l s m args meth c cc nL own G) (hw : hW G f H) (hS : va_S (hFr G) s.heap H locs) (ci : Nat) {C : String} {T : u_T} {N : Nat} (hc : hC[ci]? = some (C, T, N)) (hin : ∀ w ∈ u_ws C T N, w ∈ gW) (ty0 : Nat → FieldType) (hty : ∀ k, k < N → parseFieldDescriptor (T k).2.2.1 = some (ty0 k)) {index : Nat} (hcl : Cond.classLink own index C ∈ gW) (hinst : Cond.instantiable C N ∈ gW) (hini : Cond.initialized C ∈ gW) {fs : List Value} (hfs : ∀ j, j < N → defaultValue (ty0 j) = vp_V fs j) (hcells : cells + 1 ≤ R.cells) (hslots : slots + N ≤ R.slots) (hdg : decode cc pc = .ok (.new index, 3))
    (kk : ∀ (q : Nat) (H1 : Heap) (f1 : hM), f q = none → f1 = va_up f q (some (.inr (ci, fs))) → hW G f1 H1 → va_S (hFr G) s.heap H1 locs → W p l e R s m args below meth c H1 locs (cells + 1) (slots + N) Q (F0 m (pc + 3) ls (.ref q :: rest))) : W p l e R s m args below meth c H locs cells slots Q (F0 m pc ls rest) := by
  have hA := B0.le
  obtain ⟨hx, hb, hml, hown, hts, hlk, hk0, hl9⟩ := B0
  obtain ⟨L, g, hf, hP, hD⟩ := hw
  exact va_new (D := G.1) (cl := hC) (tys := hTy G) (ws := [] ++ va_pl L g) hx hb hts hin ty0 hty hown (hts _ hcl) (hts _ hinst) (hts _ hini) hk0.1 hP hD hS hA hc hfs hcells hslots hdg (fun q H1 hP1 hD1 hS1 => by
    obtain ⟨h0, hw1⟩ := hW.push hf hP1 hD1
    exact kk q H1 _ h0 rfl hw1 hS1)
theorem hcls_of {U : State} {cA cB : ClassId} {ty : FieldType} (h1 : va_RA U cA ty) (h2 : va_RA U cB ty) (hp : ∀ C, ty ≠ .object C) : cA = cB := by
  cases ty <;> first | (exact absurd rfl (hp _)) | (exact Option.some.inj (Eq.trans (Eq.symm h1) h2))
theorem hp_newaI (B0 : hB p l s m args meth c cc nL own G) (hw : hW G f H) (hS : va_S (hFr G) s.heap H locs) (harr : Cond.arrayClass .int ∈ gW) {n : Int32} {N' : Nat} (hn : ¬ n < 0) (hN : n.toNatClampNeg = N') (hbytes : N' * componentBytes .int ≤ 536870912) (hcells : cells + 1 ≤ R.cells) (hslots : slots + N' ≤ R.slots) (hdg : decode cc pc = .ok (.newarray .int, 2))
    (kk : ∀ (q : Nat) (H1 : Heap) (f1 : hM), f q = none → f1 = va_up f q (some (.inl (cI G, N', .inl (fun _ => 0)))) → hW G f1 H1 → va_S (hFr G) s.heap H1 locs → W p l e R s m args below meth c H1 locs (cells + 1) (slots + N') Q (F0 m (pc + 2) ls (.ref q :: rest))) : W p l e R s m args below meth c H locs cells slots Q (F0 m pc ls (.int n :: rest)) := by
  have hA := B0.le
  obtain ⟨hx, hb, hml, hown, hts, hlk, hk0, hl9⟩ := B0
  obtain ⟨L, g, hf, hP, hD⟩ := hw
  refine va_newa (atype := .int) (ty := .int) (D := G.1) (cl := hC) (tys := hTy G) (ws := [] ++ va_pl L g) (a0 := (N', .inl (fun _ => 0))) hx hb (hts _ harr) rfl hk0.1 hP hD hS hA (fun cA => rfl) hn hN hbytes hcells hslots hdg (fun q cA H1 hK1 hP1 hD1 hS1 => ?_)
  have hcc : cA = cI G := hcls_of (hK1.2 3 (cA, .int) rfl).2 (hk0.1.2 0 (cI G, .int) rfl).2 (fun C h => by cases h)
  rw [hcc] at hP1 hD1
  obtain ⟨h0, hw1⟩ := hW.push hf hP1 hD1
  exact kk q H1 _ h0 rfl hw1 hS1
theorem hp_newaZ (B0 : hB p l s m args meth c cc nL own G) (hw : hW G f H) (hS : va_S (hFr G) s.heap H locs) (harr : Cond.arrayClass .boolean ∈ gW) {n : Int32} {N' : Nat} (hn : ¬ n < 0) (hN : n.toNatClampNeg = N') (hbytes : N' * componentBytes .boolean ≤ 536870912) (hcells : cells + 1 ≤ R.cells) (hslots : slots + N' ≤ R.slots) (hdg : decode cc pc = .ok (.newarray .boolean, 2))
    (kk : ∀ (q : Nat) (H1 : Heap) (f1 : hM), f q = none → f1 = va_up f q (some (.inl (cZ G, N', .inl (fun _ => 0)))) → hW G f1 H1 → va_S (hFr G) s.heap H1 locs → W p l e R s m args below meth c H1 locs (cells + 1) (slots + N') Q (F0 m (pc + 2) ls (.ref q :: rest))) : W p l e R s m args below meth c H locs cells slots Q (F0 m pc ls (.int n :: rest)) := by
  have hA := B0.le
  obtain ⟨hx, hb, hml, hown, hts, hlk, hk0, hl9⟩ := B0
  obtain ⟨L, g, hf, hP, hD⟩ := hw
  refine va_newa (atype := .boolean) (ty := .boolean) (D := G.1) (cl := hC) (tys := hTy G) (ws := [] ++ va_pl L g) (a0 := (N', .inl (fun _ => 0))) hx hb (hts _ harr) rfl hk0.1 hP hD hS hA (fun cA => rfl) hn hN hbytes hcells hslots hdg (fun q cA H1 hK1 hP1 hD1 hS1 => ?_)
  have hcc : cA = cZ G := hcls_of (hK1.2 3 (cA, .boolean) rfl).2 (hk0.1.2 1 (cZ G, .boolean) rfl).2 (fun C h => by cases h)
  rw [hcc] at hP1 hD1
  obtain ⟨h0, hw1⟩ := hW.push hf hP1 hD1
  exact kk q H1 _ h0 rfl hw1 hS1
theorem hp_newaJ (B0 : hB p l s m args meth c cc nL own G) (hw : hW G f H) (hS : va_S (hFr G) s.heap H locs) (harr : Cond.arrayClass .long ∈ gW) {n : Int32} {N' : Nat} (hn : ¬ n < 0) (hN : n.toNatClampNeg = N') (hbytes : N' * componentBytes .long ≤ 536870912) (hcells : cells + 1 ≤ R.cells) (hslots : slots + N' ≤ R.slots) (hdg : decode cc pc = .ok (.newarray .long, 2))
    (kk : ∀ (q : Nat) (H1 : Heap) (f1 : hM), f q = none → f1 = va_up f q (some (.inl (cJ G, N', .inr (.inl (fun _ => 0))))) → hW G f1 H1 → va_S (hFr G) s.heap H1 locs → W p l e R s m args below meth c H1 locs (cells + 1) (slots + N') Q (F0 m (pc + 2) ls (.ref q :: rest))) : W p l e R s m args below meth c H locs cells slots Q (F0 m pc ls (.int n :: rest)) := by
  have hA := B0.le
  obtain ⟨hx, hb, hml, hown, hts, hlk, hk0, hl9⟩ := B0
  obtain ⟨L, g, hf, hP, hD⟩ := hw
  refine va_newa (atype := .long) (ty := .long) (D := G.1) (cl := hC) (tys := hTy G) (ws := [] ++ va_pl L g) (a0 := (N', .inr (.inl (fun _ => 0)))) hx hb (hts _ harr) rfl hk0.1 hP hD hS hA (fun cA => rfl) hn hN hbytes hcells hslots hdg (fun q cA H1 hK1 hP1 hD1 hS1 => ?_)
  have hcc : cA = cJ G := hcls_of (hK1.2 3 (cA, .long) rfl).2 (hk0.1.2 2 (cJ G, .long) rfl).2 (fun C h => by cases h)
  rw [hcc] at hP1 hD1
  obtain ⟨h0, hw1⟩ := hW.push hf hP1 hD1
  exact kk q H1 _ h0 rfl hw1 hS1
theorem hp_alenI (B0 : hB p l s m args meth c cc nL own G) (hw : hW G f H) {n : Nat} {x : Nat → Int32} (ha : f a = some (.inl (cI G, n, .inl x))) {v : Int32} (hv : Int32.ofNat n = v) (hdg : decode cc pc = .ok (.arraylength, 1))
    (kk : W p l e R s m args below meth c H locs cells slots Q (F0 m (pc + 1) ls (.int v :: rest))) : W p l e R s m args below meth c H locs cells slots Q (F0 m pc ls (.ref a :: rest)) := by
  obtain ⟨hx, hb, hml, hown, hts, hlk, hk0, hl⟩ := B0
  obtain ⟨L, g, hf, hP, hD⟩ := hw
  obtain ⟨hL, hg⟩ := hf a _ ha
  obtain ⟨j, hj⟩ := va_pl_get (X := []) (f := g) hL
  rw [hg] at hj
  exact va_alen (D := G.1) (cl := hC) (tys := hTy G) hx hb hk0.1 hP j 0 hj (ty := .int) rfl hv hdg kk
theorem hp_alenZ (B0 : hB p l s m args meth c cc nL own G) (hw : hW G f H) {n : Nat} {x : Nat → Int32} (ha : f a = some (.inl (cZ G, n, .inl x))) {v : Int32} (hv : Int32.ofNat n = v) (hdg : decode cc pc = .ok (.arraylength, 1))
    (kk : W p l e R s m args below meth c H locs cells slots Q (F0 m (pc + 1) ls (.int v :: rest))) : W p l e R s m args below meth c H locs cells slots Q (F0 m pc ls (.ref a :: rest)) := by
  obtain ⟨hx, hb, hml, hown, hts, hlk, hk0, hl⟩ := B0
  obtain ⟨L, g, hf, hP, hD⟩ := hw
  obtain ⟨hL, hg⟩ := hf a _ ha
  obtain ⟨j, hj⟩ := va_pl_get (X := []) (f := g) hL
  rw [hg] at hj
  exact va_alen (D := G.1) (cl := hC) (tys := hTy G) hx hb hk0.1 hP j 1 hj (ty := .boolean) rfl hv hdg kk
/-! calls -/
theorem hp_go {mc ms : Nat} {st0 : List Value} {av : Array Value} {P : Option Value → hM → Prop} {PX : String → hM → Prop} (B0 : hB p l s m args meth c cc nL own G) (hS : va_S (hFr G) s.heap H locs)
    (hr : vx_Run p l e R s m args below meth c H locs cells slots mc ms (F0 m pc ls st0) rest (hQ G P av) (hX G PX) (hFr G))
    (kx : ∀ (E : String) (ce : Cell) (q9 : Addr) (f1 : hM) (H1 : Heap) (locs1 : List Loc), PX E f1 → hW G f1 H1 → va_S (hFr G) s.heap H1 locs1 → H1[q9]? = some ce → ce.vm = .none → s.vm.findClass E = some ce.cls → vx_W p l e R s m args below meth c H1 locs1 (cells + mc) (slots + ms) Q (F0 m pc ls rest) q9)
    (kk : ∀ (v : Option Value) (f1 : hM) (H1 : Heap) (locs1 : List Loc), P v f1 → hW G f1 H1 → va_S (hFr G) s.heap H1 locs1 → W p l e R s m args below meth c H1 locs1 (cells + mc) (slots + ms) Q (F0 m (pc + 3) ls (v.toList ++ rest))) : W p l e R s m args below meth c H locs cells slots Q (F0 m pc ls st0) := by
  intro T hT X
  rcases hr T hT X with ⟨v, st₀, t, T', L, h0, X', hL, e1, e2, ⟨⟨v2, f1, hv, hp, hw1⟩, hF⟩, st⟩ | ⟨q, st₀, t, T', L, E, ce, h0, X', hL, e1, e2, ⟨⟨f1, hp, hw1⟩, hF⟩, hce, hcv, hcl, st⟩
  · cases hv
    obtain ⟨k1, k2, k3⟩ := vx_keep h0 e1 hS (fun _ _ h => h) (fun _ h => h) hL hF
    obtain ⟨t2, a1, b1⟩ := kk v f1 T'.heap (locs ++ L) hp (by rw [e1]; exact hw1) k3 T' rfl X'
    exact ⟨t2, st t2 a1, b1⟩
  · obtain ⟨k1, k2, k3⟩ := vx_keep h0 e1 hS (fun _ _ h => h) (fun _ h => h) hL hF
    obtain ⟨t2, a1, b1⟩ := kx E ce q f1 T'.heap (locs ++ L) hp (by rw [e1]; exact hw1) k3 (by rw [e1]; exact hce) hcv hcl T' rfl X'
    exact ⟨t2, st.trans a1, b1⟩
theorem hPc_of {av : List Value} (B0 : hB p l s m args meth c cc nL own G) (hw : hW G f H) (hS : va_S (hFr G) s.heap H locs) : ∀ U : State, U.heap = H → s.WarmedH U.vm → hPre G av f av.toArray U := fun U hU hW9 =>
  ⟨rfl, hK.warm B0.2.2.2.2.2.2.1 hW9 (by rw [hU]; exact hS.1) (fun q h1 h2 => by rw [hU]; exact hS.2.1 q h1 h2), by rw [hU]; exact hw⟩
theorem hcell_of {ci : Nat} {C : String} {T : u_T} {N : Nat} {fs : List Value} {b : Nat} (B0 : hB p l s m args meth c cc nL own G) (hw : hW G f H) (hc : hC[ci]? = some (C, T, N)) (hb : f b = some (.inr (ci, fs))) : ∃ cellB : Cell, H[b]? = some cellB ∧ cellB.vm.isStatics = false ∧ s.vm.findClass C = some cellB.cls := by
  obtain ⟨L, g, hf, hP, hD⟩ := hw
  obtain ⟨hL, hg⟩ := hf b _ hb
  obtain ⟨j, hj⟩ := va_pl_get (X := []) (f := g) hL
  rw [hg] at hj
  exact va_recv (q := (C, T, N)) B0.2.2.2.2.2.2.1.1 hP hc hj
/-- an instance method: its words, once for all calls -/
def hMV (y : MethodName) (bytes : ByteArray) (maxL : Nat) (ret : Option FieldType) (n : Nat) : Prop :=
  Cond.code y bytes maxL ret ∈ gW ∧ Cond.instanceMethod y ∈ gW ∧ Cond.selects y.cls y y ∈ gW ∧ Cond.initialized y.cls ∈ gW ∧ (y.cls ≠ "java/lang/invoke/MethodHandle" ∧ y.cls ≠ "java/lang/invoke/VarHandle") ∧ (parseMethodDescriptor y.desc).map (fun d => d.parameters.length) = some n
def hMS (y : MethodName) (bytes : ByteArray) (maxL : Nat) (ret : Option FieldType) (n : Nat) : Prop :=
  Cond.code y bytes maxL ret ∈ gW ∧ Cond.static y ∈ gW ∧ Cond.initialized y.cls ∈ gW ∧ (y.cls ≠ "java/lang/invoke/MethodHandle" ∧ y.cls ≠ "java/lang/invoke/VarHandle") ∧ (parseMethodDescriptor y.desc).map (fun d => d.parameters.length) = some n
def hMI (y : MethodName) (bytes : ByteArray) (maxL : Nat) (n : Nat) : Prop :=
  Cond.code y bytes maxL none ∈ gW ∧ Cond.instanceMethod y ∈ gW ∧ Cond.initialized y.cls ∈ gW ∧ y.name = "<init>" ∧ (y.cls ≠ "java/lang/invoke/MethodHandle" ∧ y.cls ≠ "java/lang/invoke/VarHandle") ∧ (parseMethodDescriptor y.desc).map (fun d => d.parameters.length) = some n
theorem hlen_of {y : MethodName} {n : Nat} (h2 : (parseMethodDescriptor y.desc).map (fun d => d.parameters.length) = some n) : ∀ sig, parseMethodDescriptor y.desc = some sig → n = sig.parameters.length := fun sig h => by
  rw [h] at h2
  exact (Option.some.inj h2).symm
theorem hp_V {y : MethodName} {bytes : ByteArray} {maxL n index : Nat} {ret : Option FieldType} {fr lo mc ms ci : Nat} {T : u_T} {N : Nat} {fs As st0 : List Value} {b : Nat} {P : Option Value → hM → Prop} {PX : String → hM → Prop} (B0 : hB p l s m args meth c cc nL own G) (hw : hW G f H) (hS : va_S (hFr G) s.heap H locs)
    (hM9 : CT l y (.code y bytes maxL ret) fr lo mc ms G (.ref b :: As) f P PX) (hm : hMV y bytes maxL ret n) (hlm : Cond.methodLink own index y ∈ gW) (hc : hC[ci]? = some (y.cls, T, N)) (hb : f b = some (.inr (ci, fs))) (hst : st0 = As.reverse ++ .ref b :: rest) (hn : As.length = n) (hsz : ls.size = nL) (hroom : (rest.map fun v => v.category).sum ≤ 8)
    (hR : (fr + 1 ≤ R.frames ∧ 8 + (maxL + 11) + lo ≤ R.locals) ∧ cells + mc ≤ R.cells ∧ slots + ms ≤ R.slots) (hdg : decode cc pc = .ok (.invokevirtual index, 3))
    (kx : ∀ (E : String) (ce : Cell) (q9 : Addr) (f1 : hM) (H1 : Heap) (locs1 : List Loc), PX E f1 → hW G f1 H1 → va_S (hFr G) s.heap H1 locs1 → H1[q9]? = some ce → ce.vm = .none → s.vm.findClass E = some ce.cls → vx_W p l e R s m args below meth c H1 locs1 (cells + mc) (slots + ms) Q (F0 m pc ls rest) q9)
    (kk : ∀ (v : Option Value) (f1 : hM) (H1 : Heap) (locs1 : List Loc), P v f1 → hW G f1 H1 → va_S (hFr G) s.heap H1 locs1 → W p l e R s m args below meth c H1 locs1 (cells + mc) (slots + ms) Q (F0 m (pc + 3) ls (v.toList ++ rest))) : W p l e R s m args below meth c H locs cells slots Q (F0 m pc ls st0) := by
  have B1 := B0
  obtain ⟨hx, hb9, hml, hown, hts, hlk, hk0, hl⟩ := B0
  obtain ⟨m1, m2, m3, m4, m5, m6⟩ := hm
  exact hp_go B1 hS (vx_runV (C := y.cls) (ws := Cond.code y bytes maxL ret :: gW) (rm := { frames := fr, cells := mc, slots := ms, locals := lo }) (Ts := gW) (bytes := bytes) (maxL := maxL) (ret := ret) (n := n) (As := As) (rest := rest) ⟨hx, hb9, hml, hown, hts⟩ hM9
    ⟨⟨rfl, rfl, hR.1.1, hR.1.2, gW_pay hts m1, List.mem_cons_self, hts _ m1, hts _ m4, m5, hlen_of m6, hts _ hlm⟩, hts _ m2, hts _ m3⟩
    ⟨hPre.blind, hcell_of B1 hw hc hb, hPc_of B1 hw hS⟩ rfl hn hsz hst (lv_room hroom) hdg hR.2) kx kk
theorem hp_S {y : MethodName} {bytes : ByteArray} {maxL n index : Nat} {ret : Option FieldType} {fr lo mc ms : Nat} {As st0 : List Value} {P : Option Value → hM → Prop} {PX : String → hM → Prop} (B0 : hB p l s m args meth c cc nL own G) (hw : hW G f H) (hS : va_S (hFr G) s.heap H locs)
    (hM9 : CT l y (.code y bytes maxL ret) fr lo mc ms G As f P PX) (hm : hMS y bytes maxL ret n) (hlm : Cond.methodLink own index y ∈ gW) (hst : st0 = As.reverse ++ rest) (hn : As.length = n) (hsz : ls.size = nL) (hroom : (rest.map fun v => v.category).sum ≤ 8)
    (hR : (fr + 1 ≤ R.frames ∧ 8 + (maxL + 11) + lo ≤ R.locals) ∧ cells + mc ≤ R.cells ∧ slots + ms ≤ R.slots) (hdg : decode cc pc = .ok (.invokestatic index, 3))
    (kx : ∀ (E : String) (ce : Cell) (q9 : Addr) (f1 : hM) (H1 : Heap) (locs1 : List Loc), PX E f1 → hW G f1 H1 → va_S (hFr G) s.heap H1 locs1 → H1[q9]? = some ce → ce.vm = .none → s.vm.findClass E = some ce.cls → vx_W p l e R s m args below meth c H1 locs1 (cells + mc) (slots + ms) Q (F0 m pc ls rest) q9)
    (kk : ∀ (v : Option Value) (f1 : hM) (H1 : Heap) (locs1 : List Loc), P v f1 → hW G f1 H1 → va_S (hFr G) s.heap H1 locs1 → W p l e R s m args below meth c H1 locs1 (cells + mc) (slots + ms) Q (F0 m (pc + 3) ls (v.toList ++ rest))) : W p l e R s m args below meth c H locs cells slots Q (F0 m pc ls st0) := by
  have B1 := B0
  obtain ⟨hx, hb9, hml, hown, hts, hlk, hk0, hl⟩ := B0
  obtain ⟨m1, m2, m4, m5, m6⟩ := hm
  exact hp_go B1 hS (vx_runS (ws := Cond.code y bytes maxL ret :: gW) (rm := { frames := fr, cells := mc, slots := ms, locals := lo }) (Ts := gW) (bytes := bytes) (maxL := maxL) (ret := ret) (n := n) (As := As) (rest := rest) ⟨hx, hb9, hml, hown, hts⟩ hM9
    ⟨⟨rfl, rfl, hR.1.1, hR.1.2, gW_pay hts m1, List.mem_cons_self, hts _ m1, hts _ m4, m5, hlen_of m6, hts _ hlm⟩, hts _ m2⟩
    ⟨hPre.blind, hPc_of B1 hw hS⟩ rfl hn hsz hst (lv_room hroom) hdg hR.2) kx kk
theorem hp_I {y : MethodName} {bytes : ByteArray} {maxL n index : Nat} {fr lo mc ms : Nat} {As st0 : List Value} {b : Nat} {P : Option Value → hM → Prop} {PX : String → hM → Prop} (B0 : hB p l s m args meth c cc nL own G) (hw : hW G f H) (hS : va_S (hFr G) s.heap H locs)
    (hM9 : CT l y (.code y bytes maxL none) fr lo mc ms G (.ref b :: As) f P PX) (hm : hMI y bytes maxL n) (hlm : Cond.methodLink own index y ∈ gW) (hst : st0 = As.reverse ++ .ref b :: rest) (hn : As.length = n) (hsz : ls.size = nL) (hroom : (rest.map fun v => v.category).sum ≤ 8)
    (hR : (fr + 1 ≤ R.frames ∧ 8 + (maxL + 11) + lo ≤ R.locals) ∧ cells + mc ≤ R.cells ∧ slots + ms ≤ R.slots) (hdg : decode cc pc = .ok (.invokespecial index, 3))
    (kx : ∀ (E : String) (ce : Cell) (q9 : Addr) (f1 : hM) (H1 : Heap) (locs1 : List Loc), PX E f1 → hW G f1 H1 → va_S (hFr G) s.heap H1 locs1 → H1[q9]? = some ce → ce.vm = .none → s.vm.findClass E = some ce.cls → vx_W p l e R s m args below meth c H1 locs1 (cells + mc) (slots + ms) Q (F0 m pc ls rest) q9)
    (kk : ∀ (v : Option Value) (f1 : hM) (H1 : Heap) (locs1 : List Loc), P v f1 → hW G f1 H1 → va_S (hFr G) s.heap H1 locs1 → W p l e R s m args below meth c H1 locs1 (cells + mc) (slots + ms) Q (F0 m (pc + 3) ls (v.toList ++ rest))) : W p l e R s m args below meth c H locs cells slots Q (F0 m pc ls st0) := by
  have B1 := B0
  obtain ⟨hx, hb9, hml, hown, hts, hlk, hk0, hl⟩ := B0
  obtain ⟨m1, m2, m4, m7, m5, m6⟩ := hm
  exact hp_go B1 hS (vx_runI (ws := Cond.code y bytes maxL none :: gW) (rm := { frames := fr, cells := mc, slots := ms, locals := lo }) (Ts := gW) (bytes := bytes) (maxL := maxL) (n := n) (As := As) (rest := rest) ⟨hx, hb9, hml, hown, hts⟩ hM9
    ⟨⟨rfl, rfl, hR.1.1, hR.1.2, gW_pay hts m1, List.mem_cons_self, hts _ m1, hts _ m4, m5, hlen_of m6, hts _ hlm⟩, m7, hts _ m2⟩
    ⟨hPre.blind, hPc_of B1 hw hS⟩ rfl hn hsz hst (lv_room hroom) hdg hR.2) kx kk
theorem hp_IN {host : String} {y : MethodName} {bytes : ByteArray} {maxL n index : Nat} {fr lo mc ms : Nat} {As st0 : List Value} {b : Nat} {P : Option Value → hM → Prop} {PX : String → hM → Prop} (B0 : hB p l s m args meth c cc nL own G) (hw : hW G f H) (hS : va_S (hFr G) s.heap H locs)
    (hM9 : CT l y (.code y bytes maxL none) fr lo mc ms G (.ref b :: As) f P PX) (hm : hMI y bytes maxL n) (hlm : Cond.methodLinkNest own index y host ∈ hOt) (hst : st0 = As.reverse ++ .ref b :: rest) (hn : As.length = n) (hsz : ls.size = nL) (hroom : (rest.map fun v => v.category).sum ≤ 8)
    (hR : (fr + 1 ≤ R.frames ∧ 8 + (maxL + 11) + lo ≤ R.locals) ∧ cells + mc ≤ R.cells ∧ slots + ms ≤ R.slots) (hdg : decode cc pc = .ok (.invokespecial index, 3))
    (kx : ∀ (E : String) (ce : Cell) (q9 : Addr) (f1 : hM) (H1 : Heap) (locs1 : List Loc), PX E f1 → hW G f1 H1 → va_S (hFr G) s.heap H1 locs1 → H1[q9]? = some ce → ce.vm = .none → s.vm.findClass E = some ce.cls → vx_W p l e R s m args below meth c H1 locs1 (cells + mc) (slots + ms) Q (F0 m pc ls rest) q9)
    (kk : ∀ (v : Option Value) (f1 : hM) (H1 : Heap) (locs1 : List Loc), P v f1 → hW G f1 H1 → va_S (hFr G) s.heap H1 locs1 → W p l e R s m args below meth c H1 locs1 (cells + mc) (slots + ms) Q (F0 m (pc + 3) ls (v.toList ++ rest))) : W p l e R s m args below meth c H locs cells slots Q (F0 m pc ls st0) := by
  have B1 := B0
  obtain ⟨hx, hb9, hml, hown, hts, hlk, hk0, hl⟩ := B0
  obtain ⟨m1, m2, m4, m7, m5, m6⟩ := hm
  exact hp_go B1 hS (vx_runIN (host := host) (ws := Cond.code y bytes maxL none :: gW) (rm := { frames := fr, cells := mc, slots := ms, locals := lo }) (Ts := gW) (bytes := bytes) (maxL := maxL) (n := n) (As := As) (rest := rest) ⟨hx, hb9, hml, hown, hts⟩ hM9
    ⟨⟨⟨rfl, rfl, hR.1.1, hR.1.2, gW_pay hts m1, List.mem_cons_self⟩, hts _ m1, hts _ m4, m5, hlen_of m6, va_Nw.use rfl (hk0.2.2.2.1 _ hlm)⟩, m7, hts _ m2⟩
    ⟨hPre.blind, hPc_of B1 hw hS⟩ rfl hn hsz hst (lv_room hroom) hdg hR.2) kx kk
/-! ends -/
variable {P : Option Value → hM → Prop} {PX : String → hM → Prop} {mc ms : Nat}
theorem hp_iret {v : Int32} (B0 : hB p l s m args meth c cc nL own G) (hw : hW G f H) (hS : va_S (hFr G) s.heap H locs) (hr : meth.sig.returnType = some .int) (hcs : cells ≤ mc ∧ slots ≤ ms) (hdg : decode cc pc = .ok (.ireturn, 1)) (hP : P (some (.int v)) f) : W p l e R s m args below meth c H locs cells slots (vx_MQ below (hQ G P) (hX G PX) args s mc ms (hFr G)) (F0 m pc ls [.int v]) := by
  obtain ⟨hx, hb, hml, hown, hts, hlk, hk0, hl⟩ := B0
  exact W.widen hcs.1 hcs.2 (vx_ret (W.iret (v := v) hx hb hr (fun t ht _ => ⟨⟨_, f, rfl, hP, by rw [ht]; exact hw⟩, hS.F ht⟩) hS.2.2 hdg hlk))
theorem hp_zret {v : Int32} (B0 : hB p l s m args meth c cc nL own G) (hw : hW G f H) (hS : va_S (hFr G) s.heap H locs) (hr : meth.sig.returnType = some .boolean) (hcs : cells ≤ mc ∧ slots ≤ ms) (hn : narrow .boolean (.int v) = .int v) (hdg : decode cc pc = .ok (.ireturn, 1)) (hP : P (some (.int v)) f) : W p l e R s m args below meth c H locs cells slots (vx_MQ below (hQ G P) (hX G PX) args s mc ms (hFr G)) (F0 m pc ls [.int v]) := by
  obtain ⟨hx, hb, hml, hown, hts, hlk, hk0, hl⟩ := B0
  exact W.widen hcs.1 hcs.2 (vx_ret (W.zret (v := v) (ty := .boolean) hx hb hr hn (fun t ht _ => ⟨⟨_, f, rfl, hP, by rw [ht]; exact hw⟩, hS.F ht⟩) hS.2.2 hdg hlk))
theorem hp_vret (B0 : hB p l s m args meth c cc nL own G) (hw : hW G f H) (hS : va_S (hFr G) s.heap H locs) (hr : meth.sig.returnType = none) (hcs : cells ≤ mc ∧ slots ≤ ms) (hdg : decode cc pc = .ok (.return_, 1)) (hP : P none f) : W p l e R s m args below meth c H locs cells slots (vx_MQ below (hQ G P) (hX G PX) args s mc ms (hFr G)) (F0 m pc ls []) := by
  obtain ⟨hx, hb, hml, hown, hts, hlk, hk0, hl⟩ := B0
  exact W.widen hcs.1 hcs.2 (vx_ret (W.vret hx hb hr (fun t ht _ => ⟨⟨_, f, rfl, hP, by rw [ht]; exact hw⟩, hS.F ht⟩) hS.2.2 hdg hlk))
theorem hp_aret {v : Value} {rt : FieldType} (B0 : hB p l s m args meth c cc nL own G) (hw : hW G f H) (hS : va_S (hFr G) s.heap H locs) (hr : meth.sig.returnType = some rt) (hrt : (∃ n, rt = .object n) ∨ ∃ t, rt = .array t) (hv : v = .null ∨ ∃ a, v = .ref a) (hcs : cells ≤ mc ∧ slots ≤ ms) (hdg : decode cc pc = .ok (.areturn, 1)) (hP : P (some v) f) : W p l e R s m args below meth c H locs cells slots (vx_MQ below (hQ G P) (hX G PX) args s mc ms (hFr G)) (F0 m pc ls [v]) := by
  obtain ⟨hx, hb, hml, hown, hts, hlk, hk0, hl⟩ := B0
  exact W.widen hcs.1 hcs.2 (vx_ret (W.aret (v := v) hx hb hr hrt hv (fun t ht _ => ⟨⟨_, f, rfl, hP, by rw [ht]; exact hw⟩, hS.F ht⟩) hS.2.2 hdg hlk))
theorem hp_lret {v : Int64} (B0 : hB p l s m args meth c cc nL own G) (hw : hW G f H) (hS : va_S (hFr G) s.heap H locs) (hr : meth.sig.returnType = some .long) (hcs : cells ≤ mc ∧ slots ≤ ms) (hdg : decode cc pc = .ok (.lreturn, 1)) (hP : P (some (.long v)) f) : W p l e R s m args below meth c H locs cells slots (vx_MQ below (hQ G P) (hX G PX) args s mc ms (hFr G)) (F0 m pc ls [.long v]) := by
  obtain ⟨hx, hb, hml, hown, hts, hlk, hk0, hl⟩ := B0
  exact W.widen hcs.1 hcs.2 (vx_ret (W.lret (v := v) hx hb hr (fun t ht _ => ⟨⟨_, f, rfl, hP, by rw [ht]; exact hw⟩, hS.F ht⟩) hS.2.2 hdg hlk))
/-- a callee's throw goes on to the caller -/
theorem hp_out {E : String} {ce : Cell} {q : Addr} (B0 : hB p l s m args meth c cc nL own G) (hw : hW G f H) (hS : va_S (hFr G) s.heap H locs) (hout : ∀ x ∈ c.exceptionTable.toList, False) (hce : H[q]? = some ce) (hcv : ce.vm = .none) (hcl : s.vm.findClass E = some ce.cls) (hcs : cells ≤ mc ∧ slots ≤ ms) (hP : PX E f) : vx_W p l e R s m args below meth c H locs cells slots (vx_MQ below (hQ G P) (hX G PX) args s mc ms (hFr G)) (F0 m pc ls rest) q := by
  obtain ⟨hx, hb, hml, hown, hts, hlk, hk0, hl⟩ := B0
  exact vx_out (fun x h => (hout x h).elim) hlk hce hcv hcl (fun t ht _ => ⟨⟨f, hP, by rw [ht]; exact hw⟩, hS.F ht⟩) hS.2.2 hcs.1 hcs.2
/-- the words of a throw -/
theorem hat_of {own cls : String} {ic : Nat} {names : List String} {args : Array Value} {s : State} {G : hG} (hts : ∀ w ∈ gW, w.before args s = true) (hk0 : hK G s) (h1 : ∀ w ∈ (vx_atS own ic cls names).filter goodWord, w ∈ gW) (h2 : ∀ w ∈ (vx_atS own ic cls names).filter (fun w => !goodWord w), w ∈ hOt) : ∀ w ∈ vx_atS own ic cls names, w.before args s = true := by
  intro w hw
  by_cases g : goodWord w = true
  · exact hts w (h1 w (List.mem_filter.mpr ⟨hw, g⟩))
  · have h9 : w ∈ hOt := h2 w (List.mem_filter.mpr ⟨hw, by cases hg : goodWord w with | true => exact absurd hg g | false => rfl⟩)
    exact va_Nw.use (hOw_tabs (List.mem_filter.mp h9).2) (hk0.2.2.2.1 w h9)
theorem hp_throw {cls text : String} {names : List String} {ik is ic : Nat} (B0 : hB p l s m args meth c cc nL own G) (hw : hW G f H) (hS : va_S (hFr G) s.heap H locs) (hout : ∀ x ∈ c.exceptionTable.toList, False)
    (hn9 : Bundle.fit cls = true ∧ (∀ n ∈ names, Bundle.fit n = true)) (hk : Cond.classLink own ik cls ∈ gW) (hini : Cond.initialized cls ∈ gW) (hstr : (own, is, text) ∈ hStr)
    (h1 : ∀ w ∈ (vx_atS own ic cls names).filter goodWord, w ∈ gW) (h2 : ∀ w ∈ (vx_atS own ic cls names).filter (fun w => !goodWord w), w ∈ hOt) (hgood : ∀ w ∈ Cond.classLink own ik cls :: Cond.initialized cls :: vx_atS own ic cls names, vx_ot w = true)
    (hsz : ls.size = nL) (d0 : decode cc pc = .ok (.new ik, 3)) (d3 : decode cc (pc + 3) = .ok (.dup, 1)) (d4 : decode cc (pc + 4) = .ok (.ldc is, 2)) (d6 : decode cc (pc + 6) = .ok (.invokespecial ic, 3)) (d9 : decode cc (pc + 9) = .ok (.athrow, 1))
    (hR : (names.length + 3 < R.frames ∧ (rest.map fun v => v.category).sum + (13 * (names.length + 1) + 43) ≤ R.locals) ∧ cells + 1 ≤ R.cells ∧ slots + 6 ≤ R.slots) (hcs : cells + 1 ≤ mc ∧ slots + 6 ≤ ms) (hP : PX cls f) :
    W p l e R s m args below meth c H locs cells slots (vx_MQ below (hQ G P) (hX G PX) args s mc ms (hFr G)) (F0 m pc ls rest) := by
  obtain ⟨hx, hb, hml, hown, hts, hlk, hk0, hl⟩ := B0
  obtain ⟨sa, hsa⟩ := hk0.2.2.2.2.1 _ hstr
  exact vx_throwS hx hb hl (own := own) (cls := cls) (text := text) (names := names) (ik := ik) (is := is) (ic := ic) (sa := sa) (A := hFr G) hown hn9.1 hn9.2 (hts _ hk) (hts _ hini) hsa (hat_of hts hk0 h1 h2) hgood hk0.2.1 hk0.2.2.1 hS (hsz.trans hml.symm) d0 d3 d4 d6 d9
    (fun x h => (hout x h).elim) hR.1.1 hR.1.2 hR.2.1 hR.2.2 hlk (fun t _ z1 z2 => by
      refine ⟨⟨f, hP, ?_⟩, Nat.le_trans hS.1 z1, fun q g1 g2 => ?_⟩
      · obtain ⟨L, g, hf, hP9, hD⟩ := hw
        exact ⟨L, g, hf, hP9.kept (fun k q hk9 => z2 q.1 (hP9 k q hk9).lt), hD⟩
      · rw [z2 q (Nat.lt_of_lt_of_le g1 hS.1)]
        exact hS.2.1 q g1 g2) hS.2.2 hcs.1 hcs.2
/-- a concrete number on the stack by its name -/
theorem hp_c {x v : Int32} (h : x = v) (k : W p l e R s m args below meth c H locs cells slots Q (F0 m pc ls (.int v :: rest))) : W p l e R s m args below meth c H locs cells slots Q (F0 m pc ls (.int x :: rest)) := by rw [h]; exact k
end HQ9
/-! natives: arraycopy, clone; a static call of a method with handlers; a throw that a handler takes -/
section HQ10
variable {p : Program} {l : Launch} {e : Env} {R : Room} {s : State} {m : MethodId} {args : Array Value} {below : List Frame} {meth : Method} {c : Code} {H : Heap} {locs : List Loc} {cells slots : Nat} {Q : State → Prop}
variable {cc : ByteArray} {nL pc : Nat} {own : String} {G : hG} {f : hM} {ls : Array Slot} {rest : List Value} {a : Nat}
theorem hp_copyI {index a0 n0 n1 : Nat} {x y : Nat → Int32} {sp dp n : Int32} (B0 : hB p l s m args meth c cc nL own G) (hw : hW G f H) (hS : va_S (hFr G) s.heap H locs) (hsz : ls.size = nL) (hlm : Cond.methodLink own index arraycopyName ∈ gW) (hnat : Cond.native arraycopyName ∈ gW) (hst : Cond.static arraycopyName ∈ gW) (hini : Cond.initialized "java/lang/System" ∈ gW)
    (ha0 : f a0 = some (.inl (cI G, n0, .inl x))) (ha1 : f a = some (.inl (cI G, n1, .inl y))) (h1 : ¬ sp < 0) (h2 : ¬ dp < 0) (h3 : ¬ n < 0) (h4 : sp.toNatClampNeg + n.toNatClampNeg ≤ n0) (h5 : dp.toNatClampNeg + n.toNatClampNeg ≤ n1)
    (hR : 1 ≤ R.frames ∧ (rest.map fun v => v.category).sum + (nativeFrameWords "java/lang/System" "arraycopy" 5 + 11) ≤ R.locals) (hdg : decode cc pc = .ok (.invokestatic index, 3))
    (kk : ∀ (H1 : Heap) (locs1 : List Loc) (f1 : hM), f1 = va_up f a (some (.inl (cI G, n1, .inl (va_cpy x y sp.toNatClampNeg dp.toNatClampNeg n.toNatClampNeg)))) → hW G f1 H1 → va_S (hFr G) s.heap H1 locs1 → W p l e R s m args below meth c H1 locs1 cells slots Q (F0 m (pc + 3) ls rest)) : W p l e R s m args below meth c H locs cells slots Q (F0 m pc ls (.int n :: .int dp :: .ref a :: .int sp :: .ref a0 :: rest)) := by
  obtain ⟨hx, hb, hml, hown, hts, hlk, hk0, hl9⟩ := B0
  obtain ⟨L, g, hf, hP, hD⟩ := hw
  obtain ⟨hL, hg⟩ := hf a _ ha1
  obtain ⟨hL0, hg0⟩ := hf a0 _ ha0
  obtain ⟨j, hj0⟩ := va_pl_get (X := []) (f := g) hL
  obtain ⟨j2, hj2⟩ := va_pl_get (X := []) (f := g) hL0
  have hj := hj0
  rw [hg] at hj
  rw [hg0] at hj2
  exact va_copyi (D := G.1) (cl := hC) (tys := hTy G) hx hb (hml.trans hsz.symm) hown (hts _ hlm) (hts _ hnat) (hts _ hst) (hts _ hini) hk0.1 hP hD hS j2 j 0 0 hj2 hj (ty := .int) rfl rfl rfl h1 h2 h3 h4 h5 (fun _ _ => rfl) hR.1 hR.2 hdg (fun H1 locs1 hP1 hD1 hS1 => kk H1 locs1 _ rfl (hW.set (e0 := .inl (cI G, n1, .inl y)) hf hD hL hj0 hP1 hD1) hS1)
theorem hp_cloneI {index n0 : Nat} {x : Nat → Int32} (B0 : hB p l s m args meth c cc nL own G) (hw : hW G f H) (hS : va_S (hFr G) s.heap H locs) (hsz : ls.size = nL) (hlm : Cond.methodLink own index ⟨"[I", "clone", "()Ljava/lang/Object;"⟩ ∈ gW) (hsame : Cond.sameMethod "[I" "java/lang/Object" "clone" "()Ljava/lang/Object;" ∈ gW) (hnat : Cond.native ⟨"java/lang/Object", "clone", "()Ljava/lang/Object;"⟩ ∈ gW) (hinst : Cond.instanceMethod ⟨"java/lang/Object", "clone", "()Ljava/lang/Object;"⟩ ∈ gW)
    (hsel : Cond.selects "[I" ⟨"[I", "clone", "()Ljava/lang/Object;"⟩ ⟨"java/lang/Object", "clone", "()Ljava/lang/Object;"⟩ ∈ gW) (hcl : Cond.castable "[I" "java/lang/Cloneable" ∈ hOt) (ha0 : f a = some (.inl (cI G, n0, .inl x)))
    (hR : (1 ≤ R.frames ∧ (rest.map fun v => v.category).sum + 14 ≤ R.locals) ∧ cells + 1 ≤ R.cells ∧ slots + n0 ≤ R.slots) (hdg : decode cc pc = .ok (.invokevirtual index, 3))
    (kk : ∀ (q : Nat) (H1 : Heap) (f1 : hM), f q = none → f1 = va_up f q (some (.inl (cI G, n0, .inl x))) → hW G f1 H1 → va_S (hFr G) s.heap H1 locs → W p l e R s m args below meth c H1 locs (cells + 1) (slots + n0) Q (F0 m (pc + 3) ls (.ref q :: rest))) : W p l e R s m args below meth c H locs cells slots Q (F0 m pc ls (.ref a :: rest)) := by
  have hA := B0.le
  obtain ⟨hx, hb, hml, hown, hts, hlk, hk0, hl9⟩ := B0
  obtain ⟨L, g, hf, hP, hD⟩ := hw
  obtain ⟨hL0, hg0⟩ := hf a _ ha0
  obtain ⟨j2, hj2⟩ := va_pl_get (X := []) (f := g) hL0
  rw [hg0] at hj2
  have hnm : s.vm.findClass "[I" = some (cI G) := (hk0.1.2 0 (cI G, .int) rfl).2
  exact va_clone (D := G.1) (cl := hC) (tys := hTy G) (ws := [] ++ va_pl L g) (ty := .int) (x := (n0, .inl x)) hx hb (hml.trans hsz.symm) hown (hts _ hlm) (hts _ hsame) (hts _ hnat) (hts _ hinst) (hts _ hsel) (hk0.2.2.2.1 _ hcl) hk0.1 hP hD hS hA j2 0 hj2 rfl hnm
    (fun i v hv => by
      have h9 : (arrV (cI G) n0 (fun j => .int (x j))).slots[i]? = some v := hv
      have hi : i < n0 := by
        have := (Array.getElem?_eq_some_iff.mp h9).1
        rw [arrV_size] at this
        exact this
      rw [arrV_read _ _ hi] at h9
      cases h9
      rfl) hR.1.1 hR.1.2 hR.2.1 hR.2.2 hdg (fun q H1 _ hP1 hD1 hS1 => by
    obtain ⟨h0, hw1⟩ := hW.push hf hP1 hD1
    exact kk q H1 _ h0 rfl hw1 hS1)
theorem hp_castI {index : Nat} {n0 : Nat} {x : Nat → Int32} (B0 : hB p l s m args meth c cc nL own G) (hw : hW G f H) (hlm : Cond.classLink own index "[I" ∈ gW) (ha0 : f a = some (.inl (cI G, n0, .inl x))) (hdg : decode cc pc = .ok (.checkcast index, 3))
    (kk : W p l e R s m args below meth c H locs cells slots Q (F0 m (pc + 3) ls (.ref a :: rest))) : W p l e R s m args below meth c H locs cells slots Q (F0 m pc ls (.ref a :: rest)) := by
  obtain ⟨hx, hb, hml, hown, hts, hlk, hk0, hl9⟩ := B0
  obtain ⟨L, g, hf, hP, hD⟩ := hw
  obtain ⟨hL0, hg0⟩ := hf a _ ha0
  obtain ⟨j2, hj2⟩ := va_pl_get (X := []) (f := g) hL0
  rw [hg0] at hj2
  exact va_castA (D := G.1) (cl := hC) hx hb hown (hts _ hlm) hP j2 hj2 (hk0.1.2 0 (cI G, .int) rfl).2 hdg kk
def hMH (y : MethodName) (bytes : ByteArray) (maxL : Nat) (ret : Option FieldType) (hh : List (Nat × Nat × Nat × Nat)) (n : Nat) : Prop :=
  Cond.codeWith y bytes maxL ret hh ∈ gW ∧ Cond.static y ∈ gW ∧ Cond.initialized y.cls ∈ gW ∧ (y.cls ≠ "java/lang/invoke/MethodHandle" ∧ y.cls ≠ "java/lang/invoke/VarHandle") ∧ (parseMethodDescriptor y.desc).map (fun d => d.parameters.length) = some n
theorem hp_SH {y : MethodName} {bytes : ByteArray} {maxL n index : Nat} {ret : Option FieldType} {hh : List (Nat × Nat × Nat × Nat)} {fr lo mc ms : Nat} {As st0 : List Value} {P : Option Value → hM → Prop} {PX : String → hM → Prop} (B0 : hB p l s m args meth c cc nL own G) (hw : hW G f H) (hS : va_S (hFr G) s.heap H locs)
    (hM9 : CT l y (.codeWith y bytes maxL ret hh) fr lo mc ms G As f P PX) (hm : hMH y bytes maxL ret hh n) (hlm : Cond.methodLink own index y ∈ gW) (hst : st0 = As.reverse ++ rest) (hn : As.length = n) (hsz : ls.size = nL) (hroom : (rest.map fun v => v.category).sum ≤ 8)
    (hR : (fr + 1 ≤ R.frames ∧ 8 + (maxL + 11) + lo ≤ R.locals) ∧ cells + mc ≤ R.cells ∧ slots + ms ≤ R.slots) (hdg : decode cc pc = .ok (.invokestatic index, 3))
    (kx : ∀ (E : String) (ce : Cell) (q9 : Addr) (f1 : hM) (H1 : Heap) (locs1 : List Loc), PX E f1 → hW G f1 H1 → va_S (hFr G) s.heap H1 locs1 → H1[q9]? = some ce → ce.vm = .none → s.vm.findClass E = some ce.cls → vx_W p l e R s m args below meth c H1 locs1 (cells + mc) (slots + ms) Q (F0 m pc ls rest) q9)
    (kk : ∀ (v : Option Value) (f1 : hM) (H1 : Heap) (locs1 : List Loc), P v f1 → hW G f1 H1 → va_S (hFr G) s.heap H1 locs1 → W p l e R s m args below meth c H1 locs1 (cells + mc) (slots + ms) Q (F0 m (pc + 3) ls (v.toList ++ rest))) : W p l e R s m args below meth c H locs cells slots Q (F0 m pc ls st0) := by
  have B1 := B0
  obtain ⟨hx, hb9, hml, hown, hts, hlk, hk0, hl⟩ := B0
  obtain ⟨m1, m2, m4, m5, m6⟩ := hm
  exact hp_go B1 hS (vx_runSX (hh := hh) (ws := Cond.codeWith y bytes maxL ret hh :: gW) (rm := { frames := fr, cells := mc, slots := ms, locals := lo }) (Ts := gW) (bytes := bytes) (maxL := maxL) (ret := ret) (n := n) (As := As) (rest := rest) ⟨hx, hb9, hml, hown, hts⟩ hM9
    ⟨⟨rfl, rfl, hR.1.1, hR.1.2, gW_pay hts m1, List.mem_cons_self⟩, hts _ m1, hts _ m4, m5, hlen_of m6, hts _ hlm, hts _ m2⟩
    ⟨hPre.blind, hPc_of B1 hw hS⟩ rfl hn hsz hst (lv_room hroom) hdg hR.2) kx kk
/-- caught here: the rows ahead name other classes -/
theorem hp_catch {name : String} {E : String} {ce : Cell} {q : Addr} (B0 : hB p l s m args meth c cc nL own G) (pre : List ExceptionTableEntry) (x : ExceptionTableEntry) (suf : List ExceptionTableEntry) (hsplit : c.exceptionTable.toList = pre ++ x :: suf)
    (hpass : ∀ z ∈ pre, covers z pc = false ∨ (z.catchType ≠ 0 ∧ ∃ nm : String, Cond.classLink own z.catchType nm ∈ gW ∧ (E, nm) ∈ hNcs)) (hx9 : covers x pc = true) (h0 : x.catchType ≠ 0) (hlink : Cond.classLink own x.catchType name ∈ gW) (hcast : Cond.castable E name ∈ hOt) (hce : H[q]? = some ce) (hcv : ce.vm = .none) (hcl : s.vm.findClass E = some ce.cls)
    (kk : W p l e R s m args below meth c H locs cells slots Q (F0 m x.handlerPc ls [.ref q])) : vx_W p l e R s m args below meth c H locs cells slots Q (F0 m pc ls rest) q := by
  obtain ⟨hx, hb, hml, hown, hts, hlk, hk0, hl9⟩ := B0
  exact vx_catch (E := E) hown pre x suf hsplit (fun z hz => by
    rcases hpass z hz with h | ⟨h1, nm, h2, h3⟩
    · exact Or.inl h
    · exact Or.inr ⟨h1, nm, hts _ h2, hk0.2.2.2.2.2.1 (E, nm) h3⟩) hx9 h0 (hts _ hlink) (va_Nw.use rfl (hk0.2.2.2.1 _ hcast)) hce hcv hcl kk
end HQ10
/-! the words of a throw -/
def tNm : List String := ["java/lang/RuntimeException", "java/lang/Exception"]
theorem hall_of {L B : List Cond} (h : L.all (fun w => decide (w ∈ B)) = true) : ∀ w ∈ L, w ∈ B := fun w hw => of_decide_eq_true (List.all_eq_true.mp h w hw)
theorem hallb_of {L : List Cond} {b : Cond → Bool} (h : L.all b = true) : ∀ w ∈ L, b w = true := fun w hw => List.all_eq_true.mp h w hw
end
section
theorem qN_L : (Cond.initialized RL) ∈ gW := gW_mem 34 (by decide +kernel) (by decide +kernel)
theorem qN_X4 : (Cond.initialized RX4) ∈ gW := gW_mem 35 (by decide +kernel) (by decide +kernel)
theorem qN_X1 : (Cond.initialized RX1) ∈ gW := gW_mem 36 (by decide +kernel) (by decide +kernel)
theorem qN_X3 : (Cond.initialized RX3) ∈ gW := gW_mem 37 (by decide +kernel) (by decide +kernel)
theorem qN_J7 : (Cond.initialized RJ7) ∈ gW := gW_mem 38 (by decide +kernel) (by decide +kernel)
theorem qN_X0 : (Cond.initialized RX0) ∈ gW := gW_mem 39 (by decide +kernel) (by decide +kernel)
theorem qN_X5 : (Cond.initialized RX5) ∈ gW := gW_mem 40 (by decide +kernel) (by decide +kernel)
theorem qN_java_lang_Throwable : (Cond.initialized "java/lang/Throwable") ∈ gW := gW_mem 41 (by decide +kernel) (by decide +kernel)
theorem qN_java_lang_Exception : (Cond.initialized "java/lang/Exception") ∈ gW := gW_mem 42 (by decide +kernel) (by decide +kernel)
theorem qN_java_lang_RuntimeException : (Cond.initialized "java/lang/RuntimeException") ∈ gW := gW_mem 43 (by decide +kernel) (by decide +kernel)
theorem qN_java_lang_IndexOutOfBoundsException : (Cond.initialized "java/lang/IndexOutOfBoundsException") ∈ gW := gW_mem 44 (by decide +kernel) (by decide +kernel)
theorem qN_java_lang_IllegalArgumentException : (Cond.initialized "java/lang/IllegalArgumentException") ∈ gW := gW_mem 45 (by decide +kernel) (by decide +kernel)
theorem qN_java_lang_IllegalStateException : (Cond.initialized "java/lang/IllegalStateException") ∈ gW := gW_mem 46 (by decide +kernel) (by decide +kernel)
theorem qN_java_lang_System : (Cond.initialized RJ10) ∈ gW := gW_mem 47 (by decide +kernel) (by decide +kernel)
theorem qN_X2 : (Cond.initialized RX2) ∈ gW := gW_mem 48 (by decide +kernel) (by decide +kernel)
theorem qN_java_lang_Math : (Cond.initialized RJ9) ∈ gW := gW_mem 49 (by decide +kernel) (by decide +kernel)
theorem qC_L_8 : (Cond.classLink RL 8 RX4) ∈ gW := gW_mem 50 (by decide +kernel) (by decide +kernel)
theorem qI_X4 : (Cond.instantiable RX4 3) ∈ gW := gW_mem 51 (by decide +kernel) (by decide +kernel)
theorem qM_L_76 : (Cond.methodLink RL 76 yX4_init) ∈ gW := gW_mem 52 (by decide +kernel) (by decide +kernel)
theorem qM_X4_1 : (Cond.methodLink RX4 1 objectInit) ∈ gW := gW_mem 55 (by decide +kernel) (by decide +kernel)
theorem qC_X4_7 : (Cond.classLink RX4 7 RX1) ∈ gW := gW_mem 58 (by decide +kernel) (by decide +kernel)
theorem qI_X1 : (Cond.instantiable RX1 11) ∈ gW := gW_mem 59 (by decide +kernel) (by decide +kernel)
theorem qM_X4_9 : (Cond.methodLink RX4 9 yX1_init) ∈ gW := gW_mem 60 (by decide +kernel) (by decide +kernel)
theorem qM_X1_3 : (Cond.methodLink RX1 3 objectInit) ∈ gW := gW_mem 63 (by decide +kernel) (by decide +kernel)
theorem qC_X1_21 : (Cond.classLink RX1 21 RX3) ∈ gW := gW_mem 64 (by decide +kernel) (by decide +kernel)
theorem qI_X3 : (Cond.instantiable RX3 3) ∈ gW := gW_mem 65 (by decide +kernel) (by decide +kernel)
theorem oM_X1_23 : (Cond.methodLinkNest RX1 23 yX3_init "OptionLine") ∈ hOt := List.mem_filter.mpr ⟨List.mem_of_getElem? (i := 66) (by decide +kernel), rfl⟩
theorem qM_X3_3 : (Cond.methodLink RX3 3 objectInit) ∈ gW := gW_mem 69 (by decide +kernel) (by decide +kernel)
theorem qF_X3_19 : (Cond.fieldLink RX3 19 "OptionLine$FrameRow" "first" "LOptionLine$Frame;") ∈ gW := gW_mem 70 (by decide +kernel) (by decide +kernel)
theorem qF_X3_15 : (Cond.fieldLink RX3 15 "OptionLine$FrameRow" "last" "LOptionLine$Frame;") ∈ gW := gW_mem 71 (by decide +kernel) (by decide +kernel)
theorem qF_X3_9 : (Cond.fieldLink RX3 9 "OptionLine$FrameRow" "count" "I") ∈ gW := gW_mem 72 (by decide +kernel) (by decide +kernel)
theorem oF_X4_110 : (Cond.fieldLinkNest RX4 110 "OptionLine$FrameRow" "count" "I" "OptionLine") ∈ hOt := List.mem_filter.mpr ⟨List.mem_of_getElem? (i := 73) (by decide +kernel), rfl⟩
theorem qP_X3 : (Cond.superclass RX3 "java/lang/Object") ∈ gW := gW_mem 80 (by decide +kernel) (by decide +kernel)
theorem qA_int : (Cond.arrayClass .int) ∈ gW := gW_mem 81 (by decide +kernel) (by decide +kernel)
theorem qM_X1_51 : (Cond.methodLink RX1 51 yJ7_fill_53178) ∈ gW := gW_mem 82 (by decide +kernel) (by decide +kernel)
theorem qF_X1_9 : (Cond.fieldLink RX1 9 "OptionLine$End" "wishes" "[I") ∈ gW := gW_mem 85 (by decide +kernel) (by decide +kernel)
theorem qF_X1_15 : (Cond.fieldLink RX1 15 "OptionLine$End" "allowed" "[I") ∈ gW := gW_mem 86 (by decide +kernel) (by decide +kernel)
theorem qF_X1_18 : (Cond.fieldLink RX1 18 "OptionLine$End" "askedFor" "[I") ∈ gW := gW_mem 87 (by decide +kernel) (by decide +kernel)
theorem oF_X4_95 : (Cond.fieldLinkNest RX4 95 "OptionLine$End" "askedFor" "[I" "OptionLine") ∈ hOt := List.mem_filter.mpr ⟨List.mem_of_getElem? (i := 88) (by decide +kernel), rfl⟩
theorem qF_X1_24 : (Cond.fieldLink RX1 24 "OptionLine$End" "row" "LOptionLine$FrameRow;") ∈ gW := gW_mem 89 (by decide +kernel) (by decide +kernel)
theorem oF_X4_106 : (Cond.fieldLinkNest RX4 106 "OptionLine$End" "row" "LOptionLine$FrameRow;" "OptionLine") ∈ hOt := List.mem_filter.mpr ⟨List.mem_of_getElem? (i := 90) (by decide +kernel), rfl⟩
theorem qF_X1_48 : (Cond.fieldLink RX1 48 "OptionLine$End" "magic" "I") ∈ gW := gW_mem 91 (by decide +kernel) (by decide +kernel)
theorem qF_X1_28 : (Cond.fieldLink RX1 28 "OptionLine$End" "state" "I") ∈ gW := gW_mem 92 (by decide +kernel) (by decide +kernel)
theorem oF_X4_55 : (Cond.fieldLinkNest RX4 55 "OptionLine$End" "state" "I" "OptionLine") ∈ hOt := List.mem_filter.mpr ⟨List.mem_of_getElem? (i := 93) (by decide +kernel), rfl⟩
theorem qF_X1_32 : (Cond.fieldLink RX1 32 "OptionLine$End" "timer" "I") ∈ gW := gW_mem 94 (by decide +kernel) (by decide +kernel)
theorem qF_X1_35 : (Cond.fieldLink RX1 35 "OptionLine$End" "sentRequests" "I") ∈ gW := gW_mem 95 (by decide +kernel) (by decide +kernel)
theorem oF_X4_99 : (Cond.fieldLinkNest RX4 99 "OptionLine$End" "sentRequests" "I" "OptionLine") ∈ hOt := List.mem_filter.mpr ⟨List.mem_of_getElem? (i := 96) (by decide +kernel), rfl⟩
theorem qF_X1_38 : (Cond.fieldLink RX1 38 "OptionLine$End" "lastId" "I") ∈ gW := gW_mem 97 (by decide +kernel) (by decide +kernel)
theorem qF_X1_41 : (Cond.fieldLink RX1 41 "OptionLine$End" "looped" "Z") ∈ gW := gW_mem 98 (by decide +kernel) (by decide +kernel)
theorem oF_X4_102 : (Cond.fieldLinkNest RX4 102 "OptionLine$End" "looped" "Z" "OptionLine") ∈ hOt := List.mem_filter.mpr ⟨List.mem_of_getElem? (i := 99) (by decide +kernel), rfl⟩
theorem qF_X1_45 : (Cond.fieldLink RX1 45 "OptionLine$End" "missedFrames" "I") ∈ gW := gW_mem 100 (by decide +kernel) (by decide +kernel)
theorem oF_X4_86 : (Cond.fieldLinkNest RX4 86 "OptionLine$End" "missedFrames" "I" "OptionLine") ∈ hOt := List.mem_filter.mpr ⟨List.mem_of_getElem? (i := 101) (by decide +kernel), rfl⟩
theorem qP_X1 : (Cond.superclass RX1 "java/lang/Object") ∈ gW := gW_mem 124 (by decide +kernel) (by decide +kernel)
theorem qC_X4_21 : (Cond.classLink RX4 21 RX0) ∈ gW := gW_mem 125 (by decide +kernel) (by decide +kernel)
theorem qI_X0 : (Cond.instantiable RX0 9) ∈ gW := gW_mem 126 (by decide +kernel) (by decide +kernel)
theorem qM_X4_23 : (Cond.methodLink RX4 23 yX0_init) ∈ gW := gW_mem 127 (by decide +kernel) (by decide +kernel)
theorem qM_X0_3 : (Cond.methodLink RX0 3 objectInit) ∈ gW := gW_mem 130 (by decide +kernel) (by decide +kernel)
theorem qM_X0_41 : (Cond.methodLink RX0 41 yJ7_fill_53178) ∈ gW := gW_mem 131 (by decide +kernel) (by decide +kernel)
theorem qF_X0_9 : (Cond.fieldLink RX0 9 "OptionLine$Bundle" "starts" "[I") ∈ gW := gW_mem 132 (by decide +kernel) (by decide +kernel)
theorem qF_X0_15 : (Cond.fieldLink RX0 15 "OptionLine$Bundle" "packetOfPiece" "[I") ∈ gW := gW_mem 133 (by decide +kernel) (by decide +kernel)
theorem qF_X0_18 : (Cond.fieldLink RX0 18 "OptionLine$Bundle" "hasCome" "[Z") ∈ gW := gW_mem 134 (by decide +kernel) (by decide +kernel)
theorem qF_X0_22 : (Cond.fieldLink RX0 22 "OptionLine$Bundle" "firstOnLine" "[I") ∈ gW := gW_mem 135 (by decide +kernel) (by decide +kernel)
theorem qF_X0_25 : (Cond.fieldLink RX0 25 "OptionLine$Bundle" "lastOverLine" "[I") ∈ gW := gW_mem 136 (by decide +kernel) (by decide +kernel)
theorem qF_X0_28 : (Cond.fieldLink RX0 28 "OptionLine$Bundle" "givenPackets" "[I") ∈ gW := gW_mem 137 (by decide +kernel) (by decide +kernel)
theorem oF_X4_142 : (Cond.fieldLinkNest RX4 142 "OptionLine$Bundle" "givenPackets" "[I" "OptionLine") ∈ hOt := List.mem_filter.mpr ⟨List.mem_of_getElem? (i := 138) (by decide +kernel), rfl⟩
theorem qF_X0_31 : (Cond.fieldLink RX0 31 "OptionLine$Bundle" "packets" "I") ∈ gW := gW_mem 139 (by decide +kernel) (by decide +kernel)
theorem oF_X4_117 : (Cond.fieldLinkNest RX4 117 "OptionLine$Bundle" "packets" "I" "OptionLine") ∈ hOt := List.mem_filter.mpr ⟨List.mem_of_getElem? (i := 140) (by decide +kernel), rfl⟩
theorem qF_X0_35 : (Cond.fieldLink RX0 35 "OptionLine$Bundle" "givenCount" "I") ∈ gW := gW_mem 141 (by decide +kernel) (by decide +kernel)
theorem oF_X4_134 : (Cond.fieldLinkNest RX4 134 "OptionLine$Bundle" "givenCount" "I" "OptionLine") ∈ hOt := List.mem_filter.mpr ⟨List.mem_of_getElem? (i := 142) (by decide +kernel), rfl⟩
theorem qF_X0_38 : (Cond.fieldLink RX0 38 "OptionLine$Bundle" "nextNumber" "I") ∈ gW := gW_mem 143 (by decide +kernel) (by decide +kernel)
theorem oF_X4_145 : (Cond.fieldLinkNest RX4 145 "OptionLine$Bundle" "nextNumber" "I" "OptionLine") ∈ hOt := List.mem_filter.mpr ⟨List.mem_of_getElem? (i := 144) (by decide +kernel), rfl⟩
theorem qP_X0 : (Cond.superclass RX0 "java/lang/Object") ∈ gW := gW_mem 163 (by decide +kernel) (by decide +kernel)
theorem qA_boolean : (Cond.arrayClass .boolean) ∈ gW := gW_mem 164 (by decide +kernel) (by decide +kernel)
theorem qF_X4_12 : (Cond.fieldLink RX4 12 "OptionLine" "endZero" "LOptionLine$End;") ∈ gW := gW_mem 165 (by decide +kernel) (by decide +kernel)
theorem qF_X4_18 : (Cond.fieldLink RX4 18 "OptionLine" "endOne" "LOptionLine$End;") ∈ gW := gW_mem 166 (by decide +kernel) (by decide +kernel)
theorem qF_X4_24 : (Cond.fieldLink RX4 24 "OptionLine" "bundle" "LOptionLine$Bundle;") ∈ gW := gW_mem 167 (by decide +kernel) (by decide +kernel)
theorem qP_X4 : (Cond.superclass RX4 "java/lang/Object") ∈ gW := gW_mem 174 (by decide +kernel) (by decide +kernel)
theorem qM_L_139 : (Cond.methodLink RL 139 yX4_given) ∈ gW := gW_mem 175 (by decide +kernel) (by decide +kernel)
theorem qM_L_147 : (Cond.methodLink RL 147 yX4_next) ∈ gW := gW_mem 179 (by decide +kernel) (by decide +kernel)
theorem qM_L_80 : (Cond.methodLink RL 80 yL_wish) ∈ gW := gW_mem 183 (by decide +kernel) (by decide +kernel)
theorem qC_L_13 : (Cond.classLink RL 13 "java/lang/IndexOutOfBoundsException") ∈ gW := gW_mem 186 (by decide +kernel) (by decide +kernel)
theorem qC_L_15 : (Cond.classLink RL 15 "java/lang/IllegalArgumentException") ∈ gW := gW_mem 187 (by decide +kernel) (by decide +kernel)
theorem qM_L_7 : (Cond.methodLink RL 7 yX4_wish) ∈ gW := gW_mem 188 (by decide +kernel) (by decide +kernel)
theorem qM_X4_28 : (Cond.methodLink RX4 28 yX4_endAt) ∈ gW := gW_mem 192 (by decide +kernel) (by decide +kernel)
theorem qC_X4_137 : (Cond.classLink RX4 137 "java/lang/IndexOutOfBoundsException") ∈ gW := gW_mem 196 (by decide +kernel) (by decide +kernel)
theorem oC_eI : (Cond.castable "java/lang/IndexOutOfBoundsException" "java/lang/IndexOutOfBoundsException") ∈ hOt := List.mem_filter.mpr ⟨List.mem_of_getElem? (i := 198) (by decide +kernel), rfl⟩
theorem qV_fillInStackTrace : (Cond.native ⟨"java/lang/Throwable", "fillInStackTrace", "(I)Ljava/lang/Throwable;"⟩) ∈ gW := gW_mem 236 (by decide +kernel) (by decide +kernel)
theorem sR_X4_148 : (RX4, 148, "there is no such end") ∈ hStr := List.mem_filterMap.mpr ⟨Cond.stringRef RX4 148 "there is no such end", List.mem_of_getElem? (i := 237) (by decide +kernel), rfl⟩
theorem qM_X4_141 : (Cond.methodLink RX4 141 ⟨"java/lang/IndexOutOfBoundsException", "<init>", "(Ljava/lang/String;)V"⟩) ∈ gW := gW_mem 238 (by decide +kernel) (by decide +kernel)
theorem qA_byte : (Cond.arrayClass .byte) ∈ gW := gW_mem 263 (by decide +kernel) (by decide +kernel)
theorem qM_X4_32 : (Cond.methodLink RX4 32 yX4_refuseNoOption) ∈ gW := gW_mem 264 (by decide +kernel) (by decide +kernel)
theorem sR_X4_150 : (RX4, 150, "there is no such option") ∈ hStr := List.mem_filterMap.mpr ⟨Cond.stringRef RX4 150 "there is no such option", List.mem_of_getElem? (i := 267) (by decide +kernel), rfl⟩
theorem qC_X4_35 : (Cond.classLink RX4 35 "java/lang/IllegalArgumentException") ∈ gW := gW_mem 268 (by decide +kernel) (by decide +kernel)
theorem oC_eA : (Cond.castable "java/lang/IllegalArgumentException" "java/lang/IllegalArgumentException") ∈ hOt := List.mem_filter.mpr ⟨List.mem_of_getElem? (i := 270) (by decide +kernel), rfl⟩
theorem sR_X4_37 : (RX4, 37, "the value is not 0 to 9, nor NONE") ∈ hStr := List.mem_filterMap.mpr ⟨Cond.stringRef RX4 37 "the value is not 0 to 9, nor NONE", List.mem_of_getElem? (i := 277) (by decide +kernel), rfl⟩
theorem qM_X4_39 : (Cond.methodLink RX4 39 ⟨"java/lang/IllegalArgumentException", "<init>", "(Ljava/lang/String;)V"⟩) ∈ gW := gW_mem 278 (by decide +kernel) (by decide +kernel)
theorem qM_X4_42 : (Cond.methodLink RX4 42 yX1_changeWish) ∈ gW := gW_mem 284 (by decide +kernel) (by decide +kernel)
theorem qM_L_86 : (Cond.methodLink RL 86 yL_allow) ∈ gW := gW_mem 288 (by decide +kernel) (by decide +kernel)
theorem qM_L_17 : (Cond.methodLink RL 17 yX4_allow) ∈ gW := gW_mem 291 (by decide +kernel) (by decide +kernel)
theorem sR_X4_46 : (RX4, 46, "the set is not 0 to 1023") ∈ hStr := List.mem_filterMap.mpr ⟨Cond.stringRef RX4 46 "the set is not 0 to 1023", List.mem_of_getElem? (i := 295) (by decide +kernel), rfl⟩
theorem qM_X4_48 : (Cond.methodLink RX4 48 yX1_changeAllowed) ∈ gW := gW_mem 296 (by decide +kernel) (by decide +kernel)
theorem qM_L_89 : (Cond.methodLink RL 89 yL_setMagic) ∈ gW := gW_mem 300 (by decide +kernel) (by decide +kernel)
theorem qM_L_20 : (Cond.methodLink RL 20 yX4_setMagic) ∈ gW := gW_mem 303 (by decide +kernel) (by decide +kernel)
theorem qM_X4_51 : (Cond.methodLink RX4 51 yX1_changeMagic) ∈ gW := gW_mem 307 (by decide +kernel) (by decide +kernel)
theorem qM_L_93 : (Cond.methodLink RL 93 yL_open) ∈ gW := gW_mem 311 (by decide +kernel) (by decide +kernel)
theorem qC_L_28 : (Cond.classLink RL 28 "java/lang/IllegalStateException") ∈ gW := gW_mem 314 (by decide +kernel) (by decide +kernel)
theorem qM_L_24 : (Cond.methodLink RL 24 yX4_open) ∈ gW := gW_mem 315 (by decide +kernel) (by decide +kernel)
theorem qC_X4_59 : (Cond.classLink RX4 59 "java/lang/IllegalStateException") ∈ gW := gW_mem 319 (by decide +kernel) (by decide +kernel)
theorem oC_eS : (Cond.castable "java/lang/IllegalStateException" "java/lang/IllegalStateException") ∈ hOt := List.mem_filter.mpr ⟨List.mem_of_getElem? (i := 321) (by decide +kernel), rfl⟩
theorem sR_X4_61 : (RX4, 61, "the end is not closed") ∈ hStr := List.mem_filterMap.mpr ⟨Cond.stringRef RX4 61 "the end is not closed", List.mem_of_getElem? (i := 328) (by decide +kernel), rfl⟩
theorem qM_X4_63 : (Cond.methodLink RX4 63 ⟨"java/lang/IllegalStateException", "<init>", "(Ljava/lang/String;)V"⟩) ∈ gW := gW_mem 329 (by decide +kernel) (by decide +kernel)
theorem qM_X4_64 : (Cond.methodLink RX4 64 yX1_begin) ∈ gW := gW_mem 335 (by decide +kernel) (by decide +kernel)
theorem qM_X1_57 : (Cond.methodLink RX1 57 ⟨"java/lang/System", "arraycopy", "(Ljava/lang/Object;ILjava/lang/Object;II)V"⟩) ∈ gW := gW_mem 339 (by decide +kernel) (by decide +kernel)
theorem qV_arraycopy : (Cond.native arraycopyName) ∈ gW := gW_mem 341 (by decide +kernel) (by decide +kernel)
theorem qM_X1_63 : (Cond.methodLink RX1 63 yX1_ask) ∈ gW := gW_mem 342 (by decide +kernel) (by decide +kernel)
theorem qC_X1_71 : (Cond.classLink RX1 71 RX2) ∈ gW := gW_mem 346 (by decide +kernel) (by decide +kernel)
theorem qI_X2 : (Cond.instantiable RX2 5) ∈ gW := gW_mem 347 (by decide +kernel) (by decide +kernel)
theorem qM_X1_95 : (Cond.methodLink RX1 95 yJ7_copyOf_59c91) ∈ gW := gW_mem 348 (by decide +kernel) (by decide +kernel)
theorem qM_J7_316 : (Cond.methodLink RJ7 316 ⟨"[I", "clone", "()Ljava/lang/Object;"⟩) ∈ gW := gW_mem 351 (by decide +kernel) (by decide +kernel)
theorem qV_clone : (Cond.native ⟨"java/lang/Object", "clone", "()Ljava/lang/Object;"⟩) ∈ gW := gW_mem 353 (by decide +kernel) (by decide +kernel)
theorem oC_arr : (Cond.castable "[I" "java/lang/Cloneable") ∈ hOt := List.mem_filter.mpr ⟨List.mem_of_getElem? (i := 356) (by decide +kernel), rfl⟩
theorem qC_J7_317 : (Cond.classLink RJ7 317 "[I") ∈ gW := gW_mem 357 (by decide +kernel) (by decide +kernel)
theorem qM_J7_304 : (Cond.methodLink RJ7 304 yJ9_min_7cf53) ∈ gW := gW_mem 358 (by decide +kernel) (by decide +kernel)
theorem qM_J7_150 : (Cond.methodLink RJ7 150 ⟨"java/lang/System", "arraycopy", "(Ljava/lang/Object;ILjava/lang/Object;II)V"⟩) ∈ gW := gW_mem 361 (by decide +kernel) (by decide +kernel)
theorem qM_X1_99 : (Cond.methodLink RX1 99 yX2_init) ∈ gW := gW_mem 362 (by decide +kernel) (by decide +kernel)
theorem qM_X2_1 : (Cond.methodLink RX2 1 objectInit) ∈ gW := gW_mem 365 (by decide +kernel) (by decide +kernel)
theorem qF_X2_7 : (Cond.fieldLink RX2 7 "OptionLine$Frame" "kind" "I") ∈ gW := gW_mem 366 (by decide +kernel) (by decide +kernel)
theorem qF_X4_81 : (Cond.fieldLink RX4 81 "OptionLine$Frame" "kind" "I") ∈ gW := gW_mem 367 (by decide +kernel) (by decide +kernel)
theorem qF_X1_70 : (Cond.fieldLink RX1 70 "OptionLine$Frame" "kind" "I") ∈ gW := gW_mem 368 (by decide +kernel) (by decide +kernel)
theorem qF_X2_13 : (Cond.fieldLink RX2 13 "OptionLine$Frame" "id" "I") ∈ gW := gW_mem 369 (by decide +kernel) (by decide +kernel)
theorem qF_X1_86 : (Cond.fieldLink RX1 86 "OptionLine$Frame" "id" "I") ∈ gW := gW_mem 370 (by decide +kernel) (by decide +kernel)
theorem qF_X2_16 : (Cond.fieldLink RX2 16 "OptionLine$Frame" "magic" "I") ∈ gW := gW_mem 371 (by decide +kernel) (by decide +kernel)
theorem qF_X1_82 : (Cond.fieldLink RX1 82 "OptionLine$Frame" "magic" "I") ∈ gW := gW_mem 372 (by decide +kernel) (by decide +kernel)
theorem qF_X2_19 : (Cond.fieldLink RX2 19 "OptionLine$Frame" "values" "[I") ∈ gW := gW_mem 373 (by decide +kernel) (by decide +kernel)
theorem qF_X1_92 : (Cond.fieldLink RX1 92 "OptionLine$Frame" "values" "[I") ∈ gW := gW_mem 374 (by decide +kernel) (by decide +kernel)
theorem qF_X3_22 : (Cond.fieldLink RX3 22 "OptionLine$Frame" "behind" "LOptionLine$Frame;") ∈ gW := gW_mem 375 (by decide +kernel) (by decide +kernel)
theorem qP_X2 : (Cond.superclass RX2 "java/lang/Object") ∈ gW := gW_mem 386 (by decide +kernel) (by decide +kernel)
theorem qM_X1_102 : (Cond.methodLink RX1 102 yX3_put) ∈ gW := gW_mem 387 (by decide +kernel) (by decide +kernel)
theorem qM_L_97 : (Cond.methodLink RL 97 yL_close) ∈ gW := gW_mem 391 (by decide +kernel) (by decide +kernel)
theorem qM_L_30 : (Cond.methodLink RL 30 yX4_close) ∈ gW := gW_mem 394 (by decide +kernel) (by decide +kernel)
theorem sR_X4_68 : (RX4, 68, "the end is closed") ∈ hStr := List.mem_filterMap.mpr ⟨Cond.stringRef RX4 68 "the end is closed", List.mem_of_getElem? (i := 398) (by decide +kernel), rfl⟩
theorem qM_X4_70 : (Cond.methodLink RX4 70 yX1_finish) ∈ gW := gW_mem 399 (by decide +kernel) (by decide +kernel)
theorem qM_X1_67 : (Cond.methodLink RX1 67 yX1_sendStop) ∈ gW := gW_mem 403 (by decide +kernel) (by decide +kernel)
theorem qM_X1_105 : (Cond.methodLink RX1 105 yX1_tellNothing) ∈ gW := gW_mem 407 (by decide +kernel) (by decide +kernel)
theorem qM_L_100 : (Cond.methodLink RL 100 yL_deliver) ∈ gW := gW_mem 410 (by decide +kernel) (by decide +kernel)
theorem qM_L_33 : (Cond.methodLink RL 33 yX4_deliver) ∈ gW := gW_mem 413 (by decide +kernel) (by decide +kernel)
theorem qM_X4_73 : (Cond.methodLink RX4 73 yX4_takeFrame) ∈ gW := gW_mem 417 (by decide +kernel) (by decide +kernel)
theorem qM_X4_152 : (Cond.methodLink RX4 152 yX3_takeFirst) ∈ gW := gW_mem 420 (by decide +kernel) (by decide +kernel)
theorem sR_X4_156 : (RX4, 156, "no frame of the end is under way") ∈ hStr := List.mem_filterMap.mpr ⟨Cond.stringRef RX4 156 "no frame of the end is under way", List.mem_of_getElem? (i := 424) (by decide +kernel), rfl⟩
theorem qM_X4_77 : (Cond.methodLink RX4 77 yX1_hear) ∈ gW := gW_mem 425 (by decide +kernel) (by decide +kernel)
theorem qM_X1_75 : (Cond.methodLink RX1 75 yX1_hearRequest) ∈ gW := gW_mem 429 (by decide +kernel) (by decide +kernel)
theorem qM_X1_83 : (Cond.methodLink RX1 83 yX1_answer) ∈ gW := gW_mem 433 (by decide +kernel) (by decide +kernel)
theorem qM_X1_109 : (Cond.methodLink RX1 109 yX1_kindOfAnswer) ∈ gW := gW_mem 437 (by decide +kernel) (by decide +kernel)
theorem qM_X1_117 : (Cond.methodLink RX1 117 yX1_isUnknown) ∈ gW := gW_mem 441 (by decide +kernel) (by decide +kernel)
theorem qM_X1_121 : (Cond.methodLink RX1 121 yX1_isRefused) ∈ gW := gW_mem 445 (by decide +kernel) (by decide +kernel)
theorem qM_X1_128 : (Cond.methodLink RX1 128 yX1_allows) ∈ gW := gW_mem 449 (by decide +kernel) (by decide +kernel)
theorem qM_X1_113 : (Cond.methodLink RX1 113 yX1_toldOptions) ∈ gW := gW_mem 453 (by decide +kernel) (by decide +kernel)
theorem qM_X1_124 : (Cond.methodLink RX1 124 yX1_lowestAllowed) ∈ gW := gW_mem 457 (by decide +kernel) (by decide +kernel)
theorem qM_X1_79 : (Cond.methodLink RX1 79 yX1_hearAnswer) ∈ gW := gW_mem 461 (by decide +kernel) (by decide +kernel)
theorem qM_X1_89 : (Cond.methodLink RX1 89 yX1_changeAskedFor) ∈ gW := gW_mem 465 (by decide +kernel) (by decide +kernel)
theorem qM_L_103 : (Cond.methodLink RL 103 yL_lose) ∈ gW := gW_mem 469 (by decide +kernel) (by decide +kernel)
theorem qM_L_36 : (Cond.methodLink RL 36 yX4_lose) ∈ gW := gW_mem 472 (by decide +kernel) (by decide +kernel)
theorem qM_L_106 : (Cond.methodLink RL 106 yL_loop) ∈ gW := gW_mem 476 (by decide +kernel) (by decide +kernel)
theorem qM_L_39 : (Cond.methodLink RL 39 yX4_loop) ∈ gW := gW_mem 479 (by decide +kernel) (by decide +kernel)
theorem qM_L_109 : (Cond.methodLink RL 109 yL_pass) ∈ gW := gW_mem 483 (by decide +kernel) (by decide +kernel)
theorem qM_L_42 : (Cond.methodLink RL 42 yX4_pass) ∈ gW := gW_mem 486 (by decide +kernel) (by decide +kernel)
theorem sR_X4_89 : (RX4, 89, "the ticks are not 1 to 50") ∈ hStr := List.mem_filterMap.mpr ⟨Cond.stringRef RX4 89 "the ticks are not 1 to 50", List.mem_of_getElem? (i := 490) (by decide +kernel), rfl⟩
theorem qM_X4_91 : (Cond.methodLink RX4 91 yX1_tick) ∈ gW := gW_mem 491 (by decide +kernel) (by decide +kernel)
theorem qM_L_112 : (Cond.methodLink RL 112 yL_stateOf) ∈ gW := gW_mem 495 (by decide +kernel) (by decide +kernel)
theorem qM_L_45 : (Cond.methodLink RL 45 yX4_stateOf) ∈ gW := gW_mem 498 (by decide +kernel) (by decide +kernel)
theorem qM_L_115 : (Cond.methodLink RL 115 yL_asked) ∈ gW := gW_mem 502 (by decide +kernel) (by decide +kernel)
theorem qM_L_48 : (Cond.methodLink RL 48 yX4_asked) ∈ gW := gW_mem 505 (by decide +kernel) (by decide +kernel)
theorem qM_L_118 : (Cond.methodLink RL 118 yL_requests) ∈ gW := gW_mem 509 (by decide +kernel) (by decide +kernel)
theorem qM_L_51 : (Cond.methodLink RL 51 yX4_requests) ∈ gW := gW_mem 512 (by decide +kernel) (by decide +kernel)
theorem qM_L_121 : (Cond.methodLink RL 121 yL_isLooped) ∈ gW := gW_mem 516 (by decide +kernel) (by decide +kernel)
theorem qM_L_54 : (Cond.methodLink RL 54 yX4_isLooped) ∈ gW := gW_mem 519 (by decide +kernel) (by decide +kernel)
theorem qM_L_124 : (Cond.methodLink RL 124 yL_underWay) ∈ gW := gW_mem 523 (by decide +kernel) (by decide +kernel)
theorem qM_L_58 : (Cond.methodLink RL 58 yX4_underWay) ∈ gW := gW_mem 526 (by decide +kernel) (by decide +kernel)
theorem qM_L_127 : (Cond.methodLink RL 127 yL_missed) ∈ gW := gW_mem 530 (by decide +kernel) (by decide +kernel)
theorem qM_L_61 : (Cond.methodLink RL 61 yX4_missed) ∈ gW := gW_mem 533 (by decide +kernel) (by decide +kernel)
theorem qM_L_130 : (Cond.methodLink RL 130 yL_send) ∈ gW := gW_mem 537 (by decide +kernel) (by decide +kernel)
theorem qM_L_64 : (Cond.methodLink RL 64 yX4_send) ∈ gW := gW_mem 540 (by decide +kernel) (by decide +kernel)
theorem sR_X4_115 : (RX4, 115, "the pieces are not 1 to 4") ∈ hStr := List.mem_filterMap.mpr ⟨Cond.stringRef RX4 115 "the pieces are not 1 to 4", List.mem_of_getElem? (i := 544) (by decide +kernel), rfl⟩
theorem sR_X4_120 : (RX4, 120, "there are 60 packets") ∈ hStr := List.mem_filterMap.mpr ⟨Cond.stringRef RX4 120 "there are 60 packets", List.mem_of_getElem? (i := 545) (by decide +kernel), rfl⟩
theorem qM_X4_122 : (Cond.methodLink RX4 122 yX0_addPacket) ∈ gW := gW_mem 546 (by decide +kernel) (by decide +kernel)
theorem qM_L_133 : (Cond.methodLink RL 133 yL_come) ∈ gW := gW_mem 550 (by decide +kernel) (by decide +kernel)
theorem qM_L_67 : (Cond.methodLink RL 67 yX4_come) ∈ gW := gW_mem 553 (by decide +kernel) (by decide +kernel)
theorem qM_X4_125 : (Cond.methodLink RX4 125 yX4_refuseEmptyLine) ∈ gW := gW_mem 557 (by decide +kernel) (by decide +kernel)
theorem sR_X4_158 : (RX4, 158, "there is no such line") ∈ hStr := List.mem_filterMap.mpr ⟨Cond.stringRef RX4 158 "there is no such line", List.mem_of_getElem? (i := 561) (by decide +kernel), rfl⟩
theorem qM_X4_160 : (Cond.methodLink RX4 160 yX0_hasPieceOn) ∈ gW := gW_mem 562 (by decide +kernel) (by decide +kernel)
theorem sR_X4_164 : (RX4, 164, "no piece is under way on the line") ∈ hStr := List.mem_filterMap.mpr ⟨Cond.stringRef RX4 164 "no piece is under way on the line", List.mem_of_getElem? (i := 566) (by decide +kernel), rfl⟩
theorem qM_X4_128 : (Cond.methodLink RX4 128 yX0_bring) ∈ gW := gW_mem 567 (by decide +kernel) (by decide +kernel)
theorem qM_X0_47 : (Cond.methodLink RX0 47 yX0_takePiece) ∈ gW := gW_mem 571 (by decide +kernel) (by decide +kernel)
theorem qM_X0_51 : (Cond.methodLink RX0 51 yX0_advance) ∈ gW := gW_mem 575 (by decide +kernel) (by decide +kernel)
theorem qM_X0_55 : (Cond.methodLink RX0 55 yX0_advanceFromFirst) ∈ gW := gW_mem 579 (by decide +kernel) (by decide +kernel)
theorem qM_X0_63 : (Cond.methodLink RX0 63 yX0_firstNotCome) ∈ gW := gW_mem 583 (by decide +kernel) (by decide +kernel)
theorem qM_X0_66 : (Cond.methodLink RX0 66 yX0_give) ∈ gW := gW_mem 587 (by decide +kernel) (by decide +kernel)
theorem qM_X0_59 : (Cond.methodLink RX0 59 yX0_bound) ∈ gW := gW_mem 591 (by decide +kernel) (by decide +kernel)
theorem qM_X0_70 : (Cond.methodLink RX0 70 yJ9_min_7cf53) ∈ gW := gW_mem 595 (by decide +kernel) (by decide +kernel)
theorem qM_L_136 : (Cond.methodLink RL 136 yL_drop) ∈ gW := gW_mem 596 (by decide +kernel) (by decide +kernel)
theorem qM_L_70 : (Cond.methodLink RL 70 yX4_drop) ∈ gW := gW_mem 599 (by decide +kernel) (by decide +kernel)
theorem qM_X4_131 : (Cond.methodLink RX4 131 yX0_takePiece) ∈ gW := gW_mem 603 (by decide +kernel) (by decide +kernel)
theorem qM_L_144 : (Cond.methodLink RL 144 yL_givenAt) ∈ gW := gW_mem 604 (by decide +kernel) (by decide +kernel)
theorem qM_L_73 : (Cond.methodLink RL 73 yX4_givenAt) ∈ gW := gW_mem 607 (by decide +kernel) (by decide +kernel)
theorem sR_X4_139 : (RX4, 139, "not so many packets were given") ∈ hStr := List.mem_filterMap.mpr ⟨Cond.stringRef RX4 139 "not so many packets were given", List.mem_of_getElem? (i := 611) (by decide +kernel), rfl⟩
theorem qC_L_77 : (Cond.classLink RL 77 RX5) ∈ gW := gW_mem 612 (by decide +kernel) (by decide +kernel)
theorem qI_X5 : (Cond.instantiable RX5 27) ∈ gW := gW_mem 613 (by decide +kernel) (by decide +kernel)
theorem qM_L_79 : (Cond.methodLink RL 79 yX5_init) ∈ gW := gW_mem 614 (by decide +kernel) (by decide +kernel)
theorem qM_X5_1 : (Cond.methodLink RX5 1 objectInit) ∈ gW := gW_mem 617 (by decide +kernel) (by decide +kernel)
theorem qF_X5_77 : (Cond.fieldLink RX5 77 "OptionLineModel" "thrown" "I") ∈ gW := gW_mem 618 (by decide +kernel) (by decide +kernel)
theorem qF_X5_9 : (Cond.fieldLink RX5 9 "OptionLineModel" "wishes" "[I") ∈ gW := gW_mem 619 (by decide +kernel) (by decide +kernel)
theorem qF_X5_13 : (Cond.fieldLink RX5 13 "OptionLineModel" "allowed" "[I") ∈ gW := gW_mem 620 (by decide +kernel) (by decide +kernel)
theorem qF_X5_16 : (Cond.fieldLink RX5 16 "OptionLineModel" "asks" "[I") ∈ gW := gW_mem 621 (by decide +kernel) (by decide +kernel)
theorem qF_X5_19 : (Cond.fieldLink RX5 19 "OptionLineModel" "magic" "[I") ∈ gW := gW_mem 622 (by decide +kernel) (by decide +kernel)
theorem qF_X5_22 : (Cond.fieldLink RX5 22 "OptionLineModel" "state" "[I") ∈ gW := gW_mem 623 (by decide +kernel) (by decide +kernel)
theorem qF_X5_25 : (Cond.fieldLink RX5 25 "OptionLineModel" "lastId" "[I") ∈ gW := gW_mem 624 (by decide +kernel) (by decide +kernel)
theorem qF_X5_28 : (Cond.fieldLink RX5 28 "OptionLineModel" "requests" "[I") ∈ gW := gW_mem 625 (by decide +kernel) (by decide +kernel)
theorem qF_X5_31 : (Cond.fieldLink RX5 31 "OptionLineModel" "timer" "[I") ∈ gW := gW_mem 626 (by decide +kernel) (by decide +kernel)
theorem qF_X5_34 : (Cond.fieldLink RX5 34 "OptionLineModel" "isLooped" "[Z") ∈ gW := gW_mem 627 (by decide +kernel) (by decide +kernel)
theorem qF_X5_38 : (Cond.fieldLink RX5 38 "OptionLineModel" "missed" "[I") ∈ gW := gW_mem 628 (by decide +kernel) (by decide +kernel)
theorem qF_X5_41 : (Cond.fieldLink RX5 41 "OptionLineModel" "head" "[I") ∈ gW := gW_mem 629 (by decide +kernel) (by decide +kernel)
theorem qF_X5_44 : (Cond.fieldLink RX5 44 "OptionLineModel" "many" "[I") ∈ gW := gW_mem 630 (by decide +kernel) (by decide +kernel)
theorem qF_X5_47 : (Cond.fieldLink RX5 47 "OptionLineModel" "kind" "[I") ∈ gW := gW_mem 631 (by decide +kernel) (by decide +kernel)
theorem qF_X5_50 : (Cond.fieldLink RX5 50 "OptionLineModel" "id" "[I") ∈ gW := gW_mem 632 (by decide +kernel) (by decide +kernel)
theorem qF_X5_53 : (Cond.fieldLink RX5 53 "OptionLineModel" "number" "[I") ∈ gW := gW_mem 633 (by decide +kernel) (by decide +kernel)
theorem qF_X5_56 : (Cond.fieldLink RX5 56 "OptionLineModel" "told" "[I") ∈ gW := gW_mem 634 (by decide +kernel) (by decide +kernel)
theorem qF_X5_136 : (Cond.fieldLink RX5 136 "OptionLineModel" "packets" "I") ∈ gW := gW_mem 635 (by decide +kernel) (by decide +kernel)
theorem qF_X5_139 : (Cond.fieldLink RX5 139 "OptionLineModel" "pieces" "I") ∈ gW := gW_mem 636 (by decide +kernel) (by decide +kernel)
theorem qF_X5_59 : (Cond.fieldLink RX5 59 "OptionLineModel" "firstOf" "[I") ∈ gW := gW_mem 637 (by decide +kernel) (by decide +kernel)
theorem qF_X5_62 : (Cond.fieldLink RX5 62 "OptionLineModel" "packetOf" "[I") ∈ gW := gW_mem 638 (by decide +kernel) (by decide +kernel)
theorem qF_X5_65 : (Cond.fieldLink RX5 65 "OptionLineModel" "isHere" "[Z") ∈ gW := gW_mem 639 (by decide +kernel) (by decide +kernel)
theorem qF_X5_68 : (Cond.fieldLink RX5 68 "OptionLineModel" "onLine" "[I") ∈ gW := gW_mem 640 (by decide +kernel) (by decide +kernel)
theorem qF_X5_71 : (Cond.fieldLink RX5 71 "OptionLineModel" "latest" "[I") ∈ gW := gW_mem 641 (by decide +kernel) (by decide +kernel)
theorem qF_X5_142 : (Cond.fieldLink RX5 142 "OptionLineModel" "next" "I") ∈ gW := gW_mem 642 (by decide +kernel) (by decide +kernel)
theorem qF_X5_152 : (Cond.fieldLink RX5 152 "OptionLineModel" "given" "I") ∈ gW := gW_mem 643 (by decide +kernel) (by decide +kernel)
theorem qF_X5_74 : (Cond.fieldLink RX5 74 "OptionLineModel" "row" "[I") ∈ gW := gW_mem 644 (by decide +kernel) (by decide +kernel)
theorem qP_X5 : (Cond.superclass RX5 "java/lang/Object") ∈ gW := gW_mem 699 (by decide +kernel) (by decide +kernel)
theorem qM_L_85 : (Cond.methodLink RL 85 yX5_wish) ∈ gW := gW_mem 700 (by decide +kernel) (by decide +kernel)
theorem qM_X5_85 : (Cond.methodLink RX5 85 yX5_isEnd) ∈ gW := gW_mem 704 (by decide +kernel) (by decide +kernel)
theorem qM_X5_81 : (Cond.methodLink RX5 81 yX5_in) ∈ gW := gW_mem 707 (by decide +kernel) (by decide +kernel)
theorem qM_X5_89 : (Cond.methodLink RX5 89 yX5_isOption) ∈ gW := gW_mem 710 (by decide +kernel) (by decide +kernel)
theorem qM_L_88 : (Cond.methodLink RL 88 yX5_allow) ∈ gW := gW_mem 713 (by decide +kernel) (by decide +kernel)
theorem qM_L_92 : (Cond.methodLink RL 92 yX5_setMagic) ∈ gW := gW_mem 717 (by decide +kernel) (by decide +kernel)
theorem qM_L_96 : (Cond.methodLink RL 96 yX5_open) ∈ gW := gW_mem 721 (by decide +kernel) (by decide +kernel)
theorem qM_X5_107 : (Cond.methodLink RX5 107 yX5_begs) ∈ gW := gW_mem 725 (by decide +kernel) (by decide +kernel)
theorem qM_X5_92 : (Cond.methodLink RX5 92 yX5_place) ∈ gW := gW_mem 729 (by decide +kernel) (by decide +kernel)
theorem qM_X5_96 : (Cond.methodLink RX5 96 yX5_sends) ∈ gW := gW_mem 732 (by decide +kernel) (by decide +kernel)
theorem qM_L_99 : (Cond.methodLink RL 99 yX5_close) ∈ gW := gW_mem 736 (by decide +kernel) (by decide +kernel)
theorem qM_L_102 : (Cond.methodLink RL 102 yX5_deliver) ∈ gW := gW_mem 740 (by decide +kernel) (by decide +kernel)
theorem qM_X5_120 : (Cond.methodLink RX5 120 yX5_asksFrame) ∈ gW := gW_mem 744 (by decide +kernel) (by decide +kernel)
theorem qM_X5_123 : (Cond.methodLink RX5 123 yX5_takes) ∈ gW := gW_mem 748 (by decide +kernel) (by decide +kernel)
theorem qM_X5_126 : (Cond.methodLink RX5 126 yX5_comes) ∈ gW := gW_mem 752 (by decide +kernel) (by decide +kernel)
theorem qM_X5_114 : (Cond.methodLink RX5 114 yX5_comesRequest) ∈ gW := gW_mem 756 (by decide +kernel) (by decide +kernel)
theorem qM_X5_110 : (Cond.methodLink RX5 110 yX5_answers) ∈ gW := gW_mem 760 (by decide +kernel) (by decide +kernel)
theorem qM_X5_100 : (Cond.methodLink RX5 100 yX5_valueIn) ∈ gW := gW_mem 764 (by decide +kernel) (by decide +kernel)
theorem qM_X5_104 : (Cond.methodLink RX5 104 yX5_lowest) ∈ gW := gW_mem 767 (by decide +kernel) (by decide +kernel)
theorem qM_X5_117 : (Cond.methodLink RX5 117 yX5_comesAnswer) ∈ gW := gW_mem 770 (by decide +kernel) (by decide +kernel)
theorem qM_L_105 : (Cond.methodLink RL 105 yX5_lose) ∈ gW := gW_mem 774 (by decide +kernel) (by decide +kernel)
theorem qM_L_108 : (Cond.methodLink RL 108 yX5_loop) ∈ gW := gW_mem 778 (by decide +kernel) (by decide +kernel)
theorem qM_L_111 : (Cond.methodLink RL 111 yX5_pass) ∈ gW := gW_mem 782 (by decide +kernel) (by decide +kernel)
theorem qM_X5_130 : (Cond.methodLink RX5 130 yX5_goesBy) ∈ gW := gW_mem 786 (by decide +kernel) (by decide +kernel)
theorem qM_L_114 : (Cond.methodLink RL 114 yX5_stateOf) ∈ gW := gW_mem 790 (by decide +kernel) (by decide +kernel)
theorem qM_X5_133 : (Cond.methodLink RX5 133 yX5_asksEnd) ∈ gW := gW_mem 794 (by decide +kernel) (by decide +kernel)
theorem qM_L_117 : (Cond.methodLink RL 117 yX5_asked) ∈ gW := gW_mem 798 (by decide +kernel) (by decide +kernel)
theorem qM_L_120 : (Cond.methodLink RL 120 yX5_requests) ∈ gW := gW_mem 802 (by decide +kernel) (by decide +kernel)
theorem qM_L_123 : (Cond.methodLink RL 123 yX5_isLooped) ∈ gW := gW_mem 806 (by decide +kernel) (by decide +kernel)
theorem qM_L_126 : (Cond.methodLink RL 126 yX5_underWay) ∈ gW := gW_mem 810 (by decide +kernel) (by decide +kernel)
theorem qM_L_129 : (Cond.methodLink RL 129 yX5_missed) ∈ gW := gW_mem 814 (by decide +kernel) (by decide +kernel)
theorem qM_L_132 : (Cond.methodLink RL 132 yX5_send) ∈ gW := gW_mem 818 (by decide +kernel) (by decide +kernel)
theorem qM_L_135 : (Cond.methodLink RL 135 yX5_come) ∈ gW := gW_mem 822 (by decide +kernel) (by decide +kernel)
theorem qM_X5_155 : (Cond.methodLink RX5 155 yX5_asksLine) ∈ gW := gW_mem 826 (by decide +kernel) (by decide +kernel)
theorem qM_X5_158 : (Cond.methodLink RX5 158 yX5_goesOn) ∈ gW := gW_mem 830 (by decide +kernel) (by decide +kernel)
theorem qM_X5_145 : (Cond.methodLink RX5 145 yX5_bound) ∈ gW := gW_mem 834 (by decide +kernel) (by decide +kernel)
theorem qM_X5_149 : (Cond.methodLink RX5 149 yX5_missing) ∈ gW := gW_mem 838 (by decide +kernel) (by decide +kernel)
theorem qM_L_138 : (Cond.methodLink RL 138 yX5_drop) ∈ gW := gW_mem 842 (by decide +kernel) (by decide +kernel)
theorem qM_L_143 : (Cond.methodLink RL 143 yX5_given) ∈ gW := gW_mem 846 (by decide +kernel) (by decide +kernel)
theorem qM_L_146 : (Cond.methodLink RL 146 yX5_givenAt) ∈ gW := gW_mem 850 (by decide +kernel) (by decide +kernel)
theorem qM_L_150 : (Cond.methodLink RL 150 yX5_next) ∈ gW := gW_mem 854 (by decide +kernel) (by decide +kernel)
theorem qA_long : (Cond.arrayClass .long) ∈ gW := gW_mem 858 (by decide +kernel) (by decide +kernel)
theorem qi_obj : (Cond.instanceMethod objectInit) ∈ gW := gW_mem 56 (by decide +kernel) (by decide +kernel)
theorem qc_obj : (Cond.code objectInit ⟨#[0xb1]⟩ 1 none) ∈ gW := gW_mem 57 (by decide +kernel) (by decide +kernel)
theorem qs_arraycopy : (Cond.static arraycopyName) ∈ gW := gW_mem 340 (by decide +kernel) (by decide +kernel)
theorem qi_clone : (Cond.instanceMethod ⟨"java/lang/Object", "clone", "()Ljava/lang/Object;"⟩) ∈ gW := gW_mem 354 (by decide +kernel) (by decide +kernel)
theorem ql_clone : (Cond.selects "[I" ⟨"[I", "clone", "()Ljava/lang/Object;"⟩ ⟨"java/lang/Object", "clone", "()Ljava/lang/Object;"⟩) ∈ gW := gW_mem 355 (by decide +kernel) (by decide +kernel)
theorem qm_clone : (Cond.sameMethod "[I" "java/lang/Object" "clone" "()Ljava/lang/Object;") ∈ gW := gW_mem 352 (by decide +kernel) (by decide +kernel)
theorem qc_X0_init : (Cond.code yX0_init cX0_init 2 none) ∈ gW := gW_mem 129 (by decide +kernel) (by decide +kernel)
theorem qi_X0_init : (Cond.instanceMethod yX0_init) ∈ gW := gW_mem 128 (by decide +kernel) (by decide +kernel)
theorem mI_X0_init : hMI yX0_init cX0_init 2 0 := ⟨qc_X0_init, qi_X0_init, qN_X0, rfl, ⟨by decide, by decide⟩, by decide +kernel⟩
theorem qc_X0_addPacket : (Cond.code yX0_addPacket cX0_addPacket 4 (some .int)) ∈ gW := gW_mem 549 (by decide +kernel) (by decide +kernel)
theorem qi_X0_addPacket : (Cond.instanceMethod yX0_addPacket) ∈ gW := gW_mem 547 (by decide +kernel) (by decide +kernel)
theorem ql_X0_addPacket : (Cond.selects yX0_addPacket.cls yX0_addPacket yX0_addPacket) ∈ gW := gW_mem 548 (by decide +kernel) (by decide +kernel)
theorem mV_X0_addPacket : hMV yX0_addPacket cX0_addPacket 4 (some .int) 1 := ⟨qc_X0_addPacket, qi_X0_addPacket, ql_X0_addPacket, qN_X0, ⟨by decide, by decide⟩, by decide +kernel⟩
theorem qc_X0_hasPieceOn : (Cond.code yX0_hasPieceOn cX0_hasPieceOn 2 (some .boolean)) ∈ gW := gW_mem 565 (by decide +kernel) (by decide +kernel)
theorem qi_X0_hasPieceOn : (Cond.instanceMethod yX0_hasPieceOn) ∈ gW := gW_mem 563 (by decide +kernel) (by decide +kernel)
theorem ql_X0_hasPieceOn : (Cond.selects yX0_hasPieceOn.cls yX0_hasPieceOn yX0_hasPieceOn) ∈ gW := gW_mem 564 (by decide +kernel) (by decide +kernel)
theorem mV_X0_hasPieceOn : hMV yX0_hasPieceOn cX0_hasPieceOn 2 (some .boolean) 1 := ⟨qc_X0_hasPieceOn, qi_X0_hasPieceOn, ql_X0_hasPieceOn, qN_X0, ⟨by decide, by decide⟩, by decide +kernel⟩
theorem qc_X0_takePiece : (Cond.code yX0_takePiece cX0_takePiece 3 (some .int)) ∈ gW := gW_mem 574 (by decide +kernel) (by decide +kernel)
theorem qi_X0_takePiece : (Cond.instanceMethod yX0_takePiece) ∈ gW := gW_mem 572 (by decide +kernel) (by decide +kernel)
theorem ql_X0_takePiece : (Cond.selects yX0_takePiece.cls yX0_takePiece yX0_takePiece) ∈ gW := gW_mem 573 (by decide +kernel) (by decide +kernel)
theorem mV_X0_takePiece : hMV yX0_takePiece cX0_takePiece 3 (some .int) 1 := ⟨qc_X0_takePiece, qi_X0_takePiece, ql_X0_takePiece, qN_X0, ⟨by decide, by decide⟩, by decide +kernel⟩
theorem qc_X0_bring : (Cond.code yX0_bring cX0_bring 5 (some .int)) ∈ gW := gW_mem 570 (by decide +kernel) (by decide +kernel)
theorem qi_X0_bring : (Cond.instanceMethod yX0_bring) ∈ gW := gW_mem 568 (by decide +kernel) (by decide +kernel)
theorem ql_X0_bring : (Cond.selects yX0_bring.cls yX0_bring yX0_bring) ∈ gW := gW_mem 569 (by decide +kernel) (by decide +kernel)
theorem mV_X0_bring : hMV yX0_bring cX0_bring 5 (some .int) 1 := ⟨qc_X0_bring, qi_X0_bring, ql_X0_bring, qN_X0, ⟨by decide, by decide⟩, by decide +kernel⟩
theorem qc_X0_advance : (Cond.code yX0_advance cX0_advance 3 (some .boolean)) ∈ gW := gW_mem 578 (by decide +kernel) (by decide +kernel)
theorem qi_X0_advance : (Cond.instanceMethod yX0_advance) ∈ gW := gW_mem 577 (by decide +kernel) (by decide +kernel)
theorem ql_X0_advance : (Cond.selects yX0_advance.cls yX0_advance yX0_advance) ∈ gW := gW_mem 15 (by decide +kernel) (by decide +kernel)
theorem mV_X0_advance : hMV yX0_advance cX0_advance 3 (some .boolean) 0 := ⟨qc_X0_advance, qi_X0_advance, ql_X0_advance, qN_X0, ⟨by decide, by decide⟩, by decide +kernel⟩
theorem qc_X0_advanceFromFirst : (Cond.code yX0_advanceFromFirst cX0_advanceFromFirst 3 (some .boolean)) ∈ gW := gW_mem 582 (by decide +kernel) (by decide +kernel)
theorem qi_X0_advanceFromFirst : (Cond.instanceMethod yX0_advanceFromFirst) ∈ gW := gW_mem 581 (by decide +kernel) (by decide +kernel)
theorem ql_X0_advanceFromFirst : (Cond.selects yX0_advanceFromFirst.cls yX0_advanceFromFirst yX0_advanceFromFirst) ∈ gW := gW_mem 16 (by decide +kernel) (by decide +kernel)
theorem mV_X0_advanceFromFirst : hMV yX0_advanceFromFirst cX0_advanceFromFirst 3 (some .boolean) 1 := ⟨qc_X0_advanceFromFirst, qi_X0_advanceFromFirst, ql_X0_advanceFromFirst, qN_X0, ⟨by decide, by decide⟩, by decide +kernel⟩
theorem qc_X0_give : (Cond.code yX0_give cX0_give 2 none) ∈ gW := gW_mem 590 (by decide +kernel) (by decide +kernel)
theorem qi_X0_give : (Cond.instanceMethod yX0_give) ∈ gW := gW_mem 589 (by decide +kernel) (by decide +kernel)
theorem ql_X0_give : (Cond.selects yX0_give.cls yX0_give yX0_give) ∈ gW := gW_mem 18 (by decide +kernel) (by decide +kernel)
theorem mV_X0_give : hMV yX0_give cX0_give 2 none 1 := ⟨qc_X0_give, qi_X0_give, ql_X0_give, qN_X0, ⟨by decide, by decide⟩, by decide +kernel⟩
theorem qc_X0_firstNotCome : (Cond.code yX0_firstNotCome cX0_firstNotCome 4 (some .int)) ∈ gW := gW_mem 586 (by decide +kernel) (by decide +kernel)
theorem qi_X0_firstNotCome : (Cond.instanceMethod yX0_firstNotCome) ∈ gW := gW_mem 585 (by decide +kernel) (by decide +kernel)
theorem ql_X0_firstNotCome : (Cond.selects yX0_firstNotCome.cls yX0_firstNotCome yX0_firstNotCome) ∈ gW := gW_mem 17 (by decide +kernel) (by decide +kernel)
theorem mV_X0_firstNotCome : hMV yX0_firstNotCome cX0_firstNotCome 4 (some .int) 1 := ⟨qc_X0_firstNotCome, qi_X0_firstNotCome, ql_X0_firstNotCome, qN_X0, ⟨by decide, by decide⟩, by decide +kernel⟩
theorem qc_X0_bound : (Cond.code yX0_bound cX0_bound 3 (some .int)) ∈ gW := gW_mem 594 (by decide +kernel) (by decide +kernel)
theorem qi_X0_bound : (Cond.instanceMethod yX0_bound) ∈ gW := gW_mem 593 (by decide +kernel) (by decide +kernel)
theorem ql_X0_bound : (Cond.selects yX0_bound.cls yX0_bound yX0_bound) ∈ gW := gW_mem 19 (by decide +kernel) (by decide +kernel)
theorem mV_X0_bound : hMV yX0_bound cX0_bound 3 (some .int) 0 := ⟨qc_X0_bound, qi_X0_bound, ql_X0_bound, qN_X0, ⟨by decide, by decide⟩, by decide +kernel⟩
theorem qc_X1_init : (Cond.code yX1_init cX1_init 2 none) ∈ gW := gW_mem 62 (by decide +kernel) (by decide +kernel)
theorem qi_X1_init : (Cond.instanceMethod yX1_init) ∈ gW := gW_mem 61 (by decide +kernel) (by decide +kernel)
theorem mI_X1_init : hMI yX1_init cX1_init 2 1 := ⟨qc_X1_init, qi_X1_init, qN_X1, rfl, ⟨by decide, by decide⟩, by decide +kernel⟩
theorem qc_X1_changeWish : (Cond.code yX1_changeWish cX1_changeWish 4 (some .int)) ∈ gW := gW_mem 287 (by decide +kernel) (by decide +kernel)
theorem qi_X1_changeWish : (Cond.instanceMethod yX1_changeWish) ∈ gW := gW_mem 285 (by decide +kernel) (by decide +kernel)
theorem ql_X1_changeWish : (Cond.selects yX1_changeWish.cls yX1_changeWish yX1_changeWish) ∈ gW := gW_mem 286 (by decide +kernel) (by decide +kernel)
theorem mV_X1_changeWish : hMV yX1_changeWish cX1_changeWish 4 (some .int) 2 := ⟨qc_X1_changeWish, qi_X1_changeWish, ql_X1_changeWish, qN_X1, ⟨by decide, by decide⟩, by decide +kernel⟩
theorem qc_X1_changeAllowed : (Cond.code yX1_changeAllowed cX1_changeAllowed 4 (some .int)) ∈ gW := gW_mem 299 (by decide +kernel) (by decide +kernel)
theorem qi_X1_changeAllowed : (Cond.instanceMethod yX1_changeAllowed) ∈ gW := gW_mem 297 (by decide +kernel) (by decide +kernel)
theorem ql_X1_changeAllowed : (Cond.selects yX1_changeAllowed.cls yX1_changeAllowed yX1_changeAllowed) ∈ gW := gW_mem 298 (by decide +kernel) (by decide +kernel)
theorem mV_X1_changeAllowed : hMV yX1_changeAllowed cX1_changeAllowed 4 (some .int) 2 := ⟨qc_X1_changeAllowed, qi_X1_changeAllowed, ql_X1_changeAllowed, qN_X1, ⟨by decide, by decide⟩, by decide +kernel⟩
theorem qc_X1_changeMagic : (Cond.code yX1_changeMagic cX1_changeMagic 3 (some .int)) ∈ gW := gW_mem 310 (by decide +kernel) (by decide +kernel)
theorem qi_X1_changeMagic : (Cond.instanceMethod yX1_changeMagic) ∈ gW := gW_mem 308 (by decide +kernel) (by decide +kernel)
theorem ql_X1_changeMagic : (Cond.selects yX1_changeMagic.cls yX1_changeMagic yX1_changeMagic) ∈ gW := gW_mem 309 (by decide +kernel) (by decide +kernel)
theorem mV_X1_changeMagic : hMV yX1_changeMagic cX1_changeMagic 3 (some .int) 1 := ⟨qc_X1_changeMagic, qi_X1_changeMagic, ql_X1_changeMagic, qN_X1, ⟨by decide, by decide⟩, by decide +kernel⟩
theorem qc_X1_begin : (Cond.code yX1_begin cX1_begin 1 (some .int)) ∈ gW := gW_mem 338 (by decide +kernel) (by decide +kernel)
theorem qi_X1_begin : (Cond.instanceMethod yX1_begin) ∈ gW := gW_mem 336 (by decide +kernel) (by decide +kernel)
theorem ql_X1_begin : (Cond.selects yX1_begin.cls yX1_begin yX1_begin) ∈ gW := gW_mem 337 (by decide +kernel) (by decide +kernel)
theorem mV_X1_begin : hMV yX1_begin cX1_begin 1 (some .int) 0 := ⟨qc_X1_begin, qi_X1_begin, ql_X1_begin, qN_X1, ⟨by decide, by decide⟩, by decide +kernel⟩
theorem qc_X1_finish : (Cond.code yX1_finish cX1_finish 2 (some .int)) ∈ gW := gW_mem 402 (by decide +kernel) (by decide +kernel)
theorem qi_X1_finish : (Cond.instanceMethod yX1_finish) ∈ gW := gW_mem 400 (by decide +kernel) (by decide +kernel)
theorem ql_X1_finish : (Cond.selects yX1_finish.cls yX1_finish yX1_finish) ∈ gW := gW_mem 401 (by decide +kernel) (by decide +kernel)
theorem mV_X1_finish : hMV yX1_finish cX1_finish 2 (some .int) 0 := ⟨qc_X1_finish, qi_X1_finish, ql_X1_finish, qN_X1, ⟨by decide, by decide⟩, by decide +kernel⟩
theorem qc_X1_tick : (Cond.code yX1_tick cX1_tick 1 (some .boolean)) ∈ gW := gW_mem 494 (by decide +kernel) (by decide +kernel)
theorem qi_X1_tick : (Cond.instanceMethod yX1_tick) ∈ gW := gW_mem 492 (by decide +kernel) (by decide +kernel)
theorem ql_X1_tick : (Cond.selects yX1_tick.cls yX1_tick yX1_tick) ∈ gW := gW_mem 493 (by decide +kernel) (by decide +kernel)
theorem mV_X1_tick : hMV yX1_tick cX1_tick 1 (some .boolean) 0 := ⟨qc_X1_tick, qi_X1_tick, ql_X1_tick, qN_X1, ⟨by decide, by decide⟩, by decide +kernel⟩
theorem qc_X1_hear : (Cond.code yX1_hear cX1_hear 2 none) ∈ gW := gW_mem 428 (by decide +kernel) (by decide +kernel)
theorem qi_X1_hear : (Cond.instanceMethod yX1_hear) ∈ gW := gW_mem 426 (by decide +kernel) (by decide +kernel)
theorem ql_X1_hear : (Cond.selects yX1_hear.cls yX1_hear yX1_hear) ∈ gW := gW_mem 427 (by decide +kernel) (by decide +kernel)
theorem mV_X1_hear : hMV yX1_hear cX1_hear 2 none 1 := ⟨qc_X1_hear, qi_X1_hear, ql_X1_hear, qN_X1, ⟨by decide, by decide⟩, by decide +kernel⟩
theorem qc_X1_hearRequest : (Cond.code yX1_hearRequest cX1_hearRequest 2 none) ∈ gW := gW_mem 432 (by decide +kernel) (by decide +kernel)
theorem qi_X1_hearRequest : (Cond.instanceMethod yX1_hearRequest) ∈ gW := gW_mem 431 (by decide +kernel) (by decide +kernel)
theorem ql_X1_hearRequest : (Cond.selects yX1_hearRequest.cls yX1_hearRequest yX1_hearRequest) ∈ gW := gW_mem 4 (by decide +kernel) (by decide +kernel)
theorem mV_X1_hearRequest : hMV yX1_hearRequest cX1_hearRequest 2 none 1 := ⟨qc_X1_hearRequest, qi_X1_hearRequest, ql_X1_hearRequest, qN_X1, ⟨by decide, by decide⟩, by decide +kernel⟩
theorem qc_X1_hearAnswer : (Cond.code yX1_hearAnswer cX1_hearAnswer 3 none) ∈ gW := gW_mem 464 (by decide +kernel) (by decide +kernel)
theorem qi_X1_hearAnswer : (Cond.instanceMethod yX1_hearAnswer) ∈ gW := gW_mem 463 (by decide +kernel) (by decide +kernel)
theorem ql_X1_hearAnswer : (Cond.selects yX1_hearAnswer.cls yX1_hearAnswer yX1_hearAnswer) ∈ gW := gW_mem 12 (by decide +kernel) (by decide +kernel)
theorem mV_X1_hearAnswer : hMV yX1_hearAnswer cX1_hearAnswer 3 none 1 := ⟨qc_X1_hearAnswer, qi_X1_hearAnswer, ql_X1_hearAnswer, qN_X1, ⟨by decide, by decide⟩, by decide +kernel⟩
theorem qc_X1_changeAskedFor : (Cond.code yX1_changeAskedFor cX1_changeAskedFor 3 none) ∈ gW := gW_mem 468 (by decide +kernel) (by decide +kernel)
theorem qi_X1_changeAskedFor : (Cond.instanceMethod yX1_changeAskedFor) ∈ gW := gW_mem 467 (by decide +kernel) (by decide +kernel)
theorem ql_X1_changeAskedFor : (Cond.selects yX1_changeAskedFor.cls yX1_changeAskedFor yX1_changeAskedFor) ∈ gW := gW_mem 13 (by decide +kernel) (by decide +kernel)
theorem mV_X1_changeAskedFor : hMV yX1_changeAskedFor cX1_changeAskedFor 3 none 1 := ⟨qc_X1_changeAskedFor, qi_X1_changeAskedFor, ql_X1_changeAskedFor, qN_X1, ⟨by decide, by decide⟩, by decide +kernel⟩
theorem qc_X1_ask : (Cond.code yX1_ask cX1_ask 1 (some .boolean)) ∈ gW := gW_mem 345 (by decide +kernel) (by decide +kernel)
theorem qi_X1_ask : (Cond.instanceMethod yX1_ask) ∈ gW := gW_mem 344 (by decide +kernel) (by decide +kernel)
theorem ql_X1_ask : (Cond.selects yX1_ask.cls yX1_ask yX1_ask) ∈ gW := gW_mem 2 (by decide +kernel) (by decide +kernel)
theorem mV_X1_ask : hMV yX1_ask cX1_ask 1 (some .boolean) 0 := ⟨qc_X1_ask, qi_X1_ask, ql_X1_ask, qN_X1, ⟨by decide, by decide⟩, by decide +kernel⟩
theorem qc_X1_sendStop : (Cond.code yX1_sendStop cX1_sendStop 1 none) ∈ gW := gW_mem 406 (by decide +kernel) (by decide +kernel)
theorem qi_X1_sendStop : (Cond.instanceMethod yX1_sendStop) ∈ gW := gW_mem 405 (by decide +kernel) (by decide +kernel)
theorem ql_X1_sendStop : (Cond.selects yX1_sendStop.cls yX1_sendStop yX1_sendStop) ∈ gW := gW_mem 3 (by decide +kernel) (by decide +kernel)
theorem mV_X1_sendStop : hMV yX1_sendStop cX1_sendStop 1 none 0 := ⟨qc_X1_sendStop, qi_X1_sendStop, ql_X1_sendStop, qN_X1, ⟨by decide, by decide⟩, by decide +kernel⟩
theorem qc_X1_answer : (Cond.code yX1_answer cX1_answer 3 none) ∈ gW := gW_mem 436 (by decide +kernel) (by decide +kernel)
theorem qi_X1_answer : (Cond.instanceMethod yX1_answer) ∈ gW := gW_mem 435 (by decide +kernel) (by decide +kernel)
theorem ql_X1_answer : (Cond.selects yX1_answer.cls yX1_answer yX1_answer) ∈ gW := gW_mem 5 (by decide +kernel) (by decide +kernel)
theorem mV_X1_answer : hMV yX1_answer cX1_answer 3 none 1 := ⟨qc_X1_answer, qi_X1_answer, ql_X1_answer, qN_X1, ⟨by decide, by decide⟩, by decide +kernel⟩
theorem qc_X1_kindOfAnswer : (Cond.code yX1_kindOfAnswer cX1_kindOfAnswer 4 (some .int)) ∈ gW := gW_mem 440 (by decide +kernel) (by decide +kernel)
theorem qi_X1_kindOfAnswer : (Cond.instanceMethod yX1_kindOfAnswer) ∈ gW := gW_mem 439 (by decide +kernel) (by decide +kernel)
theorem ql_X1_kindOfAnswer : (Cond.selects yX1_kindOfAnswer.cls yX1_kindOfAnswer yX1_kindOfAnswer) ∈ gW := gW_mem 6 (by decide +kernel) (by decide +kernel)
theorem mV_X1_kindOfAnswer : hMV yX1_kindOfAnswer cX1_kindOfAnswer 4 (some .int) 1 := ⟨qc_X1_kindOfAnswer, qi_X1_kindOfAnswer, ql_X1_kindOfAnswer, qN_X1, ⟨by decide, by decide⟩, by decide +kernel⟩
theorem qc_X1_toldOptions : (Cond.code yX1_toldOptions cX1_toldOptions 5 (some (.array .int))) ∈ gW := gW_mem 456 (by decide +kernel) (by decide +kernel)
theorem qi_X1_toldOptions : (Cond.instanceMethod yX1_toldOptions) ∈ gW := gW_mem 455 (by decide +kernel) (by decide +kernel)
theorem ql_X1_toldOptions : (Cond.selects yX1_toldOptions.cls yX1_toldOptions yX1_toldOptions) ∈ gW := gW_mem 10 (by decide +kernel) (by decide +kernel)
theorem mV_X1_toldOptions : hMV yX1_toldOptions cX1_toldOptions 5 (some (.array .int)) 2 := ⟨qc_X1_toldOptions, qi_X1_toldOptions, ql_X1_toldOptions, qN_X1, ⟨by decide, by decide⟩, by decide +kernel⟩
theorem qc_X1_isUnknown : (Cond.code yX1_isUnknown cX1_isUnknown 3 (some .boolean)) ∈ gW := gW_mem 444 (by decide +kernel) (by decide +kernel)
theorem qi_X1_isUnknown : (Cond.instanceMethod yX1_isUnknown) ∈ gW := gW_mem 443 (by decide +kernel) (by decide +kernel)
theorem ql_X1_isUnknown : (Cond.selects yX1_isUnknown.cls yX1_isUnknown yX1_isUnknown) ∈ gW := gW_mem 7 (by decide +kernel) (by decide +kernel)
theorem mV_X1_isUnknown : hMV yX1_isUnknown cX1_isUnknown 3 (some .boolean) 2 := ⟨qc_X1_isUnknown, qi_X1_isUnknown, ql_X1_isUnknown, qN_X1, ⟨by decide, by decide⟩, by decide +kernel⟩
theorem qc_X1_isRefused : (Cond.code yX1_isRefused cX1_isRefused 3 (some .boolean)) ∈ gW := gW_mem 448 (by decide +kernel) (by decide +kernel)
theorem qi_X1_isRefused : (Cond.instanceMethod yX1_isRefused) ∈ gW := gW_mem 447 (by decide +kernel) (by decide +kernel)
theorem ql_X1_isRefused : (Cond.selects yX1_isRefused.cls yX1_isRefused yX1_isRefused) ∈ gW := gW_mem 8 (by decide +kernel) (by decide +kernel)
theorem mV_X1_isRefused : hMV yX1_isRefused cX1_isRefused 3 (some .boolean) 2 := ⟨qc_X1_isRefused, qi_X1_isRefused, ql_X1_isRefused, qN_X1, ⟨by decide, by decide⟩, by decide +kernel⟩
theorem qc_X1_allows : (Cond.code yX1_allows cX1_allows 3 (some .boolean)) ∈ gW := gW_mem 452 (by decide +kernel) (by decide +kernel)
theorem qi_X1_allows : (Cond.instanceMethod yX1_allows) ∈ gW := gW_mem 451 (by decide +kernel) (by decide +kernel)
theorem ql_X1_allows : (Cond.selects yX1_allows.cls yX1_allows yX1_allows) ∈ gW := gW_mem 9 (by decide +kernel) (by decide +kernel)
theorem mV_X1_allows : hMV yX1_allows cX1_allows 3 (some .boolean) 2 := ⟨qc_X1_allows, qi_X1_allows, ql_X1_allows, qN_X1, ⟨by decide, by decide⟩, by decide +kernel⟩
theorem qc_X1_lowestAllowed : (Cond.code yX1_lowestAllowed cX1_lowestAllowed 3 (some .int)) ∈ gW := gW_mem 460 (by decide +kernel) (by decide +kernel)
theorem qi_X1_lowestAllowed : (Cond.instanceMethod yX1_lowestAllowed) ∈ gW := gW_mem 459 (by decide +kernel) (by decide +kernel)
theorem ql_X1_lowestAllowed : (Cond.selects yX1_lowestAllowed.cls yX1_lowestAllowed yX1_lowestAllowed) ∈ gW := gW_mem 11 (by decide +kernel) (by decide +kernel)
theorem mV_X1_lowestAllowed : hMV yX1_lowestAllowed cX1_lowestAllowed 3 (some .int) 1 := ⟨qc_X1_lowestAllowed, qi_X1_lowestAllowed, ql_X1_lowestAllowed, qN_X1, ⟨by decide, by decide⟩, by decide +kernel⟩
theorem qc_X1_tellNothing : (Cond.code yX1_tellNothing cX1_tellNothing 1 (some (.array .int))) ∈ gW := gW_mem 409 (by decide +kernel) (by decide +kernel)
theorem qs_X1_tellNothing : (Cond.static yX1_tellNothing) ∈ gW := gW_mem 408 (by decide +kernel) (by decide +kernel)
theorem mS_X1_tellNothing : hMS yX1_tellNothing cX1_tellNothing 1 (some (.array .int)) 0 := ⟨qc_X1_tellNothing, qs_X1_tellNothing, qN_X1, ⟨by decide, by decide⟩, by decide +kernel⟩
theorem qc_X2_init : (Cond.code yX2_init cX2_init 5 none) ∈ gW := gW_mem 364 (by decide +kernel) (by decide +kernel)
theorem qi_X2_init : (Cond.instanceMethod yX2_init) ∈ gW := gW_mem 363 (by decide +kernel) (by decide +kernel)
theorem mI_X2_init : hMI yX2_init cX2_init 5 4 := ⟨qc_X2_init, qi_X2_init, qN_X2, rfl, ⟨by decide, by decide⟩, by decide +kernel⟩
theorem qc_X3_init : (Cond.code yX3_init cX3_init 1 none) ∈ gW := gW_mem 68 (by decide +kernel) (by decide +kernel)
theorem qi_X3_init : (Cond.instanceMethod yX3_init) ∈ gW := gW_mem 67 (by decide +kernel) (by decide +kernel)
theorem mI_X3_init : hMI yX3_init cX3_init 1 0 := ⟨qc_X3_init, qi_X3_init, qN_X3, rfl, ⟨by decide, by decide⟩, by decide +kernel⟩
theorem qc_X3_put : (Cond.code yX3_put cX3_put 2 none) ∈ gW := gW_mem 390 (by decide +kernel) (by decide +kernel)
theorem qi_X3_put : (Cond.instanceMethod yX3_put) ∈ gW := gW_mem 388 (by decide +kernel) (by decide +kernel)
theorem ql_X3_put : (Cond.selects yX3_put.cls yX3_put yX3_put) ∈ gW := gW_mem 389 (by decide +kernel) (by decide +kernel)
theorem mV_X3_put : hMV yX3_put cX3_put 2 none 1 := ⟨qc_X3_put, qi_X3_put, ql_X3_put, qN_X3, ⟨by decide, by decide⟩, by decide +kernel⟩
theorem qc_X3_takeFirst : (Cond.code yX3_takeFirst cX3_takeFirst 2 (some (.object "OptionLine$Frame"))) ∈ gW := gW_mem 423 (by decide +kernel) (by decide +kernel)
theorem qi_X3_takeFirst : (Cond.instanceMethod yX3_takeFirst) ∈ gW := gW_mem 421 (by decide +kernel) (by decide +kernel)
theorem ql_X3_takeFirst : (Cond.selects yX3_takeFirst.cls yX3_takeFirst yX3_takeFirst) ∈ gW := gW_mem 422 (by decide +kernel) (by decide +kernel)
theorem mV_X3_takeFirst : hMV yX3_takeFirst cX3_takeFirst 2 (some (.object "OptionLine$Frame")) 0 := ⟨qc_X3_takeFirst, qi_X3_takeFirst, ql_X3_takeFirst, qN_X3, ⟨by decide, by decide⟩, by decide +kernel⟩
theorem qc_X4_init : (Cond.code yX4_init cX4_init 1 none) ∈ gW := gW_mem 54 (by decide +kernel) (by decide +kernel)
theorem qi_X4_init : (Cond.instanceMethod yX4_init) ∈ gW := gW_mem 53 (by decide +kernel) (by decide +kernel)
theorem mI_X4_init : hMI yX4_init cX4_init 1 0 := ⟨qc_X4_init, qi_X4_init, qN_X4, rfl, ⟨by decide, by decide⟩, by decide +kernel⟩
theorem qc_X4_wish : (Cond.code yX4_wish cX4_wish 5 (some .int)) ∈ gW := gW_mem 191 (by decide +kernel) (by decide +kernel)
theorem qi_X4_wish : (Cond.instanceMethod yX4_wish) ∈ gW := gW_mem 189 (by decide +kernel) (by decide +kernel)
theorem ql_X4_wish : (Cond.selects yX4_wish.cls yX4_wish yX4_wish) ∈ gW := gW_mem 190 (by decide +kernel) (by decide +kernel)
theorem mV_X4_wish : hMV yX4_wish cX4_wish 5 (some .int) 3 := ⟨qc_X4_wish, qi_X4_wish, ql_X4_wish, qN_X4, ⟨by decide, by decide⟩, by decide +kernel⟩
theorem qc_X4_allow : (Cond.code yX4_allow cX4_allow 5 (some .int)) ∈ gW := gW_mem 294 (by decide +kernel) (by decide +kernel)
theorem qi_X4_allow : (Cond.instanceMethod yX4_allow) ∈ gW := gW_mem 292 (by decide +kernel) (by decide +kernel)
theorem ql_X4_allow : (Cond.selects yX4_allow.cls yX4_allow yX4_allow) ∈ gW := gW_mem 293 (by decide +kernel) (by decide +kernel)
theorem mV_X4_allow : hMV yX4_allow cX4_allow 5 (some .int) 3 := ⟨qc_X4_allow, qi_X4_allow, ql_X4_allow, qN_X4, ⟨by decide, by decide⟩, by decide +kernel⟩
theorem qc_X4_setMagic : (Cond.code yX4_setMagic cX4_setMagic 3 (some .int)) ∈ gW := gW_mem 306 (by decide +kernel) (by decide +kernel)
theorem qi_X4_setMagic : (Cond.instanceMethod yX4_setMagic) ∈ gW := gW_mem 304 (by decide +kernel) (by decide +kernel)
theorem ql_X4_setMagic : (Cond.selects yX4_setMagic.cls yX4_setMagic yX4_setMagic) ∈ gW := gW_mem 305 (by decide +kernel) (by decide +kernel)
theorem mV_X4_setMagic : hMV yX4_setMagic cX4_setMagic 3 (some .int) 2 := ⟨qc_X4_setMagic, qi_X4_setMagic, ql_X4_setMagic, qN_X4, ⟨by decide, by decide⟩, by decide +kernel⟩
theorem qc_X4_open : (Cond.code yX4_open cX4_open 3 (some .int)) ∈ gW := gW_mem 318 (by decide +kernel) (by decide +kernel)
theorem qi_X4_open : (Cond.instanceMethod yX4_open) ∈ gW := gW_mem 316 (by decide +kernel) (by decide +kernel)
theorem ql_X4_open : (Cond.selects yX4_open.cls yX4_open yX4_open) ∈ gW := gW_mem 317 (by decide +kernel) (by decide +kernel)
theorem mV_X4_open : hMV yX4_open cX4_open 3 (some .int) 1 := ⟨qc_X4_open, qi_X4_open, ql_X4_open, qN_X4, ⟨by decide, by decide⟩, by decide +kernel⟩
theorem qc_X4_close : (Cond.code yX4_close cX4_close 3 (some .int)) ∈ gW := gW_mem 397 (by decide +kernel) (by decide +kernel)
theorem qi_X4_close : (Cond.instanceMethod yX4_close) ∈ gW := gW_mem 395 (by decide +kernel) (by decide +kernel)
theorem ql_X4_close : (Cond.selects yX4_close.cls yX4_close yX4_close) ∈ gW := gW_mem 396 (by decide +kernel) (by decide +kernel)
theorem mV_X4_close : hMV yX4_close cX4_close 3 (some .int) 1 := ⟨qc_X4_close, qi_X4_close, ql_X4_close, qN_X4, ⟨by decide, by decide⟩, by decide +kernel⟩
theorem qc_X4_deliver : (Cond.code yX4_deliver cX4_deliver 3 (some .int)) ∈ gW := gW_mem 416 (by decide +kernel) (by decide +kernel)
theorem qi_X4_deliver : (Cond.instanceMethod yX4_deliver) ∈ gW := gW_mem 414 (by decide +kernel) (by decide +kernel)
theorem ql_X4_deliver : (Cond.selects yX4_deliver.cls yX4_deliver yX4_deliver) ∈ gW := gW_mem 415 (by decide +kernel) (by decide +kernel)
theorem mV_X4_deliver : hMV yX4_deliver cX4_deliver 3 (some .int) 1 := ⟨qc_X4_deliver, qi_X4_deliver, ql_X4_deliver, qN_X4, ⟨by decide, by decide⟩, by decide +kernel⟩
theorem qc_X4_lose : (Cond.code yX4_lose cX4_lose 4 (some .int)) ∈ gW := gW_mem 475 (by decide +kernel) (by decide +kernel)
theorem qi_X4_lose : (Cond.instanceMethod yX4_lose) ∈ gW := gW_mem 473 (by decide +kernel) (by decide +kernel)
theorem ql_X4_lose : (Cond.selects yX4_lose.cls yX4_lose yX4_lose) ∈ gW := gW_mem 474 (by decide +kernel) (by decide +kernel)
theorem mV_X4_lose : hMV yX4_lose cX4_lose 4 (some .int) 1 := ⟨qc_X4_lose, qi_X4_lose, ql_X4_lose, qN_X4, ⟨by decide, by decide⟩, by decide +kernel⟩
theorem qc_X4_loop : (Cond.code yX4_loop cX4_loop 4 (some .int)) ∈ gW := gW_mem 482 (by decide +kernel) (by decide +kernel)
theorem qi_X4_loop : (Cond.instanceMethod yX4_loop) ∈ gW := gW_mem 480 (by decide +kernel) (by decide +kernel)
theorem ql_X4_loop : (Cond.selects yX4_loop.cls yX4_loop yX4_loop) ∈ gW := gW_mem 481 (by decide +kernel) (by decide +kernel)
theorem mV_X4_loop : hMV yX4_loop cX4_loop 4 (some .int) 1 := ⟨qc_X4_loop, qi_X4_loop, ql_X4_loop, qN_X4, ⟨by decide, by decide⟩, by decide +kernel⟩
theorem qc_X4_pass : (Cond.code yX4_pass cX4_pass 4 (some .int)) ∈ gW := gW_mem 489 (by decide +kernel) (by decide +kernel)
theorem qi_X4_pass : (Cond.instanceMethod yX4_pass) ∈ gW := gW_mem 487 (by decide +kernel) (by decide +kernel)
theorem ql_X4_pass : (Cond.selects yX4_pass.cls yX4_pass yX4_pass) ∈ gW := gW_mem 488 (by decide +kernel) (by decide +kernel)
theorem mV_X4_pass : hMV yX4_pass cX4_pass 4 (some .int) 1 := ⟨qc_X4_pass, qi_X4_pass, ql_X4_pass, qN_X4, ⟨by decide, by decide⟩, by decide +kernel⟩
theorem qc_X4_stateOf : (Cond.code yX4_stateOf cX4_stateOf 2 (some .int)) ∈ gW := gW_mem 501 (by decide +kernel) (by decide +kernel)
theorem qi_X4_stateOf : (Cond.instanceMethod yX4_stateOf) ∈ gW := gW_mem 499 (by decide +kernel) (by decide +kernel)
theorem ql_X4_stateOf : (Cond.selects yX4_stateOf.cls yX4_stateOf yX4_stateOf) ∈ gW := gW_mem 500 (by decide +kernel) (by decide +kernel)
theorem mV_X4_stateOf : hMV yX4_stateOf cX4_stateOf 2 (some .int) 1 := ⟨qc_X4_stateOf, qi_X4_stateOf, ql_X4_stateOf, qN_X4, ⟨by decide, by decide⟩, by decide +kernel⟩
theorem qc_X4_asked : (Cond.code yX4_asked cX4_asked 4 (some .int)) ∈ gW := gW_mem 508 (by decide +kernel) (by decide +kernel)
theorem qi_X4_asked : (Cond.instanceMethod yX4_asked) ∈ gW := gW_mem 506 (by decide +kernel) (by decide +kernel)
theorem ql_X4_asked : (Cond.selects yX4_asked.cls yX4_asked yX4_asked) ∈ gW := gW_mem 507 (by decide +kernel) (by decide +kernel)
theorem mV_X4_asked : hMV yX4_asked cX4_asked 4 (some .int) 2 := ⟨qc_X4_asked, qi_X4_asked, ql_X4_asked, qN_X4, ⟨by decide, by decide⟩, by decide +kernel⟩
theorem qc_X4_requests : (Cond.code yX4_requests cX4_requests 2 (some .int)) ∈ gW := gW_mem 515 (by decide +kernel) (by decide +kernel)
theorem qi_X4_requests : (Cond.instanceMethod yX4_requests) ∈ gW := gW_mem 513 (by decide +kernel) (by decide +kernel)
theorem ql_X4_requests : (Cond.selects yX4_requests.cls yX4_requests yX4_requests) ∈ gW := gW_mem 514 (by decide +kernel) (by decide +kernel)
theorem mV_X4_requests : hMV yX4_requests cX4_requests 2 (some .int) 1 := ⟨qc_X4_requests, qi_X4_requests, ql_X4_requests, qN_X4, ⟨by decide, by decide⟩, by decide +kernel⟩
theorem qc_X4_isLooped : (Cond.code yX4_isLooped cX4_isLooped 2 (some .boolean)) ∈ gW := gW_mem 522 (by decide +kernel) (by decide +kernel)
theorem qi_X4_isLooped : (Cond.instanceMethod yX4_isLooped) ∈ gW := gW_mem 520 (by decide +kernel) (by decide +kernel)
theorem ql_X4_isLooped : (Cond.selects yX4_isLooped.cls yX4_isLooped yX4_isLooped) ∈ gW := gW_mem 521 (by decide +kernel) (by decide +kernel)
theorem mV_X4_isLooped : hMV yX4_isLooped cX4_isLooped 2 (some .boolean) 1 := ⟨qc_X4_isLooped, qi_X4_isLooped, ql_X4_isLooped, qN_X4, ⟨by decide, by decide⟩, by decide +kernel⟩
theorem qc_X4_underWay : (Cond.code yX4_underWay cX4_underWay 2 (some .int)) ∈ gW := gW_mem 529 (by decide +kernel) (by decide +kernel)
theorem qi_X4_underWay : (Cond.instanceMethod yX4_underWay) ∈ gW := gW_mem 527 (by decide +kernel) (by decide +kernel)
theorem ql_X4_underWay : (Cond.selects yX4_underWay.cls yX4_underWay yX4_underWay) ∈ gW := gW_mem 528 (by decide +kernel) (by decide +kernel)
theorem mV_X4_underWay : hMV yX4_underWay cX4_underWay 2 (some .int) 1 := ⟨qc_X4_underWay, qi_X4_underWay, ql_X4_underWay, qN_X4, ⟨by decide, by decide⟩, by decide +kernel⟩
theorem qc_X4_missed : (Cond.code yX4_missed cX4_missed 2 (some .int)) ∈ gW := gW_mem 536 (by decide +kernel) (by decide +kernel)
theorem qi_X4_missed : (Cond.instanceMethod yX4_missed) ∈ gW := gW_mem 534 (by decide +kernel) (by decide +kernel)
theorem ql_X4_missed : (Cond.selects yX4_missed.cls yX4_missed yX4_missed) ∈ gW := gW_mem 535 (by decide +kernel) (by decide +kernel)
theorem mV_X4_missed : hMV yX4_missed cX4_missed 2 (some .int) 1 := ⟨qc_X4_missed, qi_X4_missed, ql_X4_missed, qN_X4, ⟨by decide, by decide⟩, by decide +kernel⟩
theorem qc_X4_send : (Cond.code yX4_send cX4_send 2 (some .int)) ∈ gW := gW_mem 543 (by decide +kernel) (by decide +kernel)
theorem qi_X4_send : (Cond.instanceMethod yX4_send) ∈ gW := gW_mem 541 (by decide +kernel) (by decide +kernel)
theorem ql_X4_send : (Cond.selects yX4_send.cls yX4_send yX4_send) ∈ gW := gW_mem 542 (by decide +kernel) (by decide +kernel)
theorem mV_X4_send : hMV yX4_send cX4_send 2 (some .int) 1 := ⟨qc_X4_send, qi_X4_send, ql_X4_send, qN_X4, ⟨by decide, by decide⟩, by decide +kernel⟩
theorem qc_X4_come : (Cond.code yX4_come cX4_come 2 (some .int)) ∈ gW := gW_mem 556 (by decide +kernel) (by decide +kernel)
theorem qi_X4_come : (Cond.instanceMethod yX4_come) ∈ gW := gW_mem 554 (by decide +kernel) (by decide +kernel)
theorem ql_X4_come : (Cond.selects yX4_come.cls yX4_come yX4_come) ∈ gW := gW_mem 555 (by decide +kernel) (by decide +kernel)
theorem mV_X4_come : hMV yX4_come cX4_come 2 (some .int) 1 := ⟨qc_X4_come, qi_X4_come, ql_X4_come, qN_X4, ⟨by decide, by decide⟩, by decide +kernel⟩
theorem qc_X4_drop : (Cond.code yX4_drop cX4_drop 2 (some .int)) ∈ gW := gW_mem 602 (by decide +kernel) (by decide +kernel)
theorem qi_X4_drop : (Cond.instanceMethod yX4_drop) ∈ gW := gW_mem 600 (by decide +kernel) (by decide +kernel)
theorem ql_X4_drop : (Cond.selects yX4_drop.cls yX4_drop yX4_drop) ∈ gW := gW_mem 601 (by decide +kernel) (by decide +kernel)
theorem mV_X4_drop : hMV yX4_drop cX4_drop 2 (some .int) 1 := ⟨qc_X4_drop, qi_X4_drop, ql_X4_drop, qN_X4, ⟨by decide, by decide⟩, by decide +kernel⟩
theorem qc_X4_given : (Cond.code yX4_given cX4_given 1 (some .int)) ∈ gW := gW_mem 178 (by decide +kernel) (by decide +kernel)
theorem qi_X4_given : (Cond.instanceMethod yX4_given) ∈ gW := gW_mem 176 (by decide +kernel) (by decide +kernel)
theorem ql_X4_given : (Cond.selects yX4_given.cls yX4_given yX4_given) ∈ gW := gW_mem 177 (by decide +kernel) (by decide +kernel)
theorem mV_X4_given : hMV yX4_given cX4_given 1 (some .int) 0 := ⟨qc_X4_given, qi_X4_given, ql_X4_given, qN_X4, ⟨by decide, by decide⟩, by decide +kernel⟩
theorem qc_X4_givenAt : (Cond.code yX4_givenAt cX4_givenAt 2 (some .int)) ∈ gW := gW_mem 610 (by decide +kernel) (by decide +kernel)
theorem qi_X4_givenAt : (Cond.instanceMethod yX4_givenAt) ∈ gW := gW_mem 608 (by decide +kernel) (by decide +kernel)
theorem ql_X4_givenAt : (Cond.selects yX4_givenAt.cls yX4_givenAt yX4_givenAt) ∈ gW := gW_mem 609 (by decide +kernel) (by decide +kernel)
theorem mV_X4_givenAt : hMV yX4_givenAt cX4_givenAt 2 (some .int) 1 := ⟨qc_X4_givenAt, qi_X4_givenAt, ql_X4_givenAt, qN_X4, ⟨by decide, by decide⟩, by decide +kernel⟩
theorem qc_X4_next : (Cond.code yX4_next cX4_next 1 (some .int)) ∈ gW := gW_mem 182 (by decide +kernel) (by decide +kernel)
theorem qi_X4_next : (Cond.instanceMethod yX4_next) ∈ gW := gW_mem 180 (by decide +kernel) (by decide +kernel)
theorem ql_X4_next : (Cond.selects yX4_next.cls yX4_next yX4_next) ∈ gW := gW_mem 181 (by decide +kernel) (by decide +kernel)
theorem mV_X4_next : hMV yX4_next cX4_next 1 (some .int) 0 := ⟨qc_X4_next, qi_X4_next, ql_X4_next, qN_X4, ⟨by decide, by decide⟩, by decide +kernel⟩
theorem qc_X4_endAt : (Cond.code yX4_endAt cX4_endAt 2 (some (.object "OptionLine$End"))) ∈ gW := gW_mem 195 (by decide +kernel) (by decide +kernel)
theorem qi_X4_endAt : (Cond.instanceMethod yX4_endAt) ∈ gW := gW_mem 194 (by decide +kernel) (by decide +kernel)
theorem ql_X4_endAt : (Cond.selects yX4_endAt.cls yX4_endAt yX4_endAt) ∈ gW := gW_mem 0 (by decide +kernel) (by decide +kernel)
theorem mV_X4_endAt : hMV yX4_endAt cX4_endAt 2 (some (.object "OptionLine$End")) 1 := ⟨qc_X4_endAt, qi_X4_endAt, ql_X4_endAt, qN_X4, ⟨by decide, by decide⟩, by decide +kernel⟩
theorem qc_X4_refuseNoOption : (Cond.code yX4_refuseNoOption cX4_refuseNoOption 1 none) ∈ gW := gW_mem 266 (by decide +kernel) (by decide +kernel)
theorem qs_X4_refuseNoOption : (Cond.static yX4_refuseNoOption) ∈ gW := gW_mem 265 (by decide +kernel) (by decide +kernel)
theorem mS_X4_refuseNoOption : hMS yX4_refuseNoOption cX4_refuseNoOption 1 none 1 := ⟨qc_X4_refuseNoOption, qs_X4_refuseNoOption, qN_X4, ⟨by decide, by decide⟩, by decide +kernel⟩
theorem qc_X4_takeFrame : (Cond.code yX4_takeFrame cX4_takeFrame 2 (some (.object "OptionLine$Frame"))) ∈ gW := gW_mem 419 (by decide +kernel) (by decide +kernel)
theorem qs_X4_takeFrame : (Cond.static yX4_takeFrame) ∈ gW := gW_mem 418 (by decide +kernel) (by decide +kernel)
theorem mS_X4_takeFrame : hMS yX4_takeFrame cX4_takeFrame 2 (some (.object "OptionLine$Frame")) 1 := ⟨qc_X4_takeFrame, qs_X4_takeFrame, qN_X4, ⟨by decide, by decide⟩, by decide +kernel⟩
theorem qc_X4_refuseEmptyLine : (Cond.code yX4_refuseEmptyLine cX4_refuseEmptyLine 2 none) ∈ gW := gW_mem 560 (by decide +kernel) (by decide +kernel)
theorem qi_X4_refuseEmptyLine : (Cond.instanceMethod yX4_refuseEmptyLine) ∈ gW := gW_mem 559 (by decide +kernel) (by decide +kernel)
theorem ql_X4_refuseEmptyLine : (Cond.selects yX4_refuseEmptyLine.cls yX4_refuseEmptyLine yX4_refuseEmptyLine) ∈ gW := gW_mem 14 (by decide +kernel) (by decide +kernel)
theorem mV_X4_refuseEmptyLine : hMV yX4_refuseEmptyLine cX4_refuseEmptyLine 2 none 1 := ⟨qc_X4_refuseEmptyLine, qi_X4_refuseEmptyLine, ql_X4_refuseEmptyLine, qN_X4, ⟨by decide, by decide⟩, by decide +kernel⟩
theorem qc_X5_init : (Cond.code yX5_init cX5_init 1 none) ∈ gW := gW_mem 616 (by decide +kernel) (by decide +kernel)
theorem qi_X5_init : (Cond.instanceMethod yX5_init) ∈ gW := gW_mem 615 (by decide +kernel) (by decide +kernel)
theorem mI_X5_init : hMI yX5_init cX5_init 1 0 := ⟨qc_X5_init, qi_X5_init, qN_X5, rfl, ⟨by decide, by decide⟩, by decide +kernel⟩
theorem qc_X5_in : (Cond.code yX5_in cX5_in 3 (some .boolean)) ∈ gW := gW_mem 709 (by decide +kernel) (by decide +kernel)
theorem qs_X5_in : (Cond.static yX5_in) ∈ gW := gW_mem 708 (by decide +kernel) (by decide +kernel)
theorem mS_X5_in : hMS yX5_in cX5_in 3 (some .boolean) 3 := ⟨qc_X5_in, qs_X5_in, qN_X5, ⟨by decide, by decide⟩, by decide +kernel⟩
theorem qc_X5_isEnd : (Cond.code yX5_isEnd cX5_isEnd 1 (some .boolean)) ∈ gW := gW_mem 706 (by decide +kernel) (by decide +kernel)
theorem qs_X5_isEnd : (Cond.static yX5_isEnd) ∈ gW := gW_mem 705 (by decide +kernel) (by decide +kernel)
theorem mS_X5_isEnd : hMS yX5_isEnd cX5_isEnd 1 (some .boolean) 1 := ⟨qc_X5_isEnd, qs_X5_isEnd, qN_X5, ⟨by decide, by decide⟩, by decide +kernel⟩
theorem qc_X5_isOption : (Cond.code yX5_isOption cX5_isOption 1 (some .boolean)) ∈ gW := gW_mem 712 (by decide +kernel) (by decide +kernel)
theorem qs_X5_isOption : (Cond.static yX5_isOption) ∈ gW := gW_mem 711 (by decide +kernel) (by decide +kernel)
theorem mS_X5_isOption : hMS yX5_isOption cX5_isOption 1 (some .boolean) 1 := ⟨qc_X5_isOption, qs_X5_isOption, qN_X5, ⟨by decide, by decide⟩, by decide +kernel⟩
theorem qc_X5_wish : (Cond.code yX5_wish cX5_wish 5 (some .int)) ∈ gW := gW_mem 703 (by decide +kernel) (by decide +kernel)
theorem qi_X5_wish : (Cond.instanceMethod yX5_wish) ∈ gW := gW_mem 701 (by decide +kernel) (by decide +kernel)
theorem ql_X5_wish : (Cond.selects yX5_wish.cls yX5_wish yX5_wish) ∈ gW := gW_mem 702 (by decide +kernel) (by decide +kernel)
theorem mV_X5_wish : hMV yX5_wish cX5_wish 5 (some .int) 3 := ⟨qc_X5_wish, qi_X5_wish, ql_X5_wish, qN_X5, ⟨by decide, by decide⟩, by decide +kernel⟩
theorem qc_X5_allow : (Cond.code yX5_allow cX5_allow 5 (some .int)) ∈ gW := gW_mem 716 (by decide +kernel) (by decide +kernel)
theorem qi_X5_allow : (Cond.instanceMethod yX5_allow) ∈ gW := gW_mem 714 (by decide +kernel) (by decide +kernel)
theorem ql_X5_allow : (Cond.selects yX5_allow.cls yX5_allow yX5_allow) ∈ gW := gW_mem 715 (by decide +kernel) (by decide +kernel)
theorem mV_X5_allow : hMV yX5_allow cX5_allow 5 (some .int) 3 := ⟨qc_X5_allow, qi_X5_allow, ql_X5_allow, qN_X5, ⟨by decide, by decide⟩, by decide +kernel⟩
theorem qc_X5_setMagic : (Cond.code yX5_setMagic cX5_setMagic 4 (some .int)) ∈ gW := gW_mem 720 (by decide +kernel) (by decide +kernel)
theorem qi_X5_setMagic : (Cond.instanceMethod yX5_setMagic) ∈ gW := gW_mem 718 (by decide +kernel) (by decide +kernel)
theorem ql_X5_setMagic : (Cond.selects yX5_setMagic.cls yX5_setMagic yX5_setMagic) ∈ gW := gW_mem 719 (by decide +kernel) (by decide +kernel)
theorem mV_X5_setMagic : hMV yX5_setMagic cX5_setMagic 4 (some .int) 2 := ⟨qc_X5_setMagic, qi_X5_setMagic, ql_X5_setMagic, qN_X5, ⟨by decide, by decide⟩, by decide +kernel⟩
theorem qc_X5_sends : (Cond.code yX5_sends cX5_sends 6 none) ∈ gW := gW_mem 735 (by decide +kernel) (by decide +kernel)
theorem qi_X5_sends : (Cond.instanceMethod yX5_sends) ∈ gW := gW_mem 734 (by decide +kernel) (by decide +kernel)
theorem ql_X5_sends : (Cond.selects yX5_sends.cls yX5_sends yX5_sends) ∈ gW := gW_mem 21 (by decide +kernel) (by decide +kernel)
theorem mV_X5_sends : hMV yX5_sends cX5_sends 6 none 4 := ⟨qc_X5_sends, qi_X5_sends, ql_X5_sends, qN_X5, ⟨by decide, by decide⟩, by decide +kernel⟩
theorem qc_X5_place : (Cond.code yX5_place cX5_place 3 (some .int)) ∈ gW := gW_mem 731 (by decide +kernel) (by decide +kernel)
theorem qs_X5_place : (Cond.static yX5_place) ∈ gW := gW_mem 730 (by decide +kernel) (by decide +kernel)
theorem mS_X5_place : hMS yX5_place cX5_place 3 (some .int) 1 := ⟨qc_X5_place, qs_X5_place, qN_X5, ⟨by decide, by decide⟩, by decide +kernel⟩
theorem qc_X5_valueIn : (Cond.code yX5_valueIn cX5_valueIn 2 (some .int)) ∈ gW := gW_mem 766 (by decide +kernel) (by decide +kernel)
theorem qs_X5_valueIn : (Cond.static yX5_valueIn) ∈ gW := gW_mem 765 (by decide +kernel) (by decide +kernel)
theorem mS_X5_valueIn : hMS yX5_valueIn cX5_valueIn 2 (some .int) 2 := ⟨qc_X5_valueIn, qs_X5_valueIn, qN_X5, ⟨by decide, by decide⟩, by decide +kernel⟩
theorem qc_X5_begs : (Cond.code yX5_begs cX5_begs 4 (some .boolean)) ∈ gW := gW_mem 728 (by decide +kernel) (by decide +kernel)
theorem qi_X5_begs : (Cond.instanceMethod yX5_begs) ∈ gW := gW_mem 727 (by decide +kernel) (by decide +kernel)
theorem ql_X5_begs : (Cond.selects yX5_begs.cls yX5_begs yX5_begs) ∈ gW := gW_mem 20 (by decide +kernel) (by decide +kernel)
theorem mV_X5_begs : hMV yX5_begs cX5_begs 4 (some .boolean) 1 := ⟨qc_X5_begs, qi_X5_begs, ql_X5_begs, qN_X5, ⟨by decide, by decide⟩, by decide +kernel⟩
theorem qc_X5_lowest : (Cond.code yX5_lowest cX5_lowest 2 (some .int)) ∈ gW := gW_mem 769 (by decide +kernel) (by decide +kernel)
theorem qs_X5_lowest : (Cond.static yX5_lowest) ∈ gW := gW_mem 768 (by decide +kernel) (by decide +kernel)
theorem mS_X5_lowest : hMS yX5_lowest cX5_lowest 2 (some .int) 1 := ⟨qc_X5_lowest, qs_X5_lowest, qN_X5, ⟨by decide, by decide⟩, by decide +kernel⟩
theorem qc_X5_answers : (Cond.code yX5_answers cX5_answers 9 none) ∈ gW := gW_mem 763 (by decide +kernel) (by decide +kernel)
theorem qi_X5_answers : (Cond.instanceMethod yX5_answers) ∈ gW := gW_mem 762 (by decide +kernel) (by decide +kernel)
theorem ql_X5_answers : (Cond.selects yX5_answers.cls yX5_answers yX5_answers) ∈ gW := gW_mem 26 (by decide +kernel) (by decide +kernel)
theorem mV_X5_answers : hMV yX5_answers cX5_answers 9 none 3 := ⟨qc_X5_answers, qi_X5_answers, ql_X5_answers, qN_X5, ⟨by decide, by decide⟩, by decide +kernel⟩
theorem qc_X5_comesRequest : (Cond.code yX5_comesRequest cX5_comesRequest 5 none) ∈ gW := gW_mem 759 (by decide +kernel) (by decide +kernel)
theorem qi_X5_comesRequest : (Cond.instanceMethod yX5_comesRequest) ∈ gW := gW_mem 758 (by decide +kernel) (by decide +kernel)
theorem ql_X5_comesRequest : (Cond.selects yX5_comesRequest.cls yX5_comesRequest yX5_comesRequest) ∈ gW := gW_mem 25 (by decide +kernel) (by decide +kernel)
theorem mV_X5_comesRequest : hMV yX5_comesRequest cX5_comesRequest 5 none 4 := ⟨qc_X5_comesRequest, qi_X5_comesRequest, ql_X5_comesRequest, qN_X5, ⟨by decide, by decide⟩, by decide +kernel⟩
theorem qc_X5_comesAnswer : (Cond.code yX5_comesAnswer cX5_comesAnswer 6 none) ∈ gW := gW_mem 773 (by decide +kernel) (by decide +kernel)
theorem qi_X5_comesAnswer : (Cond.instanceMethod yX5_comesAnswer) ∈ gW := gW_mem 772 (by decide +kernel) (by decide +kernel)
theorem ql_X5_comesAnswer : (Cond.selects yX5_comesAnswer.cls yX5_comesAnswer yX5_comesAnswer) ∈ gW := gW_mem 27 (by decide +kernel) (by decide +kernel)
theorem mV_X5_comesAnswer : hMV yX5_comesAnswer cX5_comesAnswer 6 none 3 := ⟨qc_X5_comesAnswer, qi_X5_comesAnswer, ql_X5_comesAnswer, qN_X5, ⟨by decide, by decide⟩, by decide +kernel⟩
theorem qc_X5_comes : (Cond.code yX5_comes cX5_comes 3 none) ∈ gW := gW_mem 755 (by decide +kernel) (by decide +kernel)
theorem qi_X5_comes : (Cond.instanceMethod yX5_comes) ∈ gW := gW_mem 754 (by decide +kernel) (by decide +kernel)
theorem ql_X5_comes : (Cond.selects yX5_comes.cls yX5_comes yX5_comes) ∈ gW := gW_mem 24 (by decide +kernel) (by decide +kernel)
theorem mV_X5_comes : hMV yX5_comes cX5_comes 3 none 2 := ⟨qc_X5_comes, qi_X5_comes, ql_X5_comes, qN_X5, ⟨by decide, by decide⟩, by decide +kernel⟩
theorem qc_X5_takes : (Cond.code yX5_takes cX5_takes 3 (some .int)) ∈ gW := gW_mem 751 (by decide +kernel) (by decide +kernel)
theorem qi_X5_takes : (Cond.instanceMethod yX5_takes) ∈ gW := gW_mem 750 (by decide +kernel) (by decide +kernel)
theorem ql_X5_takes : (Cond.selects yX5_takes.cls yX5_takes yX5_takes) ∈ gW := gW_mem 23 (by decide +kernel) (by decide +kernel)
theorem mV_X5_takes : hMV yX5_takes cX5_takes 3 (some .int) 1 := ⟨qc_X5_takes, qi_X5_takes, ql_X5_takes, qN_X5, ⟨by decide, by decide⟩, by decide +kernel⟩
theorem qc_X5_open : (Cond.code yX5_open cX5_open 3 (some .int)) ∈ gW := gW_mem 724 (by decide +kernel) (by decide +kernel)
theorem qi_X5_open : (Cond.instanceMethod yX5_open) ∈ gW := gW_mem 722 (by decide +kernel) (by decide +kernel)
theorem ql_X5_open : (Cond.selects yX5_open.cls yX5_open yX5_open) ∈ gW := gW_mem 723 (by decide +kernel) (by decide +kernel)
theorem mV_X5_open : hMV yX5_open cX5_open 3 (some .int) 1 := ⟨qc_X5_open, qi_X5_open, ql_X5_open, qN_X5, ⟨by decide, by decide⟩, by decide +kernel⟩
theorem qc_X5_close : (Cond.code yX5_close cX5_close 3 (some .int)) ∈ gW := gW_mem 739 (by decide +kernel) (by decide +kernel)
theorem qi_X5_close : (Cond.instanceMethod yX5_close) ∈ gW := gW_mem 737 (by decide +kernel) (by decide +kernel)
theorem ql_X5_close : (Cond.selects yX5_close.cls yX5_close yX5_close) ∈ gW := gW_mem 738 (by decide +kernel) (by decide +kernel)
theorem mV_X5_close : hMV yX5_close cX5_close 3 (some .int) 1 := ⟨qc_X5_close, qi_X5_close, ql_X5_close, qN_X5, ⟨by decide, by decide⟩, by decide +kernel⟩
theorem qc_X5_asksFrame : (Cond.code yX5_asksFrame cX5_asksFrame 2 (some .boolean)) ∈ gW := gW_mem 747 (by decide +kernel) (by decide +kernel)
theorem qi_X5_asksFrame : (Cond.instanceMethod yX5_asksFrame) ∈ gW := gW_mem 746 (by decide +kernel) (by decide +kernel)
theorem ql_X5_asksFrame : (Cond.selects yX5_asksFrame.cls yX5_asksFrame yX5_asksFrame) ∈ gW := gW_mem 22 (by decide +kernel) (by decide +kernel)
theorem mV_X5_asksFrame : hMV yX5_asksFrame cX5_asksFrame 2 (some .boolean) 1 := ⟨qc_X5_asksFrame, qi_X5_asksFrame, ql_X5_asksFrame, qN_X5, ⟨by decide, by decide⟩, by decide +kernel⟩
theorem qc_X5_deliver : (Cond.code yX5_deliver cX5_deliver 3 (some .int)) ∈ gW := gW_mem 743 (by decide +kernel) (by decide +kernel)
theorem qi_X5_deliver : (Cond.instanceMethod yX5_deliver) ∈ gW := gW_mem 741 (by decide +kernel) (by decide +kernel)
theorem ql_X5_deliver : (Cond.selects yX5_deliver.cls yX5_deliver yX5_deliver) ∈ gW := gW_mem 742 (by decide +kernel) (by decide +kernel)
theorem mV_X5_deliver : hMV yX5_deliver cX5_deliver 3 (some .int) 1 := ⟨qc_X5_deliver, qi_X5_deliver, ql_X5_deliver, qN_X5, ⟨by decide, by decide⟩, by decide +kernel⟩
theorem qc_X5_lose : (Cond.code yX5_lose cX5_lose 2 (some .int)) ∈ gW := gW_mem 777 (by decide +kernel) (by decide +kernel)
theorem qi_X5_lose : (Cond.instanceMethod yX5_lose) ∈ gW := gW_mem 775 (by decide +kernel) (by decide +kernel)
theorem ql_X5_lose : (Cond.selects yX5_lose.cls yX5_lose yX5_lose) ∈ gW := gW_mem 776 (by decide +kernel) (by decide +kernel)
theorem mV_X5_lose : hMV yX5_lose cX5_lose 2 (some .int) 1 := ⟨qc_X5_lose, qi_X5_lose, ql_X5_lose, qN_X5, ⟨by decide, by decide⟩, by decide +kernel⟩
theorem qc_X5_loop : (Cond.code yX5_loop cX5_loop 3 (some .int)) ∈ gW := gW_mem 781 (by decide +kernel) (by decide +kernel)
theorem qi_X5_loop : (Cond.instanceMethod yX5_loop) ∈ gW := gW_mem 779 (by decide +kernel) (by decide +kernel)
theorem ql_X5_loop : (Cond.selects yX5_loop.cls yX5_loop yX5_loop) ∈ gW := gW_mem 780 (by decide +kernel) (by decide +kernel)
theorem mV_X5_loop : hMV yX5_loop cX5_loop 3 (some .int) 1 := ⟨qc_X5_loop, qi_X5_loop, ql_X5_loop, qN_X5, ⟨by decide, by decide⟩, by decide +kernel⟩
theorem qc_X5_goesBy : (Cond.code yX5_goesBy cX5_goesBy 2 (some .int)) ∈ gW := gW_mem 789 (by decide +kernel) (by decide +kernel)
theorem qi_X5_goesBy : (Cond.instanceMethod yX5_goesBy) ∈ gW := gW_mem 788 (by decide +kernel) (by decide +kernel)
theorem ql_X5_goesBy : (Cond.selects yX5_goesBy.cls yX5_goesBy yX5_goesBy) ∈ gW := gW_mem 28 (by decide +kernel) (by decide +kernel)
theorem mV_X5_goesBy : hMV yX5_goesBy cX5_goesBy 2 (some .int) 1 := ⟨qc_X5_goesBy, qi_X5_goesBy, ql_X5_goesBy, qN_X5, ⟨by decide, by decide⟩, by decide +kernel⟩
theorem qc_X5_pass : (Cond.code yX5_pass cX5_pass 4 (some .int)) ∈ gW := gW_mem 785 (by decide +kernel) (by decide +kernel)
theorem qi_X5_pass : (Cond.instanceMethod yX5_pass) ∈ gW := gW_mem 783 (by decide +kernel) (by decide +kernel)
theorem ql_X5_pass : (Cond.selects yX5_pass.cls yX5_pass yX5_pass) ∈ gW := gW_mem 784 (by decide +kernel) (by decide +kernel)
theorem mV_X5_pass : hMV yX5_pass cX5_pass 4 (some .int) 1 := ⟨qc_X5_pass, qi_X5_pass, ql_X5_pass, qN_X5, ⟨by decide, by decide⟩, by decide +kernel⟩
theorem qc_X5_asksEnd : (Cond.code yX5_asksEnd cX5_asksEnd 2 (some .boolean)) ∈ gW := gW_mem 797 (by decide +kernel) (by decide +kernel)
theorem qi_X5_asksEnd : (Cond.instanceMethod yX5_asksEnd) ∈ gW := gW_mem 796 (by decide +kernel) (by decide +kernel)
theorem ql_X5_asksEnd : (Cond.selects yX5_asksEnd.cls yX5_asksEnd yX5_asksEnd) ∈ gW := gW_mem 29 (by decide +kernel) (by decide +kernel)
theorem mV_X5_asksEnd : hMV yX5_asksEnd cX5_asksEnd 2 (some .boolean) 1 := ⟨qc_X5_asksEnd, qi_X5_asksEnd, ql_X5_asksEnd, qN_X5, ⟨by decide, by decide⟩, by decide +kernel⟩
theorem qc_X5_stateOf : (Cond.code yX5_stateOf cX5_stateOf 2 (some .int)) ∈ gW := gW_mem 793 (by decide +kernel) (by decide +kernel)
theorem qi_X5_stateOf : (Cond.instanceMethod yX5_stateOf) ∈ gW := gW_mem 791 (by decide +kernel) (by decide +kernel)
theorem ql_X5_stateOf : (Cond.selects yX5_stateOf.cls yX5_stateOf yX5_stateOf) ∈ gW := gW_mem 792 (by decide +kernel) (by decide +kernel)
theorem mV_X5_stateOf : hMV yX5_stateOf cX5_stateOf 2 (some .int) 1 := ⟨qc_X5_stateOf, qi_X5_stateOf, ql_X5_stateOf, qN_X5, ⟨by decide, by decide⟩, by decide +kernel⟩
theorem qc_X5_asked : (Cond.code yX5_asked cX5_asked 3 (some .int)) ∈ gW := gW_mem 801 (by decide +kernel) (by decide +kernel)
theorem qi_X5_asked : (Cond.instanceMethod yX5_asked) ∈ gW := gW_mem 799 (by decide +kernel) (by decide +kernel)
theorem ql_X5_asked : (Cond.selects yX5_asked.cls yX5_asked yX5_asked) ∈ gW := gW_mem 800 (by decide +kernel) (by decide +kernel)
theorem mV_X5_asked : hMV yX5_asked cX5_asked 3 (some .int) 2 := ⟨qc_X5_asked, qi_X5_asked, ql_X5_asked, qN_X5, ⟨by decide, by decide⟩, by decide +kernel⟩
theorem qc_X5_requests : (Cond.code yX5_requests cX5_requests 2 (some .int)) ∈ gW := gW_mem 805 (by decide +kernel) (by decide +kernel)
theorem qi_X5_requests : (Cond.instanceMethod yX5_requests) ∈ gW := gW_mem 803 (by decide +kernel) (by decide +kernel)
theorem ql_X5_requests : (Cond.selects yX5_requests.cls yX5_requests yX5_requests) ∈ gW := gW_mem 804 (by decide +kernel) (by decide +kernel)
theorem mV_X5_requests : hMV yX5_requests cX5_requests 2 (some .int) 1 := ⟨qc_X5_requests, qi_X5_requests, ql_X5_requests, qN_X5, ⟨by decide, by decide⟩, by decide +kernel⟩
theorem qc_X5_isLooped : (Cond.code yX5_isLooped cX5_isLooped 2 (some .boolean)) ∈ gW := gW_mem 809 (by decide +kernel) (by decide +kernel)
theorem qi_X5_isLooped : (Cond.instanceMethod yX5_isLooped) ∈ gW := gW_mem 807 (by decide +kernel) (by decide +kernel)
theorem ql_X5_isLooped : (Cond.selects yX5_isLooped.cls yX5_isLooped yX5_isLooped) ∈ gW := gW_mem 808 (by decide +kernel) (by decide +kernel)
theorem mV_X5_isLooped : hMV yX5_isLooped cX5_isLooped 2 (some .boolean) 1 := ⟨qc_X5_isLooped, qi_X5_isLooped, ql_X5_isLooped, qN_X5, ⟨by decide, by decide⟩, by decide +kernel⟩
theorem qc_X5_underWay : (Cond.code yX5_underWay cX5_underWay 2 (some .int)) ∈ gW := gW_mem 813 (by decide +kernel) (by decide +kernel)
theorem qi_X5_underWay : (Cond.instanceMethod yX5_underWay) ∈ gW := gW_mem 811 (by decide +kernel) (by decide +kernel)
theorem ql_X5_underWay : (Cond.selects yX5_underWay.cls yX5_underWay yX5_underWay) ∈ gW := gW_mem 812 (by decide +kernel) (by decide +kernel)
theorem mV_X5_underWay : hMV yX5_underWay cX5_underWay 2 (some .int) 1 := ⟨qc_X5_underWay, qi_X5_underWay, ql_X5_underWay, qN_X5, ⟨by decide, by decide⟩, by decide +kernel⟩
theorem qc_X5_missed : (Cond.code yX5_missed cX5_missed 2 (some .int)) ∈ gW := gW_mem 817 (by decide +kernel) (by decide +kernel)
theorem qi_X5_missed : (Cond.instanceMethod yX5_missed) ∈ gW := gW_mem 815 (by decide +kernel) (by decide +kernel)
theorem ql_X5_missed : (Cond.selects yX5_missed.cls yX5_missed yX5_missed) ∈ gW := gW_mem 816 (by decide +kernel) (by decide +kernel)
theorem mV_X5_missed : hMV yX5_missed cX5_missed 2 (some .int) 1 := ⟨qc_X5_missed, qi_X5_missed, ql_X5_missed, qN_X5, ⟨by decide, by decide⟩, by decide +kernel⟩
theorem qc_X5_send : (Cond.code yX5_send cX5_send 4 (some .int)) ∈ gW := gW_mem 821 (by decide +kernel) (by decide +kernel)
theorem qi_X5_send : (Cond.instanceMethod yX5_send) ∈ gW := gW_mem 819 (by decide +kernel) (by decide +kernel)
theorem ql_X5_send : (Cond.selects yX5_send.cls yX5_send yX5_send) ∈ gW := gW_mem 820 (by decide +kernel) (by decide +kernel)
theorem mV_X5_send : hMV yX5_send cX5_send 4 (some .int) 1 := ⟨qc_X5_send, qi_X5_send, ql_X5_send, qN_X5, ⟨by decide, by decide⟩, by decide +kernel⟩
theorem qc_X5_bound : (Cond.code yX5_bound cX5_bound 3 (some .int)) ∈ gW := gW_mem 837 (by decide +kernel) (by decide +kernel)
theorem qi_X5_bound : (Cond.instanceMethod yX5_bound) ∈ gW := gW_mem 836 (by decide +kernel) (by decide +kernel)
theorem ql_X5_bound : (Cond.selects yX5_bound.cls yX5_bound yX5_bound) ∈ gW := gW_mem 32 (by decide +kernel) (by decide +kernel)
theorem mV_X5_bound : hMV yX5_bound cX5_bound 3 (some .int) 0 := ⟨qc_X5_bound, qi_X5_bound, ql_X5_bound, qN_X5, ⟨by decide, by decide⟩, by decide +kernel⟩
theorem qc_X5_missing : (Cond.code yX5_missing cX5_missing 3 (some .int)) ∈ gW := gW_mem 841 (by decide +kernel) (by decide +kernel)
theorem qi_X5_missing : (Cond.instanceMethod yX5_missing) ∈ gW := gW_mem 840 (by decide +kernel) (by decide +kernel)
theorem ql_X5_missing : (Cond.selects yX5_missing.cls yX5_missing yX5_missing) ∈ gW := gW_mem 33 (by decide +kernel) (by decide +kernel)
theorem mV_X5_missing : hMV yX5_missing cX5_missing 3 (some .int) 1 := ⟨qc_X5_missing, qi_X5_missing, ql_X5_missing, qN_X5, ⟨by decide, by decide⟩, by decide +kernel⟩
theorem qc_X5_goesOn : (Cond.code yX5_goesOn cX5_goesOn 5 (some .boolean)) ∈ gW := gW_mem 833 (by decide +kernel) (by decide +kernel)
theorem qi_X5_goesOn : (Cond.instanceMethod yX5_goesOn) ∈ gW := gW_mem 832 (by decide +kernel) (by decide +kernel)
theorem ql_X5_goesOn : (Cond.selects yX5_goesOn.cls yX5_goesOn yX5_goesOn) ∈ gW := gW_mem 31 (by decide +kernel) (by decide +kernel)
theorem mV_X5_goesOn : hMV yX5_goesOn cX5_goesOn 5 (some .boolean) 0 := ⟨qc_X5_goesOn, qi_X5_goesOn, ql_X5_goesOn, qN_X5, ⟨by decide, by decide⟩, by decide +kernel⟩
theorem qc_X5_asksLine : (Cond.code yX5_asksLine cX5_asksLine 2 (some .boolean)) ∈ gW := gW_mem 829 (by decide +kernel) (by decide +kernel)
theorem qi_X5_asksLine : (Cond.instanceMethod yX5_asksLine) ∈ gW := gW_mem 828 (by decide +kernel) (by decide +kernel)
theorem ql_X5_asksLine : (Cond.selects yX5_asksLine.cls yX5_asksLine yX5_asksLine) ∈ gW := gW_mem 30 (by decide +kernel) (by decide +kernel)
theorem mV_X5_asksLine : hMV yX5_asksLine cX5_asksLine 2 (some .boolean) 1 := ⟨qc_X5_asksLine, qi_X5_asksLine, ql_X5_asksLine, qN_X5, ⟨by decide, by decide⟩, by decide +kernel⟩
theorem qc_X5_come : (Cond.code yX5_come cX5_come 4 (some .int)) ∈ gW := gW_mem 825 (by decide +kernel) (by decide +kernel)
theorem qi_X5_come : (Cond.instanceMethod yX5_come) ∈ gW := gW_mem 823 (by decide +kernel) (by decide +kernel)
theorem ql_X5_come : (Cond.selects yX5_come.cls yX5_come yX5_come) ∈ gW := gW_mem 824 (by decide +kernel) (by decide +kernel)
theorem mV_X5_come : hMV yX5_come cX5_come 4 (some .int) 1 := ⟨qc_X5_come, qi_X5_come, ql_X5_come, qN_X5, ⟨by decide, by decide⟩, by decide +kernel⟩
theorem qc_X5_drop : (Cond.code yX5_drop cX5_drop 2 (some .int)) ∈ gW := gW_mem 845 (by decide +kernel) (by decide +kernel)
theorem qi_X5_drop : (Cond.instanceMethod yX5_drop) ∈ gW := gW_mem 843 (by decide +kernel) (by decide +kernel)
theorem ql_X5_drop : (Cond.selects yX5_drop.cls yX5_drop yX5_drop) ∈ gW := gW_mem 844 (by decide +kernel) (by decide +kernel)
theorem mV_X5_drop : hMV yX5_drop cX5_drop 2 (some .int) 1 := ⟨qc_X5_drop, qi_X5_drop, ql_X5_drop, qN_X5, ⟨by decide, by decide⟩, by decide +kernel⟩
theorem qc_X5_given : (Cond.code yX5_given cX5_given 1 (some .int)) ∈ gW := gW_mem 849 (by decide +kernel) (by decide +kernel)
theorem qi_X5_given : (Cond.instanceMethod yX5_given) ∈ gW := gW_mem 847 (by decide +kernel) (by decide +kernel)
theorem ql_X5_given : (Cond.selects yX5_given.cls yX5_given yX5_given) ∈ gW := gW_mem 848 (by decide +kernel) (by decide +kernel)
theorem mV_X5_given : hMV yX5_given cX5_given 1 (some .int) 0 := ⟨qc_X5_given, qi_X5_given, ql_X5_given, qN_X5, ⟨by decide, by decide⟩, by decide +kernel⟩
theorem qc_X5_givenAt : (Cond.code yX5_givenAt cX5_givenAt 2 (some .int)) ∈ gW := gW_mem 853 (by decide +kernel) (by decide +kernel)
theorem qi_X5_givenAt : (Cond.instanceMethod yX5_givenAt) ∈ gW := gW_mem 851 (by decide +kernel) (by decide +kernel)
theorem ql_X5_givenAt : (Cond.selects yX5_givenAt.cls yX5_givenAt yX5_givenAt) ∈ gW := gW_mem 852 (by decide +kernel) (by decide +kernel)
theorem mV_X5_givenAt : hMV yX5_givenAt cX5_givenAt 2 (some .int) 1 := ⟨qc_X5_givenAt, qi_X5_givenAt, ql_X5_givenAt, qN_X5, ⟨by decide, by decide⟩, by decide +kernel⟩
theorem qc_X5_next : (Cond.code yX5_next cX5_next 1 (some .int)) ∈ gW := gW_mem 857 (by decide +kernel) (by decide +kernel)
theorem qi_X5_next : (Cond.instanceMethod yX5_next) ∈ gW := gW_mem 855 (by decide +kernel) (by decide +kernel)
theorem ql_X5_next : (Cond.selects yX5_next.cls yX5_next yX5_next) ∈ gW := gW_mem 856 (by decide +kernel) (by decide +kernel)
theorem mV_X5_next : hMV yX5_next cX5_next 1 (some .int) 0 := ⟨qc_X5_next, qi_X5_next, ql_X5_next, qN_X5, ⟨by decide, by decide⟩, by decide +kernel⟩
theorem qc_J7_fill_53178 : (Cond.code yJ7_fill_53178 cJ7_fill_53178 4 none) ∈ gW := gW_mem 84 (by decide +kernel) (by decide +kernel)
theorem qs_J7_fill_53178 : (Cond.static yJ7_fill_53178) ∈ gW := gW_mem 83 (by decide +kernel) (by decide +kernel)
theorem mS_J7_fill_53178 : hMS yJ7_fill_53178 cJ7_fill_53178 4 none 2 := ⟨qc_J7_fill_53178, qs_J7_fill_53178, qN_J7, ⟨by decide, by decide⟩, by decide +kernel⟩
theorem qc_J7_copyOf_59c91 : (Cond.code yJ7_copyOf_59c91 cJ7_copyOf_59c91 3 (some (.array .int))) ∈ gW := gW_mem 350 (by decide +kernel) (by decide +kernel)
theorem qs_J7_copyOf_59c91 : (Cond.static yJ7_copyOf_59c91) ∈ gW := gW_mem 349 (by decide +kernel) (by decide +kernel)
theorem mS_J7_copyOf_59c91 : hMS yJ7_copyOf_59c91 cJ7_copyOf_59c91 3 (some (.array .int)) 2 := ⟨qc_J7_copyOf_59c91, qs_J7_copyOf_59c91, qN_J7, ⟨by decide, by decide⟩, by decide +kernel⟩
theorem qc_L_wish : (Cond.codeWith yL_wish cL_wish 6 (some .int) [(0, 12, 15, 13), (0, 12, 19, 15)]) ∈ gW := gW_mem 185 (by decide +kernel) (by decide +kernel)
theorem qs_L_wish : (Cond.static yL_wish) ∈ gW := gW_mem 184 (by decide +kernel) (by decide +kernel)
theorem mH_L_wish : hMH yL_wish cL_wish 6 (some .int) [(0, 12, 15, 13), (0, 12, 19, 15)] 5 := ⟨qc_L_wish, qs_L_wish, qN_L, ⟨by decide, by decide⟩, by decide +kernel⟩
theorem qc_L_allow : (Cond.codeWith yL_allow cL_allow 6 (some .int) [(0, 12, 15, 13), (0, 12, 19, 15)]) ∈ gW := gW_mem 290 (by decide +kernel) (by decide +kernel)
theorem qs_L_allow : (Cond.static yL_allow) ∈ gW := gW_mem 289 (by decide +kernel) (by decide +kernel)
theorem mH_L_allow : hMH yL_allow cL_allow 6 (some .int) [(0, 12, 15, 13), (0, 12, 19, 15)] 5 := ⟨qc_L_allow, qs_L_allow, qN_L, ⟨by decide, by decide⟩, by decide +kernel⟩
theorem qc_L_setMagic : (Cond.codeWith yL_setMagic cL_setMagic 5 (some .int) [(0, 10, 13, 13)]) ∈ gW := gW_mem 302 (by decide +kernel) (by decide +kernel)
theorem qs_L_setMagic : (Cond.static yL_setMagic) ∈ gW := gW_mem 301 (by decide +kernel) (by decide +kernel)
theorem mH_L_setMagic : hMH yL_setMagic cL_setMagic 5 (some .int) [(0, 10, 13, 13)] 4 := ⟨qc_L_setMagic, qs_L_setMagic, qN_L, ⟨by decide, by decide⟩, by decide +kernel⟩
theorem qc_L_open : (Cond.codeWith yL_open cL_open 4 (some .int) [(0, 9, 12, 13), (0, 9, 15, 28)]) ∈ gW := gW_mem 313 (by decide +kernel) (by decide +kernel)
theorem qs_L_open : (Cond.static yL_open) ∈ gW := gW_mem 312 (by decide +kernel) (by decide +kernel)
theorem mH_L_open : hMH yL_open cL_open 4 (some .int) [(0, 9, 12, 13), (0, 9, 15, 28)] 3 := ⟨qc_L_open, qs_L_open, qN_L, ⟨by decide, by decide⟩, by decide +kernel⟩
theorem qc_L_close : (Cond.codeWith yL_close cL_close 4 (some .int) [(0, 9, 12, 13), (0, 9, 15, 28)]) ∈ gW := gW_mem 393 (by decide +kernel) (by decide +kernel)
theorem qs_L_close : (Cond.static yL_close) ∈ gW := gW_mem 392 (by decide +kernel) (by decide +kernel)
theorem mH_L_close : hMH yL_close cL_close 4 (some .int) [(0, 9, 12, 13), (0, 9, 15, 28)] 3 := ⟨qc_L_close, qs_L_close, qN_L, ⟨by decide, by decide⟩, by decide +kernel⟩
theorem qc_L_deliver : (Cond.codeWith yL_deliver cL_deliver 4 (some .int) [(0, 9, 12, 13), (0, 9, 15, 28)]) ∈ gW := gW_mem 412 (by decide +kernel) (by decide +kernel)
theorem qs_L_deliver : (Cond.static yL_deliver) ∈ gW := gW_mem 411 (by decide +kernel) (by decide +kernel)
theorem mH_L_deliver : hMH yL_deliver cL_deliver 4 (some .int) [(0, 9, 12, 13), (0, 9, 15, 28)] 3 := ⟨qc_L_deliver, qs_L_deliver, qN_L, ⟨by decide, by decide⟩, by decide +kernel⟩
theorem qc_L_lose : (Cond.codeWith yL_lose cL_lose 4 (some .int) [(0, 9, 12, 13), (0, 9, 15, 28)]) ∈ gW := gW_mem 471 (by decide +kernel) (by decide +kernel)
theorem qs_L_lose : (Cond.static yL_lose) ∈ gW := gW_mem 470 (by decide +kernel) (by decide +kernel)
theorem mH_L_lose : hMH yL_lose cL_lose 4 (some .int) [(0, 9, 12, 13), (0, 9, 15, 28)] 3 := ⟨qc_L_lose, qs_L_lose, qN_L, ⟨by decide, by decide⟩, by decide +kernel⟩
theorem qc_L_loop : (Cond.codeWith yL_loop cL_loop 4 (some .int) [(0, 9, 12, 13), (0, 9, 15, 28)]) ∈ gW := gW_mem 478 (by decide +kernel) (by decide +kernel)
theorem qs_L_loop : (Cond.static yL_loop) ∈ gW := gW_mem 477 (by decide +kernel) (by decide +kernel)
theorem mH_L_loop : hMH yL_loop cL_loop 4 (some .int) [(0, 9, 12, 13), (0, 9, 15, 28)] 3 := ⟨qc_L_loop, qs_L_loop, qN_L, ⟨by decide, by decide⟩, by decide +kernel⟩
theorem qc_L_pass : (Cond.codeWith yL_pass cL_pass 4 (some .int) [(0, 9, 12, 15)]) ∈ gW := gW_mem 485 (by decide +kernel) (by decide +kernel)
theorem qs_L_pass : (Cond.static yL_pass) ∈ gW := gW_mem 484 (by decide +kernel) (by decide +kernel)
theorem mH_L_pass : hMH yL_pass cL_pass 4 (some .int) [(0, 9, 12, 15)] 3 := ⟨qc_L_pass, qs_L_pass, qN_L, ⟨by decide, by decide⟩, by decide +kernel⟩
theorem qc_L_stateOf : (Cond.codeWith yL_stateOf cL_stateOf 4 (some .int) [(0, 9, 12, 13)]) ∈ gW := gW_mem 497 (by decide +kernel) (by decide +kernel)
theorem qs_L_stateOf : (Cond.static yL_stateOf) ∈ gW := gW_mem 496 (by decide +kernel) (by decide +kernel)
theorem mH_L_stateOf : hMH yL_stateOf cL_stateOf 4 (some .int) [(0, 9, 12, 13)] 3 := ⟨qc_L_stateOf, qs_L_stateOf, qN_L, ⟨by decide, by decide⟩, by decide +kernel⟩
theorem qc_L_asked : (Cond.codeWith yL_asked cL_asked 5 (some .int) [(0, 10, 13, 13)]) ∈ gW := gW_mem 504 (by decide +kernel) (by decide +kernel)
theorem qs_L_asked : (Cond.static yL_asked) ∈ gW := gW_mem 503 (by decide +kernel) (by decide +kernel)
theorem mH_L_asked : hMH yL_asked cL_asked 5 (some .int) [(0, 10, 13, 13)] 4 := ⟨qc_L_asked, qs_L_asked, qN_L, ⟨by decide, by decide⟩, by decide +kernel⟩
theorem qc_L_requests : (Cond.codeWith yL_requests cL_requests 4 (some .int) [(0, 9, 12, 13)]) ∈ gW := gW_mem 511 (by decide +kernel) (by decide +kernel)
theorem qs_L_requests : (Cond.static yL_requests) ∈ gW := gW_mem 510 (by decide +kernel) (by decide +kernel)
theorem mH_L_requests : hMH yL_requests cL_requests 4 (some .int) [(0, 9, 12, 13)] 3 := ⟨qc_L_requests, qs_L_requests, qN_L, ⟨by decide, by decide⟩, by decide +kernel⟩
theorem qc_L_isLooped : (Cond.codeWith yL_isLooped cL_isLooped 4 (some .int) [(0, 16, 19, 13)]) ∈ gW := gW_mem 518 (by decide +kernel) (by decide +kernel)
theorem qs_L_isLooped : (Cond.static yL_isLooped) ∈ gW := gW_mem 517 (by decide +kernel) (by decide +kernel)
theorem mH_L_isLooped : hMH yL_isLooped cL_isLooped 4 (some .int) [(0, 16, 19, 13)] 3 := ⟨qc_L_isLooped, qs_L_isLooped, qN_L, ⟨by decide, by decide⟩, by decide +kernel⟩
theorem qc_L_underWay : (Cond.codeWith yL_underWay cL_underWay 4 (some .int) [(0, 9, 12, 13)]) ∈ gW := gW_mem 525 (by decide +kernel) (by decide +kernel)
theorem qs_L_underWay : (Cond.static yL_underWay) ∈ gW := gW_mem 524 (by decide +kernel) (by decide +kernel)
theorem mH_L_underWay : hMH yL_underWay cL_underWay 4 (some .int) [(0, 9, 12, 13)] 3 := ⟨qc_L_underWay, qs_L_underWay, qN_L, ⟨by decide, by decide⟩, by decide +kernel⟩
theorem qc_L_missed : (Cond.codeWith yL_missed cL_missed 4 (some .int) [(0, 9, 12, 13)]) ∈ gW := gW_mem 532 (by decide +kernel) (by decide +kernel)
theorem qs_L_missed : (Cond.static yL_missed) ∈ gW := gW_mem 531 (by decide +kernel) (by decide +kernel)
theorem mH_L_missed : hMH yL_missed cL_missed 4 (some .int) [(0, 9, 12, 13)] 3 := ⟨qc_L_missed, qs_L_missed, qN_L, ⟨by decide, by decide⟩, by decide +kernel⟩
theorem qc_L_send : (Cond.codeWith yL_send cL_send 4 (some .int) [(0, 9, 12, 15), (0, 9, 15, 28)]) ∈ gW := gW_mem 539 (by decide +kernel) (by decide +kernel)
theorem qs_L_send : (Cond.static yL_send) ∈ gW := gW_mem 538 (by decide +kernel) (by decide +kernel)
theorem mH_L_send : hMH yL_send cL_send 4 (some .int) [(0, 9, 12, 15), (0, 9, 15, 28)] 3 := ⟨qc_L_send, qs_L_send, qN_L, ⟨by decide, by decide⟩, by decide +kernel⟩
theorem qc_L_come : (Cond.codeWith yL_come cL_come 4 (some .int) [(0, 9, 12, 13), (0, 9, 15, 28)]) ∈ gW := gW_mem 552 (by decide +kernel) (by decide +kernel)
theorem qs_L_come : (Cond.static yL_come) ∈ gW := gW_mem 551 (by decide +kernel) (by decide +kernel)
theorem mH_L_come : hMH yL_come cL_come 4 (some .int) [(0, 9, 12, 13), (0, 9, 15, 28)] 3 := ⟨qc_L_come, qs_L_come, qN_L, ⟨by decide, by decide⟩, by decide +kernel⟩
theorem qc_L_drop : (Cond.codeWith yL_drop cL_drop 4 (some .int) [(0, 9, 12, 13), (0, 9, 15, 28)]) ∈ gW := gW_mem 598 (by decide +kernel) (by decide +kernel)
theorem qs_L_drop : (Cond.static yL_drop) ∈ gW := gW_mem 597 (by decide +kernel) (by decide +kernel)
theorem mH_L_drop : hMH yL_drop cL_drop 4 (some .int) [(0, 9, 12, 13), (0, 9, 15, 28)] 3 := ⟨qc_L_drop, qs_L_drop, qN_L, ⟨by decide, by decide⟩, by decide +kernel⟩
theorem qc_L_givenAt : (Cond.codeWith yL_givenAt cL_givenAt 4 (some .int) [(0, 9, 12, 13)]) ∈ gW := gW_mem 606 (by decide +kernel) (by decide +kernel)
theorem qs_L_givenAt : (Cond.static yL_givenAt) ∈ gW := gW_mem 605 (by decide +kernel) (by decide +kernel)
theorem mH_L_givenAt : hMH yL_givenAt cL_givenAt 4 (some .int) [(0, 9, 12, 13)] 3 := ⟨qc_L_givenAt, qs_L_givenAt, qN_L, ⟨by decide, by decide⟩, by decide +kernel⟩
theorem in_X0 : ∀ w ∈ u_ws RX0 TX0 9, w ∈ gW := gW_all [145, 147, 149, 151, 153, 155, 157, 159, 161] (by decide +kernel) (by decide +kernel)
theorem in_X1 : ∀ w ∈ u_ws RX1 TX1 11, w ∈ gW := gW_all [102, 104, 106, 108, 110, 112, 114, 116, 118, 120, 122] (by decide +kernel) (by decide +kernel)
theorem in_X2 : ∀ w ∈ u_ws RX2 TX2 5, w ∈ gW := gW_all [376, 378, 380, 382, 384] (by decide +kernel) (by decide +kernel)
theorem in_X3 : ∀ w ∈ u_ws RX3 TX3 3, w ∈ gW := gW_all [74, 76, 78] (by decide +kernel) (by decide +kernel)
theorem in_X4 : ∀ w ∈ u_ws RX4 TX4 3, w ∈ gW := gW_all [168, 170, 172] (by decide +kernel) (by decide +kernel)
theorem in_X5 : ∀ w ∈ u_ws RX5 TX5 27, w ∈ gW := gW_all [645, 647, 649, 651, 653, 655, 657, 659, 661, 663, 665, 667, 669, 671, 673, 675, 677, 679, 681, 683, 685, 687, 689, 691, 693, 695, 697] (by decide +kernel) (by decide +kernel)
theorem tF_eI : Bundle.fit eI = true ∧ (∀ n ∈ tNm, Bundle.fit n = true) := ⟨by decide +kernel, by decide +kernel⟩
theorem tA_eI : ∀ w ∈ (vx_atS RX4 141 eI tNm).filter goodWord, w ∈ gW := hall_of (by decide +kernel)
theorem tB_eI : ∀ w ∈ (vx_atS RX4 141 eI tNm).filter (fun w => !goodWord w), w ∈ hOt := hall_of (by decide +kernel)
theorem tF_eA : Bundle.fit eA = true ∧ (∀ n ∈ tNm, Bundle.fit n = true) := ⟨by decide +kernel, by decide +kernel⟩
theorem tA_eA : ∀ w ∈ (vx_atS RX4 39 eA tNm).filter goodWord, w ∈ gW := hall_of (by decide +kernel)
theorem tB_eA : ∀ w ∈ (vx_atS RX4 39 eA tNm).filter (fun w => !goodWord w), w ∈ hOt := hall_of (by decide +kernel)
theorem tF_eS : Bundle.fit eS = true ∧ (∀ n ∈ tNm, Bundle.fit n = true) := ⟨by decide +kernel, by decide +kernel⟩
theorem tA_eS : ∀ w ∈ (vx_atS RX4 63 eS tNm).filter goodWord, w ∈ gW := hall_of (by decide +kernel)
theorem tB_eS : ∀ w ∈ (vx_atS RX4 63 eS tNm).filter (fun w => !goodWord w), w ∈ hOt := hall_of (by decide +kernel)
theorem tG_eI : ∀ w ∈ Cond.classLink RX4 137 eI :: Cond.initialized eI :: vx_atS RX4 141 eI tNm, vx_ot w = true := hallb_of (by decide +kernel)
theorem tG_eA : ∀ w ∈ Cond.classLink RX4 35 eA :: Cond.initialized eA :: vx_atS RX4 39 eA tNm, vx_ot w = true := hallb_of (by decide +kernel)
theorem tG_eS : ∀ w ∈ Cond.classLink RX4 59 eS :: Cond.initialized eS :: vx_atS RX4 63 eS tNm, vx_ot w = true := hallb_of (by decide +kernel)
end
section
theorem dX0_init_0 : decode cX0_init 0 = .ok (.aload_n 0, 1) := by decide +kernel
theorem dX0_init_1 : decode cX0_init 1 = .ok (.invokespecial 3, 3) := by decide +kernel
theorem dX0_init_4 : decode cX0_init 4 = .ok (.aload_n 0, 1) := by decide +kernel
theorem dX0_init_5 : decode cX0_init 5 = .ok (.bipush 61, 2) := by decide +kernel
theorem dX0_init_7 : decode cX0_init 7 = .ok (.newarray .int, 2) := by decide +kernel
theorem dX0_init_9 : decode cX0_init 9 = .ok (.putfield 9, 3) := by decide +kernel
theorem dX0_init_12 : decode cX0_init 12 = .ok (.aload_n 0, 1) := by decide +kernel
theorem dX0_init_13 : decode cX0_init 13 = .ok (.sipush 240, 3) := by decide +kernel
theorem dX0_init_16 : decode cX0_init 16 = .ok (.newarray .int, 2) := by decide +kernel
theorem dX0_init_18 : decode cX0_init 18 = .ok (.putfield 15, 3) := by decide +kernel
theorem dX0_init_21 : decode cX0_init 21 = .ok (.aload_n 0, 1) := by decide +kernel
theorem dX0_init_22 : decode cX0_init 22 = .ok (.sipush 240, 3) := by decide +kernel
theorem dX0_init_25 : decode cX0_init 25 = .ok (.newarray .boolean, 2) := by decide +kernel
theorem dX0_init_27 : decode cX0_init 27 = .ok (.putfield 18, 3) := by decide +kernel
theorem dX0_init_30 : decode cX0_init 30 = .ok (.aload_n 0, 1) := by decide +kernel
theorem dX0_init_31 : decode cX0_init 31 = .ok (.iconst 3, 1) := by decide +kernel
theorem dX0_init_32 : decode cX0_init 32 = .ok (.newarray .int, 2) := by decide +kernel
theorem dX0_init_34 : decode cX0_init 34 = .ok (.putfield 22, 3) := by decide +kernel
theorem dX0_init_37 : decode cX0_init 37 = .ok (.aload_n 0, 1) := by decide +kernel
theorem dX0_init_38 : decode cX0_init 38 = .ok (.iconst 3, 1) := by decide +kernel
theorem dX0_init_39 : decode cX0_init 39 = .ok (.newarray .int, 2) := by decide +kernel
theorem dX0_init_41 : decode cX0_init 41 = .ok (.putfield 25, 3) := by decide +kernel
theorem dX0_init_44 : decode cX0_init 44 = .ok (.aload_n 0, 1) := by decide +kernel
theorem dX0_init_45 : decode cX0_init 45 = .ok (.bipush 60, 2) := by decide +kernel
theorem dX0_init_47 : decode cX0_init 47 = .ok (.newarray .int, 2) := by decide +kernel
theorem dX0_init_49 : decode cX0_init 49 = .ok (.putfield 28, 3) := by decide +kernel
theorem dX0_init_52 : decode cX0_init 52 = .ok (.aload_n 0, 1) := by decide +kernel
theorem dX0_init_53 : decode cX0_init 53 = .ok (.iconst 0, 1) := by decide +kernel
theorem dX0_init_54 : decode cX0_init 54 = .ok (.putfield 31, 3) := by decide +kernel
theorem dX0_init_57 : decode cX0_init 57 = .ok (.aload_n 0, 1) := by decide +kernel
theorem dX0_init_58 : decode cX0_init 58 = .ok (.iconst 0, 1) := by decide +kernel
theorem dX0_init_59 : decode cX0_init 59 = .ok (.putfield 35, 3) := by decide +kernel
theorem dX0_init_62 : decode cX0_init 62 = .ok (.aload_n 0, 1) := by decide +kernel
theorem dX0_init_63 : decode cX0_init 63 = .ok (.iconst 0, 1) := by decide +kernel
theorem dX0_init_64 : decode cX0_init 64 = .ok (.putfield 38, 3) := by decide +kernel
theorem dX0_init_67 : decode cX0_init 67 = .ok (.iconst 0, 1) := by decide +kernel
theorem dX0_init_68 : decode cX0_init 68 = .ok (.istore_n 1, 1) := by decide +kernel
theorem dX0_init_69 : decode cX0_init 69 = .ok (.iload_n 1, 1) := by decide +kernel
theorem dX0_init_70 : decode cX0_init 70 = .ok (.iconst 3, 1) := by decide +kernel
theorem dX0_init_71 : decode cX0_init 71 = .ok (.if_icmp .ge 16, 3) := by decide +kernel
theorem dX0_init_74 : decode cX0_init 74 = .ok (.aload_n 0, 1) := by decide +kernel
theorem dX0_init_75 : decode cX0_init 75 = .ok (.getfield 22, 3) := by decide +kernel
theorem dX0_init_78 : decode cX0_init 78 = .ok (.iload_n 1, 1) := by decide +kernel
theorem dX0_init_79 : decode cX0_init 79 = .ok (.iload_n 1, 1) := by decide +kernel
theorem dX0_init_80 : decode cX0_init 80 = .ok (.iastore, 1) := by decide +kernel
theorem dX0_init_81 : decode cX0_init 81 = .ok (.iinc 1 1, 3) := by decide +kernel
theorem dX0_init_84 : decode cX0_init 84 = .ok (.goto (-15), 3) := by decide +kernel
theorem dX0_init_87 : decode cX0_init 87 = .ok (.aload_n 0, 1) := by decide +kernel
theorem dX0_init_88 : decode cX0_init 88 = .ok (.getfield 25, 3) := by decide +kernel
theorem dX0_init_91 : decode cX0_init 91 = .ok (.iconst (-1), 1) := by decide +kernel
theorem dX0_init_92 : decode cX0_init 92 = .ok (.invokestatic 41, 3) := by decide +kernel
theorem dX0_init_95 : decode cX0_init 95 = .ok (.return_, 1) := by decide +kernel
theorem dX0_addPacket_0 : decode cX0_addPacket 0 = .ok (.aload_n 0, 1) := by decide +kernel
theorem dX0_addPacket_1 : decode cX0_addPacket 1 = .ok (.getfield 9, 3) := by decide +kernel
theorem dX0_addPacket_4 : decode cX0_addPacket 4 = .ok (.aload_n 0, 1) := by decide +kernel
theorem dX0_addPacket_5 : decode cX0_addPacket 5 = .ok (.getfield 31, 3) := by decide +kernel
theorem dX0_addPacket_8 : decode cX0_addPacket 8 = .ok (.iaload, 1) := by decide +kernel
theorem dX0_addPacket_9 : decode cX0_addPacket 9 = .ok (.istore_n 2, 1) := by decide +kernel
theorem dX0_addPacket_10 : decode cX0_addPacket 10 = .ok (.iload_n 2, 1) := by decide +kernel
theorem dX0_addPacket_11 : decode cX0_addPacket 11 = .ok (.istore_n 3, 1) := by decide +kernel
theorem dX0_addPacket_12 : decode cX0_addPacket 12 = .ok (.iload_n 3, 1) := by decide +kernel
theorem dX0_addPacket_13 : decode cX0_addPacket 13 = .ok (.iload_n 2, 1) := by decide +kernel
theorem dX0_addPacket_14 : decode cX0_addPacket 14 = .ok (.iload_n 1, 1) := by decide +kernel
theorem dX0_addPacket_15 : decode cX0_addPacket 15 = .ok (.iadd, 1) := by decide +kernel
theorem dX0_addPacket_16 : decode cX0_addPacket 16 = .ok (.if_icmp .ge 19, 3) := by decide +kernel
theorem dX0_addPacket_19 : decode cX0_addPacket 19 = .ok (.aload_n 0, 1) := by decide +kernel
theorem dX0_addPacket_20 : decode cX0_addPacket 20 = .ok (.getfield 15, 3) := by decide +kernel
theorem dX0_addPacket_23 : decode cX0_addPacket 23 = .ok (.iload_n 3, 1) := by decide +kernel
theorem dX0_addPacket_24 : decode cX0_addPacket 24 = .ok (.aload_n 0, 1) := by decide +kernel
theorem dX0_addPacket_25 : decode cX0_addPacket 25 = .ok (.getfield 31, 3) := by decide +kernel
theorem dX0_addPacket_28 : decode cX0_addPacket 28 = .ok (.iastore, 1) := by decide +kernel
theorem dX0_addPacket_29 : decode cX0_addPacket 29 = .ok (.iinc 3 1, 3) := by decide +kernel
theorem dX0_addPacket_32 : decode cX0_addPacket 32 = .ok (.goto (-20), 3) := by decide +kernel
theorem dX0_addPacket_35 : decode cX0_addPacket 35 = .ok (.aload_n 0, 1) := by decide +kernel
theorem dX0_addPacket_36 : decode cX0_addPacket 36 = .ok (.dup, 1) := by decide +kernel
theorem dX0_addPacket_37 : decode cX0_addPacket 37 = .ok (.getfield 31, 3) := by decide +kernel
theorem dX0_addPacket_40 : decode cX0_addPacket 40 = .ok (.iconst 1, 1) := by decide +kernel
theorem dX0_addPacket_41 : decode cX0_addPacket 41 = .ok (.iadd, 1) := by decide +kernel
theorem dX0_addPacket_42 : decode cX0_addPacket 42 = .ok (.putfield 31, 3) := by decide +kernel
theorem dX0_addPacket_45 : decode cX0_addPacket 45 = .ok (.aload_n 0, 1) := by decide +kernel
theorem dX0_addPacket_46 : decode cX0_addPacket 46 = .ok (.getfield 9, 3) := by decide +kernel
theorem dX0_addPacket_49 : decode cX0_addPacket 49 = .ok (.aload_n 0, 1) := by decide +kernel
theorem dX0_addPacket_50 : decode cX0_addPacket 50 = .ok (.getfield 31, 3) := by decide +kernel
theorem dX0_addPacket_53 : decode cX0_addPacket 53 = .ok (.iload_n 2, 1) := by decide +kernel
theorem dX0_addPacket_54 : decode cX0_addPacket 54 = .ok (.iload_n 1, 1) := by decide +kernel
theorem dX0_addPacket_55 : decode cX0_addPacket 55 = .ok (.iadd, 1) := by decide +kernel
theorem dX0_addPacket_56 : decode cX0_addPacket 56 = .ok (.iastore, 1) := by decide +kernel
theorem dX0_addPacket_57 : decode cX0_addPacket 57 = .ok (.iload_n 2, 1) := by decide +kernel
theorem dX0_addPacket_58 : decode cX0_addPacket 58 = .ok (.ireturn, 1) := by decide +kernel
theorem dX0_hasPieceOn_0 : decode cX0_hasPieceOn 0 = .ok (.aload_n 0, 1) := by decide +kernel
theorem dX0_hasPieceOn_1 : decode cX0_hasPieceOn 1 = .ok (.getfield 22, 3) := by decide +kernel
theorem dX0_hasPieceOn_4 : decode cX0_hasPieceOn 4 = .ok (.iload_n 1, 1) := by decide +kernel
theorem dX0_hasPieceOn_5 : decode cX0_hasPieceOn 5 = .ok (.iaload, 1) := by decide +kernel
theorem dX0_hasPieceOn_6 : decode cX0_hasPieceOn 6 = .ok (.aload_n 0, 1) := by decide +kernel
theorem dX0_hasPieceOn_7 : decode cX0_hasPieceOn 7 = .ok (.getfield 9, 3) := by decide +kernel
theorem dX0_hasPieceOn_10 : decode cX0_hasPieceOn 10 = .ok (.aload_n 0, 1) := by decide +kernel
theorem dX0_hasPieceOn_11 : decode cX0_hasPieceOn 11 = .ok (.getfield 31, 3) := by decide +kernel
theorem dX0_hasPieceOn_14 : decode cX0_hasPieceOn 14 = .ok (.iaload, 1) := by decide +kernel
theorem dX0_hasPieceOn_15 : decode cX0_hasPieceOn 15 = .ok (.if_icmp .ge 7, 3) := by decide +kernel
theorem dX0_hasPieceOn_18 : decode cX0_hasPieceOn 18 = .ok (.iconst 1, 1) := by decide +kernel
theorem dX0_hasPieceOn_19 : decode cX0_hasPieceOn 19 = .ok (.goto 4, 3) := by decide +kernel
theorem dX0_hasPieceOn_22 : decode cX0_hasPieceOn 22 = .ok (.iconst 0, 1) := by decide +kernel
theorem dX0_hasPieceOn_23 : decode cX0_hasPieceOn 23 = .ok (.ireturn, 1) := by decide +kernel
theorem dX0_takePiece_0 : decode cX0_takePiece 0 = .ok (.aload_n 0, 1) := by decide +kernel
theorem dX0_takePiece_1 : decode cX0_takePiece 1 = .ok (.getfield 22, 3) := by decide +kernel
theorem dX0_takePiece_4 : decode cX0_takePiece 4 = .ok (.iload_n 1, 1) := by decide +kernel
theorem dX0_takePiece_5 : decode cX0_takePiece 5 = .ok (.iaload, 1) := by decide +kernel
theorem dX0_takePiece_6 : decode cX0_takePiece 6 = .ok (.istore_n 2, 1) := by decide +kernel
theorem dX0_takePiece_7 : decode cX0_takePiece 7 = .ok (.aload_n 0, 1) := by decide +kernel
theorem dX0_takePiece_8 : decode cX0_takePiece 8 = .ok (.getfield 22, 3) := by decide +kernel
theorem dX0_takePiece_11 : decode cX0_takePiece 11 = .ok (.iload_n 1, 1) := by decide +kernel
theorem dX0_takePiece_12 : decode cX0_takePiece 12 = .ok (.iload_n 2, 1) := by decide +kernel
theorem dX0_takePiece_13 : decode cX0_takePiece 13 = .ok (.iconst 3, 1) := by decide +kernel
theorem dX0_takePiece_14 : decode cX0_takePiece 14 = .ok (.iadd, 1) := by decide +kernel
theorem dX0_takePiece_15 : decode cX0_takePiece 15 = .ok (.iastore, 1) := by decide +kernel
theorem dX0_takePiece_16 : decode cX0_takePiece 16 = .ok (.iload_n 2, 1) := by decide +kernel
theorem dX0_takePiece_17 : decode cX0_takePiece 17 = .ok (.ireturn, 1) := by decide +kernel
theorem dX0_bring_0 : decode cX0_bring 0 = .ok (.aload_n 0, 1) := by decide +kernel
theorem dX0_bring_1 : decode cX0_bring 1 = .ok (.getfield 35, 3) := by decide +kernel
theorem dX0_bring_4 : decode cX0_bring 4 = .ok (.istore_n 2, 1) := by decide +kernel
theorem dX0_bring_5 : decode cX0_bring 5 = .ok (.aload_n 0, 1) := by decide +kernel
theorem dX0_bring_6 : decode cX0_bring 6 = .ok (.iload_n 1, 1) := by decide +kernel
theorem dX0_bring_7 : decode cX0_bring 7 = .ok (.invokevirtual 47, 3) := by decide +kernel
theorem dX0_bring_10 : decode cX0_bring 10 = .ok (.istore_n 3, 1) := by decide +kernel
theorem dX0_bring_11 : decode cX0_bring 11 = .ok (.aload_n 0, 1) := by decide +kernel
theorem dX0_bring_12 : decode cX0_bring 12 = .ok (.getfield 18, 3) := by decide +kernel
theorem dX0_bring_15 : decode cX0_bring 15 = .ok (.iload_n 3, 1) := by decide +kernel
theorem dX0_bring_16 : decode cX0_bring 16 = .ok (.iconst 1, 1) := by decide +kernel
theorem dX0_bring_17 : decode cX0_bring 17 = .ok (.bastore, 1) := by decide +kernel
theorem dX0_bring_18 : decode cX0_bring 18 = .ok (.aload_n 0, 1) := by decide +kernel
theorem dX0_bring_19 : decode cX0_bring 19 = .ok (.getfield 25, 3) := by decide +kernel
theorem dX0_bring_22 : decode cX0_bring 22 = .ok (.iload_n 1, 1) := by decide +kernel
theorem dX0_bring_23 : decode cX0_bring 23 = .ok (.iload_n 3, 1) := by decide +kernel
theorem dX0_bring_24 : decode cX0_bring 24 = .ok (.iastore, 1) := by decide +kernel
theorem dX0_bring_25 : decode cX0_bring 25 = .ok (.aload_n 0, 1) := by decide +kernel
theorem dX0_bring_26 : decode cX0_bring 26 = .ok (.getfield 18, 3) := by decide +kernel
theorem dX0_bring_29 : decode cX0_bring 29 = .ok (.arraylength, 1) := by decide +kernel
theorem dX0_bring_30 : decode cX0_bring 30 = .ok (.istore 4, 2) := by decide +kernel
theorem dX0_bring_32 : decode cX0_bring 32 = .ok (.iload 4, 2) := by decide +kernel
theorem dX0_bring_34 : decode cX0_bring 34 = .ok (.ifCond .le 16, 3) := by decide +kernel
theorem dX0_bring_37 : decode cX0_bring 37 = .ok (.aload_n 0, 1) := by decide +kernel
theorem dX0_bring_38 : decode cX0_bring 38 = .ok (.invokevirtual 51, 3) := by decide +kernel
theorem dX0_bring_41 : decode cX0_bring 41 = .ok (.ifCond .eq 9, 3) := by decide +kernel
theorem dX0_bring_44 : decode cX0_bring 44 = .ok (.iinc 4 (-1), 3) := by decide +kernel
theorem dX0_bring_47 : decode cX0_bring 47 = .ok (.goto (-15), 3) := by decide +kernel
theorem dX0_bring_50 : decode cX0_bring 50 = .ok (.aload_n 0, 1) := by decide +kernel
theorem dX0_bring_51 : decode cX0_bring 51 = .ok (.getfield 35, 3) := by decide +kernel
theorem dX0_bring_54 : decode cX0_bring 54 = .ok (.iload_n 2, 1) := by decide +kernel
theorem dX0_bring_55 : decode cX0_bring 55 = .ok (.isub, 1) := by decide +kernel
theorem dX0_bring_56 : decode cX0_bring 56 = .ok (.ireturn, 1) := by decide +kernel
theorem dX0_advance_0 : decode cX0_advance 0 = .ok (.aload_n 0, 1) := by decide +kernel
theorem dX0_advance_1 : decode cX0_advance 1 = .ok (.getfield 38, 3) := by decide +kernel
theorem dX0_advance_4 : decode cX0_advance 4 = .ok (.istore_n 1, 1) := by decide +kernel
theorem dX0_advance_5 : decode cX0_advance 5 = .ok (.iload_n 1, 1) := by decide +kernel
theorem dX0_advance_6 : decode cX0_advance 6 = .ok (.aload_n 0, 1) := by decide +kernel
theorem dX0_advance_7 : decode cX0_advance 7 = .ok (.getfield 9, 3) := by decide +kernel
theorem dX0_advance_10 : decode cX0_advance 10 = .ok (.aload_n 0, 1) := by decide +kernel
theorem dX0_advance_11 : decode cX0_advance 11 = .ok (.getfield 31, 3) := by decide +kernel
theorem dX0_advance_14 : decode cX0_advance 14 = .ok (.iaload, 1) := by decide +kernel
theorem dX0_advance_15 : decode cX0_advance 15 = .ok (.if_icmp .lt 5, 3) := by decide +kernel
theorem dX0_advance_18 : decode cX0_advance 18 = .ok (.iconst 0, 1) := by decide +kernel
theorem dX0_advance_19 : decode cX0_advance 19 = .ok (.ireturn, 1) := by decide +kernel
theorem dX0_advance_20 : decode cX0_advance 20 = .ok (.aload_n 0, 1) := by decide +kernel
theorem dX0_advance_21 : decode cX0_advance 21 = .ok (.getfield 15, 3) := by decide +kernel
theorem dX0_advance_24 : decode cX0_advance 24 = .ok (.iload_n 1, 1) := by decide +kernel
theorem dX0_advance_25 : decode cX0_advance 25 = .ok (.iaload, 1) := by decide +kernel
theorem dX0_advance_26 : decode cX0_advance 26 = .ok (.istore_n 2, 1) := by decide +kernel
theorem dX0_advance_27 : decode cX0_advance 27 = .ok (.aload_n 0, 1) := by decide +kernel
theorem dX0_advance_28 : decode cX0_advance 28 = .ok (.getfield 18, 3) := by decide +kernel
theorem dX0_advance_31 : decode cX0_advance 31 = .ok (.iload_n 1, 1) := by decide +kernel
theorem dX0_advance_32 : decode cX0_advance 32 = .ok (.baload, 1) := by decide +kernel
theorem dX0_advance_33 : decode cX0_advance 33 = .ok (.ifCond .eq 19, 3) := by decide +kernel
theorem dX0_advance_36 : decode cX0_advance 36 = .ok (.aload_n 0, 1) := by decide +kernel
theorem dX0_advance_37 : decode cX0_advance 37 = .ok (.getfield 9, 3) := by decide +kernel
theorem dX0_advance_40 : decode cX0_advance 40 = .ok (.iload_n 2, 1) := by decide +kernel
theorem dX0_advance_41 : decode cX0_advance 41 = .ok (.iaload, 1) := by decide +kernel
theorem dX0_advance_42 : decode cX0_advance 42 = .ok (.iload_n 1, 1) := by decide +kernel
theorem dX0_advance_43 : decode cX0_advance 43 = .ok (.if_icmp .ne 9, 3) := by decide +kernel
theorem dX0_advance_46 : decode cX0_advance 46 = .ok (.aload_n 0, 1) := by decide +kernel
theorem dX0_advance_47 : decode cX0_advance 47 = .ok (.iload_n 2, 1) := by decide +kernel
theorem dX0_advance_48 : decode cX0_advance 48 = .ok (.invokevirtual 55, 3) := by decide +kernel
theorem dX0_advance_51 : decode cX0_advance 51 = .ok (.ireturn, 1) := by decide +kernel
theorem dX0_advance_52 : decode cX0_advance 52 = .ok (.aload_n 0, 1) := by decide +kernel
theorem dX0_advance_53 : decode cX0_advance 53 = .ok (.getfield 18, 3) := by decide +kernel
theorem dX0_advance_56 : decode cX0_advance 56 = .ok (.iload_n 1, 1) := by decide +kernel
theorem dX0_advance_57 : decode cX0_advance 57 = .ok (.baload, 1) := by decide +kernel
theorem dX0_advance_58 : decode cX0_advance 58 = .ok (.ifCond .ne 13, 3) := by decide +kernel
theorem dX0_advance_61 : decode cX0_advance 61 = .ok (.iload_n 1, 1) := by decide +kernel
theorem dX0_advance_62 : decode cX0_advance 62 = .ok (.aload_n 0, 1) := by decide +kernel
theorem dX0_advance_63 : decode cX0_advance 63 = .ok (.invokevirtual 59, 3) := by decide +kernel
theorem dX0_advance_66 : decode cX0_advance 66 = .ok (.if_icmp .lt 5, 3) := by decide +kernel
theorem dX0_advance_69 : decode cX0_advance 69 = .ok (.iconst 0, 1) := by decide +kernel
theorem dX0_advance_70 : decode cX0_advance 70 = .ok (.ireturn, 1) := by decide +kernel
theorem dX0_advance_71 : decode cX0_advance 71 = .ok (.aload_n 0, 1) := by decide +kernel
theorem dX0_advance_72 : decode cX0_advance 72 = .ok (.iload_n 1, 1) := by decide +kernel
theorem dX0_advance_73 : decode cX0_advance 73 = .ok (.iconst 1, 1) := by decide +kernel
theorem dX0_advance_74 : decode cX0_advance 74 = .ok (.iadd, 1) := by decide +kernel
theorem dX0_advance_75 : decode cX0_advance 75 = .ok (.putfield 38, 3) := by decide +kernel
theorem dX0_advance_78 : decode cX0_advance 78 = .ok (.iconst 1, 1) := by decide +kernel
theorem dX0_advance_79 : decode cX0_advance 79 = .ok (.ireturn, 1) := by decide +kernel
theorem dX0_advanceFromFirst_0 : decode cX0_advanceFromFirst 0 = .ok (.aload_n 0, 1) := by decide +kernel
theorem dX0_advanceFromFirst_1 : decode cX0_advanceFromFirst 1 = .ok (.iload_n 1, 1) := by decide +kernel
theorem dX0_advanceFromFirst_2 : decode cX0_advanceFromFirst 2 = .ok (.invokevirtual 63, 3) := by decide +kernel
theorem dX0_advanceFromFirst_5 : decode cX0_advanceFromFirst 5 = .ok (.istore_n 2, 1) := by decide +kernel
theorem dX0_advanceFromFirst_6 : decode cX0_advanceFromFirst 6 = .ok (.iload_n 2, 1) := by decide +kernel
theorem dX0_advanceFromFirst_7 : decode cX0_advanceFromFirst 7 = .ok (.aload_n 0, 1) := by decide +kernel
theorem dX0_advanceFromFirst_8 : decode cX0_advanceFromFirst 8 = .ok (.getfield 9, 3) := by decide +kernel
theorem dX0_advanceFromFirst_11 : decode cX0_advanceFromFirst 11 = .ok (.iload_n 1, 1) := by decide +kernel
theorem dX0_advanceFromFirst_12 : decode cX0_advanceFromFirst 12 = .ok (.iconst 1, 1) := by decide +kernel
theorem dX0_advanceFromFirst_13 : decode cX0_advanceFromFirst 13 = .ok (.iadd, 1) := by decide +kernel
theorem dX0_advanceFromFirst_14 : decode cX0_advanceFromFirst 14 = .ok (.iaload, 1) := by decide +kernel
theorem dX0_advanceFromFirst_15 : decode cX0_advanceFromFirst 15 = .ok (.if_icmp .ne 15, 3) := by decide +kernel
theorem dX0_advanceFromFirst_18 : decode cX0_advanceFromFirst 18 = .ok (.aload_n 0, 1) := by decide +kernel
theorem dX0_advanceFromFirst_19 : decode cX0_advanceFromFirst 19 = .ok (.iload_n 1, 1) := by decide +kernel
theorem dX0_advanceFromFirst_20 : decode cX0_advanceFromFirst 20 = .ok (.invokevirtual 66, 3) := by decide +kernel
theorem dX0_advanceFromFirst_23 : decode cX0_advanceFromFirst 23 = .ok (.aload_n 0, 1) := by decide +kernel
theorem dX0_advanceFromFirst_24 : decode cX0_advanceFromFirst 24 = .ok (.iload_n 2, 1) := by decide +kernel
theorem dX0_advanceFromFirst_25 : decode cX0_advanceFromFirst 25 = .ok (.putfield 38, 3) := by decide +kernel
theorem dX0_advanceFromFirst_28 : decode cX0_advanceFromFirst 28 = .ok (.iconst 1, 1) := by decide +kernel
theorem dX0_advanceFromFirst_29 : decode cX0_advanceFromFirst 29 = .ok (.ireturn, 1) := by decide +kernel
theorem dX0_advanceFromFirst_30 : decode cX0_advanceFromFirst 30 = .ok (.iload_n 2, 1) := by decide +kernel
theorem dX0_advanceFromFirst_31 : decode cX0_advanceFromFirst 31 = .ok (.aload_n 0, 1) := by decide +kernel
theorem dX0_advanceFromFirst_32 : decode cX0_advanceFromFirst 32 = .ok (.invokevirtual 59, 3) := by decide +kernel
theorem dX0_advanceFromFirst_35 : decode cX0_advanceFromFirst 35 = .ok (.if_icmp .lt 5, 3) := by decide +kernel
theorem dX0_advanceFromFirst_38 : decode cX0_advanceFromFirst 38 = .ok (.iconst 0, 1) := by decide +kernel
theorem dX0_advanceFromFirst_39 : decode cX0_advanceFromFirst 39 = .ok (.ireturn, 1) := by decide +kernel
theorem dX0_advanceFromFirst_40 : decode cX0_advanceFromFirst 40 = .ok (.aload_n 0, 1) := by decide +kernel
theorem dX0_advanceFromFirst_41 : decode cX0_advanceFromFirst 41 = .ok (.iload_n 2, 1) := by decide +kernel
theorem dX0_advanceFromFirst_42 : decode cX0_advanceFromFirst 42 = .ok (.iconst 1, 1) := by decide +kernel
theorem dX0_advanceFromFirst_43 : decode cX0_advanceFromFirst 43 = .ok (.iadd, 1) := by decide +kernel
theorem dX0_advanceFromFirst_44 : decode cX0_advanceFromFirst 44 = .ok (.putfield 38, 3) := by decide +kernel
theorem dX0_advanceFromFirst_47 : decode cX0_advanceFromFirst 47 = .ok (.iconst 1, 1) := by decide +kernel
theorem dX0_advanceFromFirst_48 : decode cX0_advanceFromFirst 48 = .ok (.ireturn, 1) := by decide +kernel
theorem dX0_give_0 : decode cX0_give 0 = .ok (.aload_n 0, 1) := by decide +kernel
theorem dX0_give_1 : decode cX0_give 1 = .ok (.getfield 35, 3) := by decide +kernel
theorem dX0_give_4 : decode cX0_give 4 = .ok (.aload_n 0, 1) := by decide +kernel
theorem dX0_give_5 : decode cX0_give 5 = .ok (.getfield 28, 3) := by decide +kernel
theorem dX0_give_8 : decode cX0_give 8 = .ok (.arraylength, 1) := by decide +kernel
theorem dX0_give_9 : decode cX0_give 9 = .ok (.if_icmp .ge 23, 3) := by decide +kernel
theorem dX0_give_12 : decode cX0_give 12 = .ok (.aload_n 0, 1) := by decide +kernel
theorem dX0_give_13 : decode cX0_give 13 = .ok (.getfield 28, 3) := by decide +kernel
theorem dX0_give_16 : decode cX0_give 16 = .ok (.aload_n 0, 1) := by decide +kernel
theorem dX0_give_17 : decode cX0_give 17 = .ok (.getfield 35, 3) := by decide +kernel
theorem dX0_give_20 : decode cX0_give 20 = .ok (.iload_n 1, 1) := by decide +kernel
theorem dX0_give_21 : decode cX0_give 21 = .ok (.iastore, 1) := by decide +kernel
theorem dX0_give_22 : decode cX0_give 22 = .ok (.aload_n 0, 1) := by decide +kernel
theorem dX0_give_23 : decode cX0_give 23 = .ok (.dup, 1) := by decide +kernel
theorem dX0_give_24 : decode cX0_give 24 = .ok (.getfield 35, 3) := by decide +kernel
theorem dX0_give_27 : decode cX0_give 27 = .ok (.iconst 1, 1) := by decide +kernel
theorem dX0_give_28 : decode cX0_give 28 = .ok (.iadd, 1) := by decide +kernel
theorem dX0_give_29 : decode cX0_give 29 = .ok (.putfield 35, 3) := by decide +kernel
theorem dX0_give_32 : decode cX0_give 32 = .ok (.return_, 1) := by decide +kernel
theorem dX0_firstNotCome_0 : decode cX0_firstNotCome 0 = .ok (.aload_n 0, 1) := by decide +kernel
theorem dX0_firstNotCome_1 : decode cX0_firstNotCome 1 = .ok (.getfield 9, 3) := by decide +kernel
theorem dX0_firstNotCome_4 : decode cX0_firstNotCome 4 = .ok (.iload_n 1, 1) := by decide +kernel
theorem dX0_firstNotCome_5 : decode cX0_firstNotCome 5 = .ok (.iconst 1, 1) := by decide +kernel
theorem dX0_firstNotCome_6 : decode cX0_firstNotCome 6 = .ok (.iadd, 1) := by decide +kernel
theorem dX0_firstNotCome_7 : decode cX0_firstNotCome 7 = .ok (.iaload, 1) := by decide +kernel
theorem dX0_firstNotCome_8 : decode cX0_firstNotCome 8 = .ok (.istore_n 2, 1) := by decide +kernel
theorem dX0_firstNotCome_9 : decode cX0_firstNotCome 9 = .ok (.aload_n 0, 1) := by decide +kernel
theorem dX0_firstNotCome_10 : decode cX0_firstNotCome 10 = .ok (.getfield 9, 3) := by decide +kernel
theorem dX0_firstNotCome_13 : decode cX0_firstNotCome 13 = .ok (.iload_n 1, 1) := by decide +kernel
theorem dX0_firstNotCome_14 : decode cX0_firstNotCome 14 = .ok (.iaload, 1) := by decide +kernel
theorem dX0_firstNotCome_15 : decode cX0_firstNotCome 15 = .ok (.istore_n 3, 1) := by decide +kernel
theorem dX0_firstNotCome_16 : decode cX0_firstNotCome 16 = .ok (.iload_n 3, 1) := by decide +kernel
theorem dX0_firstNotCome_17 : decode cX0_firstNotCome 17 = .ok (.iload_n 2, 1) := by decide +kernel
theorem dX0_firstNotCome_18 : decode cX0_firstNotCome 18 = .ok (.if_icmp .ge 20, 3) := by decide +kernel
theorem dX0_firstNotCome_21 : decode cX0_firstNotCome 21 = .ok (.aload_n 0, 1) := by decide +kernel
theorem dX0_firstNotCome_22 : decode cX0_firstNotCome 22 = .ok (.getfield 18, 3) := by decide +kernel
theorem dX0_firstNotCome_25 : decode cX0_firstNotCome 25 = .ok (.iload_n 3, 1) := by decide +kernel
theorem dX0_firstNotCome_26 : decode cX0_firstNotCome 26 = .ok (.baload, 1) := by decide +kernel
theorem dX0_firstNotCome_27 : decode cX0_firstNotCome 27 = .ok (.ifCond .ne 5, 3) := by decide +kernel
theorem dX0_firstNotCome_30 : decode cX0_firstNotCome 30 = .ok (.iload_n 3, 1) := by decide +kernel
theorem dX0_firstNotCome_31 : decode cX0_firstNotCome 31 = .ok (.ireturn, 1) := by decide +kernel
theorem dX0_firstNotCome_32 : decode cX0_firstNotCome 32 = .ok (.iinc 3 1, 3) := by decide +kernel
theorem dX0_firstNotCome_35 : decode cX0_firstNotCome 35 = .ok (.goto (-19), 3) := by decide +kernel
theorem dX0_firstNotCome_38 : decode cX0_firstNotCome 38 = .ok (.iload_n 2, 1) := by decide +kernel
theorem dX0_firstNotCome_39 : decode cX0_firstNotCome 39 = .ok (.ireturn, 1) := by decide +kernel
theorem dX0_bound_0 : decode cX0_bound 0 = .ok (.aload_n 0, 1) := by decide +kernel
theorem dX0_bound_1 : decode cX0_bound 1 = .ok (.getfield 25, 3) := by decide +kernel
theorem dX0_bound_4 : decode cX0_bound 4 = .ok (.iconst 0, 1) := by decide +kernel
theorem dX0_bound_5 : decode cX0_bound 5 = .ok (.iaload, 1) := by decide +kernel
theorem dX0_bound_6 : decode cX0_bound 6 = .ok (.istore_n 1, 1) := by decide +kernel
theorem dX0_bound_7 : decode cX0_bound 7 = .ok (.iconst 1, 1) := by decide +kernel
theorem dX0_bound_8 : decode cX0_bound 8 = .ok (.istore_n 2, 1) := by decide +kernel
theorem dX0_bound_9 : decode cX0_bound 9 = .ok (.iload_n 2, 1) := by decide +kernel
theorem dX0_bound_10 : decode cX0_bound 10 = .ok (.iconst 3, 1) := by decide +kernel
theorem dX0_bound_11 : decode cX0_bound 11 = .ok (.if_icmp .ge 20, 3) := by decide +kernel
theorem dX0_bound_14 : decode cX0_bound 14 = .ok (.iload_n 1, 1) := by decide +kernel
theorem dX0_bound_15 : decode cX0_bound 15 = .ok (.aload_n 0, 1) := by decide +kernel
theorem dX0_bound_16 : decode cX0_bound 16 = .ok (.getfield 25, 3) := by decide +kernel
theorem dX0_bound_19 : decode cX0_bound 19 = .ok (.iload_n 2, 1) := by decide +kernel
theorem dX0_bound_20 : decode cX0_bound 20 = .ok (.iaload, 1) := by decide +kernel
theorem dX0_bound_21 : decode cX0_bound 21 = .ok (.invokestatic 70, 3) := by decide +kernel
theorem dX0_bound_24 : decode cX0_bound 24 = .ok (.istore_n 1, 1) := by decide +kernel
theorem dX0_bound_25 : decode cX0_bound 25 = .ok (.iinc 2 1, 3) := by decide +kernel
theorem dX0_bound_28 : decode cX0_bound 28 = .ok (.goto (-19), 3) := by decide +kernel
theorem dX0_bound_31 : decode cX0_bound 31 = .ok (.iload_n 1, 1) := by decide +kernel
theorem dX0_bound_32 : decode cX0_bound 32 = .ok (.ireturn, 1) := by decide +kernel
theorem dX1_init_0 : decode cX1_init 0 = .ok (.aload_n 0, 1) := by decide +kernel
theorem dX1_init_1 : decode cX1_init 1 = .ok (.invokespecial 3, 3) := by decide +kernel
theorem dX1_init_4 : decode cX1_init 4 = .ok (.aload_n 0, 1) := by decide +kernel
theorem dX1_init_5 : decode cX1_init 5 = .ok (.bipush 6, 2) := by decide +kernel
theorem dX1_init_7 : decode cX1_init 7 = .ok (.newarray .int, 2) := by decide +kernel
theorem dX1_init_9 : decode cX1_init 9 = .ok (.putfield 9, 3) := by decide +kernel
theorem dX1_init_12 : decode cX1_init 12 = .ok (.aload_n 0, 1) := by decide +kernel
theorem dX1_init_13 : decode cX1_init 13 = .ok (.bipush 6, 2) := by decide +kernel
theorem dX1_init_15 : decode cX1_init 15 = .ok (.newarray .int, 2) := by decide +kernel
theorem dX1_init_17 : decode cX1_init 17 = .ok (.putfield 15, 3) := by decide +kernel
theorem dX1_init_20 : decode cX1_init 20 = .ok (.aload_n 0, 1) := by decide +kernel
theorem dX1_init_21 : decode cX1_init 21 = .ok (.bipush 6, 2) := by decide +kernel
theorem dX1_init_23 : decode cX1_init 23 = .ok (.newarray .int, 2) := by decide +kernel
theorem dX1_init_25 : decode cX1_init 25 = .ok (.putfield 18, 3) := by decide +kernel
theorem dX1_init_28 : decode cX1_init 28 = .ok (.aload_n 0, 1) := by decide +kernel
theorem dX1_init_29 : decode cX1_init 29 = .ok (.new 21, 3) := by decide +kernel
theorem dX1_init_32 : decode cX1_init 32 = .ok (.dup, 1) := by decide +kernel
theorem dX1_init_33 : decode cX1_init 33 = .ok (.invokespecial 23, 3) := by decide +kernel
theorem dX1_init_36 : decode cX1_init 36 = .ok (.putfield 24, 3) := by decide +kernel
theorem dX1_init_39 : decode cX1_init 39 = .ok (.aload_n 0, 1) := by decide +kernel
theorem dX1_init_40 : decode cX1_init 40 = .ok (.iconst 0, 1) := by decide +kernel
theorem dX1_init_41 : decode cX1_init 41 = .ok (.putfield 28, 3) := by decide +kernel
theorem dX1_init_44 : decode cX1_init 44 = .ok (.aload_n 0, 1) := by decide +kernel
theorem dX1_init_45 : decode cX1_init 45 = .ok (.iconst 0, 1) := by decide +kernel
theorem dX1_init_46 : decode cX1_init 46 = .ok (.putfield 32, 3) := by decide +kernel
theorem dX1_init_49 : decode cX1_init 49 = .ok (.aload_n 0, 1) := by decide +kernel
theorem dX1_init_50 : decode cX1_init 50 = .ok (.iconst 0, 1) := by decide +kernel
theorem dX1_init_51 : decode cX1_init 51 = .ok (.putfield 35, 3) := by decide +kernel
theorem dX1_init_54 : decode cX1_init 54 = .ok (.aload_n 0, 1) := by decide +kernel
theorem dX1_init_55 : decode cX1_init 55 = .ok (.iconst (-1), 1) := by decide +kernel
theorem dX1_init_56 : decode cX1_init 56 = .ok (.putfield 38, 3) := by decide +kernel
theorem dX1_init_59 : decode cX1_init 59 = .ok (.aload_n 0, 1) := by decide +kernel
theorem dX1_init_60 : decode cX1_init 60 = .ok (.iconst 0, 1) := by decide +kernel
theorem dX1_init_61 : decode cX1_init 61 = .ok (.putfield 41, 3) := by decide +kernel
theorem dX1_init_64 : decode cX1_init 64 = .ok (.aload_n 0, 1) := by decide +kernel
theorem dX1_init_65 : decode cX1_init 65 = .ok (.iconst 0, 1) := by decide +kernel
theorem dX1_init_66 : decode cX1_init 66 = .ok (.putfield 45, 3) := by decide +kernel
theorem dX1_init_69 : decode cX1_init 69 = .ok (.aload_n 0, 1) := by decide +kernel
theorem dX1_init_70 : decode cX1_init 70 = .ok (.iload_n 1, 1) := by decide +kernel
theorem dX1_init_71 : decode cX1_init 71 = .ok (.putfield 48, 3) := by decide +kernel
theorem dX1_init_74 : decode cX1_init 74 = .ok (.aload_n 0, 1) := by decide +kernel
theorem dX1_init_75 : decode cX1_init 75 = .ok (.getfield 9, 3) := by decide +kernel
theorem dX1_init_78 : decode cX1_init 78 = .ok (.iconst (-1), 1) := by decide +kernel
theorem dX1_init_79 : decode cX1_init 79 = .ok (.invokestatic 51, 3) := by decide +kernel
theorem dX1_init_82 : decode cX1_init 82 = .ok (.aload_n 0, 1) := by decide +kernel
theorem dX1_init_83 : decode cX1_init 83 = .ok (.getfield 18, 3) := by decide +kernel
theorem dX1_init_86 : decode cX1_init 86 = .ok (.iconst (-1), 1) := by decide +kernel
theorem dX1_init_87 : decode cX1_init 87 = .ok (.invokestatic 51, 3) := by decide +kernel
theorem dX1_init_90 : decode cX1_init 90 = .ok (.return_, 1) := by decide +kernel
theorem dX1_changeWish_0 : decode cX1_changeWish 0 = .ok (.aload_n 0, 1) := by decide +kernel
theorem dX1_changeWish_1 : decode cX1_changeWish 1 = .ok (.getfield 9, 3) := by decide +kernel
theorem dX1_changeWish_4 : decode cX1_changeWish 4 = .ok (.iload_n 1, 1) := by decide +kernel
theorem dX1_changeWish_5 : decode cX1_changeWish 5 = .ok (.iaload, 1) := by decide +kernel
theorem dX1_changeWish_6 : decode cX1_changeWish 6 = .ok (.istore_n 3, 1) := by decide +kernel
theorem dX1_changeWish_7 : decode cX1_changeWish 7 = .ok (.aload_n 0, 1) := by decide +kernel
theorem dX1_changeWish_8 : decode cX1_changeWish 8 = .ok (.getfield 9, 3) := by decide +kernel
theorem dX1_changeWish_11 : decode cX1_changeWish 11 = .ok (.iload_n 1, 1) := by decide +kernel
theorem dX1_changeWish_12 : decode cX1_changeWish 12 = .ok (.iload_n 2, 1) := by decide +kernel
theorem dX1_changeWish_13 : decode cX1_changeWish 13 = .ok (.iastore, 1) := by decide +kernel
theorem dX1_changeWish_14 : decode cX1_changeWish 14 = .ok (.iload_n 3, 1) := by decide +kernel
theorem dX1_changeWish_15 : decode cX1_changeWish 15 = .ok (.ireturn, 1) := by decide +kernel
theorem dX1_changeAllowed_0 : decode cX1_changeAllowed 0 = .ok (.aload_n 0, 1) := by decide +kernel
theorem dX1_changeAllowed_1 : decode cX1_changeAllowed 1 = .ok (.getfield 15, 3) := by decide +kernel
theorem dX1_changeAllowed_4 : decode cX1_changeAllowed 4 = .ok (.iload_n 1, 1) := by decide +kernel
theorem dX1_changeAllowed_5 : decode cX1_changeAllowed 5 = .ok (.iaload, 1) := by decide +kernel
theorem dX1_changeAllowed_6 : decode cX1_changeAllowed 6 = .ok (.istore_n 3, 1) := by decide +kernel
theorem dX1_changeAllowed_7 : decode cX1_changeAllowed 7 = .ok (.aload_n 0, 1) := by decide +kernel
theorem dX1_changeAllowed_8 : decode cX1_changeAllowed 8 = .ok (.getfield 15, 3) := by decide +kernel
theorem dX1_changeAllowed_11 : decode cX1_changeAllowed 11 = .ok (.iload_n 1, 1) := by decide +kernel
theorem dX1_changeAllowed_12 : decode cX1_changeAllowed 12 = .ok (.iload_n 2, 1) := by decide +kernel
theorem dX1_changeAllowed_13 : decode cX1_changeAllowed 13 = .ok (.iastore, 1) := by decide +kernel
theorem dX1_changeAllowed_14 : decode cX1_changeAllowed 14 = .ok (.iload_n 3, 1) := by decide +kernel
theorem dX1_changeAllowed_15 : decode cX1_changeAllowed 15 = .ok (.ireturn, 1) := by decide +kernel
theorem dX1_changeMagic_0 : decode cX1_changeMagic 0 = .ok (.aload_n 0, 1) := by decide +kernel
theorem dX1_changeMagic_1 : decode cX1_changeMagic 1 = .ok (.getfield 48, 3) := by decide +kernel
theorem dX1_changeMagic_4 : decode cX1_changeMagic 4 = .ok (.istore_n 2, 1) := by decide +kernel
theorem dX1_changeMagic_5 : decode cX1_changeMagic 5 = .ok (.aload_n 0, 1) := by decide +kernel
theorem dX1_changeMagic_6 : decode cX1_changeMagic 6 = .ok (.iload_n 1, 1) := by decide +kernel
theorem dX1_changeMagic_7 : decode cX1_changeMagic 7 = .ok (.putfield 48, 3) := by decide +kernel
theorem dX1_changeMagic_10 : decode cX1_changeMagic 10 = .ok (.iload_n 2, 1) := by decide +kernel
theorem dX1_changeMagic_11 : decode cX1_changeMagic 11 = .ok (.ireturn, 1) := by decide +kernel
theorem dX1_begin_0 : decode cX1_begin 0 = .ok (.aload_n 0, 1) := by decide +kernel
theorem dX1_begin_1 : decode cX1_begin 1 = .ok (.getfield 9, 3) := by decide +kernel
theorem dX1_begin_4 : decode cX1_begin 4 = .ok (.iconst 0, 1) := by decide +kernel
theorem dX1_begin_5 : decode cX1_begin 5 = .ok (.aload_n 0, 1) := by decide +kernel
theorem dX1_begin_6 : decode cX1_begin 6 = .ok (.getfield 18, 3) := by decide +kernel
theorem dX1_begin_9 : decode cX1_begin 9 = .ok (.iconst 0, 1) := by decide +kernel
theorem dX1_begin_10 : decode cX1_begin 10 = .ok (.bipush 6, 2) := by decide +kernel
theorem dX1_begin_12 : decode cX1_begin 12 = .ok (.invokestatic 57, 3) := by decide +kernel
theorem dX1_begin_15 : decode cX1_begin 15 = .ok (.aload_n 0, 1) := by decide +kernel
theorem dX1_begin_16 : decode cX1_begin 16 = .ok (.iconst 0, 1) := by decide +kernel
theorem dX1_begin_17 : decode cX1_begin 17 = .ok (.putfield 35, 3) := by decide +kernel
theorem dX1_begin_20 : decode cX1_begin 20 = .ok (.aload_n 0, 1) := by decide +kernel
theorem dX1_begin_21 : decode cX1_begin 21 = .ok (.iconst 1, 1) := by decide +kernel
theorem dX1_begin_22 : decode cX1_begin 22 = .ok (.putfield 28, 3) := by decide +kernel
theorem dX1_begin_25 : decode cX1_begin 25 = .ok (.aload_n 0, 1) := by decide +kernel
theorem dX1_begin_26 : decode cX1_begin 26 = .ok (.invokevirtual 63, 3) := by decide +kernel
theorem dX1_begin_29 : decode cX1_begin 29 = .ok (.pop, 1) := by decide +kernel
theorem dX1_begin_30 : decode cX1_begin 30 = .ok (.aload_n 0, 1) := by decide +kernel
theorem dX1_begin_31 : decode cX1_begin 31 = .ok (.getfield 38, 3) := by decide +kernel
theorem dX1_begin_34 : decode cX1_begin 34 = .ok (.ireturn, 1) := by decide +kernel
theorem dX1_finish_0 : decode cX1_finish 0 = .ok (.aload_n 0, 1) := by decide +kernel
theorem dX1_finish_1 : decode cX1_finish 1 = .ok (.getfield 28, 3) := by decide +kernel
theorem dX1_finish_4 : decode cX1_finish 4 = .ok (.istore_n 1, 1) := by decide +kernel
theorem dX1_finish_5 : decode cX1_finish 5 = .ok (.aload_n 0, 1) := by decide +kernel
theorem dX1_finish_6 : decode cX1_finish 6 = .ok (.invokevirtual 67, 3) := by decide +kernel
theorem dX1_finish_9 : decode cX1_finish 9 = .ok (.aload_n 0, 1) := by decide +kernel
theorem dX1_finish_10 : decode cX1_finish 10 = .ok (.iconst 0, 1) := by decide +kernel
theorem dX1_finish_11 : decode cX1_finish 11 = .ok (.putfield 28, 3) := by decide +kernel
theorem dX1_finish_14 : decode cX1_finish 14 = .ok (.iload_n 1, 1) := by decide +kernel
theorem dX1_finish_15 : decode cX1_finish 15 = .ok (.ireturn, 1) := by decide +kernel
theorem dX1_tick_0 : decode cX1_tick 0 = .ok (.aload_n 0, 1) := by decide +kernel
theorem dX1_tick_1 : decode cX1_tick 1 = .ok (.getfield 28, 3) := by decide +kernel
theorem dX1_tick_4 : decode cX1_tick 4 = .ok (.ifCond .eq 11, 3) := by decide +kernel
theorem dX1_tick_7 : decode cX1_tick 7 = .ok (.aload_n 0, 1) := by decide +kernel
theorem dX1_tick_8 : decode cX1_tick 8 = .ok (.getfield 28, 3) := by decide +kernel
theorem dX1_tick_11 : decode cX1_tick 11 = .ok (.iconst 4, 1) := by decide +kernel
theorem dX1_tick_12 : decode cX1_tick 12 = .ok (.if_icmp .ne 5, 3) := by decide +kernel
theorem dX1_tick_15 : decode cX1_tick 15 = .ok (.iconst 0, 1) := by decide +kernel
theorem dX1_tick_16 : decode cX1_tick 16 = .ok (.ireturn, 1) := by decide +kernel
theorem dX1_tick_17 : decode cX1_tick 17 = .ok (.aload_n 0, 1) := by decide +kernel
theorem dX1_tick_18 : decode cX1_tick 18 = .ok (.dup, 1) := by decide +kernel
theorem dX1_tick_19 : decode cX1_tick 19 = .ok (.getfield 32, 3) := by decide +kernel
theorem dX1_tick_22 : decode cX1_tick 22 = .ok (.iconst 1, 1) := by decide +kernel
theorem dX1_tick_23 : decode cX1_tick 23 = .ok (.isub, 1) := by decide +kernel
theorem dX1_tick_24 : decode cX1_tick 24 = .ok (.putfield 32, 3) := by decide +kernel
theorem dX1_tick_27 : decode cX1_tick 27 = .ok (.aload_n 0, 1) := by decide +kernel
theorem dX1_tick_28 : decode cX1_tick 28 = .ok (.getfield 32, 3) := by decide +kernel
theorem dX1_tick_31 : decode cX1_tick 31 = .ok (.ifCond .le 5, 3) := by decide +kernel
theorem dX1_tick_34 : decode cX1_tick 34 = .ok (.iconst 0, 1) := by decide +kernel
theorem dX1_tick_35 : decode cX1_tick 35 = .ok (.ireturn, 1) := by decide +kernel
theorem dX1_tick_36 : decode cX1_tick 36 = .ok (.aload_n 0, 1) := by decide +kernel
theorem dX1_tick_37 : decode cX1_tick 37 = .ok (.getfield 28, 3) := by decide +kernel
theorem dX1_tick_40 : decode cX1_tick 40 = .ok (.iconst 2, 1) := by decide +kernel
theorem dX1_tick_41 : decode cX1_tick 41 = .ok (.if_icmp .ne 8, 3) := by decide +kernel
theorem dX1_tick_44 : decode cX1_tick 44 = .ok (.aload_n 0, 1) := by decide +kernel
theorem dX1_tick_45 : decode cX1_tick 45 = .ok (.iconst 1, 1) := by decide +kernel
theorem dX1_tick_46 : decode cX1_tick 46 = .ok (.putfield 28, 3) := by decide +kernel
theorem dX1_tick_49 : decode cX1_tick 49 = .ok (.aload_n 0, 1) := by decide +kernel
theorem dX1_tick_50 : decode cX1_tick 50 = .ok (.invokevirtual 63, 3) := by decide +kernel
theorem dX1_tick_53 : decode cX1_tick 53 = .ok (.ireturn, 1) := by decide +kernel
theorem dX1_hear_0 : decode cX1_hear 0 = .ok (.aload_n 1, 1) := by decide +kernel
theorem dX1_hear_1 : decode cX1_hear 1 = .ok (.getfield 70, 3) := by decide +kernel
theorem dX1_hear_4 : decode cX1_hear 4 = .ok (.lookupswitch 44 #[(0, 28), (4, 36)], 28) := by decide +kernel
theorem dX1_hear_32 : decode cX1_hear 32 = .ok (.aload_n 0, 1) := by decide +kernel
theorem dX1_hear_33 : decode cX1_hear 33 = .ok (.aload_n 1, 1) := by decide +kernel
theorem dX1_hear_34 : decode cX1_hear 34 = .ok (.invokevirtual 75, 3) := by decide +kernel
theorem dX1_hear_37 : decode cX1_hear 37 = .ok (.goto 16, 3) := by decide +kernel
theorem dX1_hear_40 : decode cX1_hear 40 = .ok (.aload_n 0, 1) := by decide +kernel
theorem dX1_hear_41 : decode cX1_hear 41 = .ok (.iconst 0, 1) := by decide +kernel
theorem dX1_hear_42 : decode cX1_hear 42 = .ok (.putfield 28, 3) := by decide +kernel
theorem dX1_hear_45 : decode cX1_hear 45 = .ok (.goto 8, 3) := by decide +kernel
theorem dX1_hear_48 : decode cX1_hear 48 = .ok (.aload_n 0, 1) := by decide +kernel
theorem dX1_hear_49 : decode cX1_hear 49 = .ok (.aload_n 1, 1) := by decide +kernel
theorem dX1_hear_50 : decode cX1_hear 50 = .ok (.invokevirtual 79, 3) := by decide +kernel
theorem dX1_hear_53 : decode cX1_hear 53 = .ok (.return_, 1) := by decide +kernel
theorem dX1_hearRequest_0 : decode cX1_hearRequest 0 = .ok (.aload_n 0, 1) := by decide +kernel
theorem dX1_hearRequest_1 : decode cX1_hearRequest 1 = .ok (.aload_n 1, 1) := by decide +kernel
theorem dX1_hearRequest_2 : decode cX1_hearRequest 2 = .ok (.getfield 82, 3) := by decide +kernel
theorem dX1_hearRequest_5 : decode cX1_hearRequest 5 = .ok (.aload_n 0, 1) := by decide +kernel
theorem dX1_hearRequest_6 : decode cX1_hearRequest 6 = .ok (.getfield 48, 3) := by decide +kernel
theorem dX1_hearRequest_9 : decode cX1_hearRequest 9 = .ok (.if_icmp .ne 7, 3) := by decide +kernel
theorem dX1_hearRequest_12 : decode cX1_hearRequest 12 = .ok (.iconst 1, 1) := by decide +kernel
theorem dX1_hearRequest_13 : decode cX1_hearRequest 13 = .ok (.goto 4, 3) := by decide +kernel
theorem dX1_hearRequest_16 : decode cX1_hearRequest 16 = .ok (.iconst 0, 1) := by decide +kernel
theorem dX1_hearRequest_17 : decode cX1_hearRequest 17 = .ok (.putfield 41, 3) := by decide +kernel
theorem dX1_hearRequest_20 : decode cX1_hearRequest 20 = .ok (.aload_n 0, 1) := by decide +kernel
theorem dX1_hearRequest_21 : decode cX1_hearRequest 21 = .ok (.getfield 41, 3) := by decide +kernel
theorem dX1_hearRequest_24 : decode cX1_hearRequest 24 = .ok (.ifCond .eq 4, 3) := by decide +kernel
theorem dX1_hearRequest_27 : decode cX1_hearRequest 27 = .ok (.return_, 1) := by decide +kernel
theorem dX1_hearRequest_28 : decode cX1_hearRequest 28 = .ok (.aload_n 0, 1) := by decide +kernel
theorem dX1_hearRequest_29 : decode cX1_hearRequest 29 = .ok (.getfield 28, 3) := by decide +kernel
theorem dX1_hearRequest_32 : decode cX1_hearRequest 32 = .ok (.ifCond .ne 8, 3) := by decide +kernel
theorem dX1_hearRequest_35 : decode cX1_hearRequest 35 = .ok (.aload_n 0, 1) := by decide +kernel
theorem dX1_hearRequest_36 : decode cX1_hearRequest 36 = .ok (.invokevirtual 67, 3) := by decide +kernel
theorem dX1_hearRequest_39 : decode cX1_hearRequest 39 = .ok (.return_, 1) := by decide +kernel
theorem dX1_hearRequest_40 : decode cX1_hearRequest 40 = .ok (.aload_n 0, 1) := by decide +kernel
theorem dX1_hearRequest_41 : decode cX1_hearRequest 41 = .ok (.getfield 28, 3) := by decide +kernel
theorem dX1_hearRequest_44 : decode cX1_hearRequest 44 = .ok (.iconst 4, 1) := by decide +kernel
theorem dX1_hearRequest_45 : decode cX1_hearRequest 45 = .ok (.if_icmp .ne 16, 3) := by decide +kernel
theorem dX1_hearRequest_48 : decode cX1_hearRequest 48 = .ok (.aload_n 0, 1) := by decide +kernel
theorem dX1_hearRequest_49 : decode cX1_hearRequest 49 = .ok (.invokevirtual 63, 3) := by decide +kernel
theorem dX1_hearRequest_52 : decode cX1_hearRequest 52 = .ok (.ifCond .ne 4, 3) := by decide +kernel
theorem dX1_hearRequest_55 : decode cX1_hearRequest 55 = .ok (.return_, 1) := by decide +kernel
theorem dX1_hearRequest_56 : decode cX1_hearRequest 56 = .ok (.aload_n 0, 1) := by decide +kernel
theorem dX1_hearRequest_57 : decode cX1_hearRequest 57 = .ok (.iconst 1, 1) := by decide +kernel
theorem dX1_hearRequest_58 : decode cX1_hearRequest 58 = .ok (.putfield 28, 3) := by decide +kernel
theorem dX1_hearRequest_61 : decode cX1_hearRequest 61 = .ok (.aload_n 0, 1) := by decide +kernel
theorem dX1_hearRequest_62 : decode cX1_hearRequest 62 = .ok (.aload_n 1, 1) := by decide +kernel
theorem dX1_hearRequest_63 : decode cX1_hearRequest 63 = .ok (.invokevirtual 83, 3) := by decide +kernel
theorem dX1_hearRequest_66 : decode cX1_hearRequest 66 = .ok (.return_, 1) := by decide +kernel
theorem dX1_hearAnswer_0 : decode cX1_hearAnswer 0 = .ok (.aload_n 0, 1) := by decide +kernel
theorem dX1_hearAnswer_1 : decode cX1_hearAnswer 1 = .ok (.getfield 28, 3) := by decide +kernel
theorem dX1_hearAnswer_4 : decode cX1_hearAnswer 4 = .ok (.iconst 1, 1) := by decide +kernel
theorem dX1_hearAnswer_5 : decode cX1_hearAnswer 5 = .ok (.if_icmp .eq 11, 3) := by decide +kernel
theorem dX1_hearAnswer_8 : decode cX1_hearAnswer 8 = .ok (.aload_n 0, 1) := by decide +kernel
theorem dX1_hearAnswer_9 : decode cX1_hearAnswer 9 = .ok (.getfield 28, 3) := by decide +kernel
theorem dX1_hearAnswer_12 : decode cX1_hearAnswer 12 = .ok (.iconst 3, 1) := by decide +kernel
theorem dX1_hearAnswer_13 : decode cX1_hearAnswer 13 = .ok (.if_icmp .ne 7, 3) := by decide +kernel
theorem dX1_hearAnswer_16 : decode cX1_hearAnswer 16 = .ok (.iconst 1, 1) := by decide +kernel
theorem dX1_hearAnswer_17 : decode cX1_hearAnswer 17 = .ok (.goto 4, 3) := by decide +kernel
theorem dX1_hearAnswer_20 : decode cX1_hearAnswer 20 = .ok (.iconst 0, 1) := by decide +kernel
theorem dX1_hearAnswer_21 : decode cX1_hearAnswer 21 = .ok (.istore_n 2, 1) := by decide +kernel
theorem dX1_hearAnswer_22 : decode cX1_hearAnswer 22 = .ok (.iload_n 2, 1) := by decide +kernel
theorem dX1_hearAnswer_23 : decode cX1_hearAnswer 23 = .ok (.ifCond .eq 14, 3) := by decide +kernel
theorem dX1_hearAnswer_26 : decode cX1_hearAnswer 26 = .ok (.aload_n 1, 1) := by decide +kernel
theorem dX1_hearAnswer_27 : decode cX1_hearAnswer 27 = .ok (.getfield 86, 3) := by decide +kernel
theorem dX1_hearAnswer_30 : decode cX1_hearAnswer 30 = .ok (.aload_n 0, 1) := by decide +kernel
theorem dX1_hearAnswer_31 : decode cX1_hearAnswer 31 = .ok (.getfield 38, 3) := by decide +kernel
theorem dX1_hearAnswer_34 : decode cX1_hearAnswer 34 = .ok (.if_icmp .eq 4, 3) := by decide +kernel
theorem dX1_hearAnswer_37 : decode cX1_hearAnswer 37 = .ok (.return_, 1) := by decide +kernel
theorem dX1_hearAnswer_38 : decode cX1_hearAnswer 38 = .ok (.aload_n 1, 1) := by decide +kernel
theorem dX1_hearAnswer_39 : decode cX1_hearAnswer 39 = .ok (.getfield 70, 3) := by decide +kernel
theorem dX1_hearAnswer_42 : decode cX1_hearAnswer 42 = .ok (.iconst 1, 1) := by decide +kernel
theorem dX1_hearAnswer_43 : decode cX1_hearAnswer 43 = .ok (.if_icmp .ne 21, 3) := by decide +kernel
theorem dX1_hearAnswer_46 : decode cX1_hearAnswer 46 = .ok (.aload_n 0, 1) := by decide +kernel
theorem dX1_hearAnswer_47 : decode cX1_hearAnswer 47 = .ok (.aload_n 0, 1) := by decide +kernel
theorem dX1_hearAnswer_48 : decode cX1_hearAnswer 48 = .ok (.getfield 28, 3) := by decide +kernel
theorem dX1_hearAnswer_51 : decode cX1_hearAnswer 51 = .ok (.iconst 1, 1) := by decide +kernel
theorem dX1_hearAnswer_52 : decode cX1_hearAnswer 52 = .ok (.if_icmp .ne 7, 3) := by decide +kernel
theorem dX1_hearAnswer_55 : decode cX1_hearAnswer 55 = .ok (.iconst 2, 1) := by decide +kernel
theorem dX1_hearAnswer_56 : decode cX1_hearAnswer 56 = .ok (.goto 4, 3) := by decide +kernel
theorem dX1_hearAnswer_59 : decode cX1_hearAnswer 59 = .ok (.iconst 4, 1) := by decide +kernel
theorem dX1_hearAnswer_60 : decode cX1_hearAnswer 60 = .ok (.putfield 28, 3) := by decide +kernel
theorem dX1_hearAnswer_63 : decode cX1_hearAnswer 63 = .ok (.return_, 1) := by decide +kernel
theorem dX1_hearAnswer_64 : decode cX1_hearAnswer 64 = .ok (.aload_n 0, 1) := by decide +kernel
theorem dX1_hearAnswer_65 : decode cX1_hearAnswer 65 = .ok (.aload_n 1, 1) := by decide +kernel
theorem dX1_hearAnswer_66 : decode cX1_hearAnswer 66 = .ok (.invokevirtual 89, 3) := by decide +kernel
theorem dX1_hearAnswer_69 : decode cX1_hearAnswer 69 = .ok (.aload_n 0, 1) := by decide +kernel
theorem dX1_hearAnswer_70 : decode cX1_hearAnswer 70 = .ok (.invokevirtual 63, 3) := by decide +kernel
theorem dX1_hearAnswer_73 : decode cX1_hearAnswer 73 = .ok (.pop, 1) := by decide +kernel
theorem dX1_hearAnswer_74 : decode cX1_hearAnswer 74 = .ok (.return_, 1) := by decide +kernel
theorem dX1_changeAskedFor_0 : decode cX1_changeAskedFor 0 = .ok (.iconst 0, 1) := by decide +kernel
theorem dX1_changeAskedFor_1 : decode cX1_changeAskedFor 1 = .ok (.istore_n 2, 1) := by decide +kernel
theorem dX1_changeAskedFor_2 : decode cX1_changeAskedFor 2 = .ok (.iload_n 2, 1) := by decide +kernel
theorem dX1_changeAskedFor_3 : decode cX1_changeAskedFor 3 = .ok (.bipush 6, 2) := by decide +kernel
theorem dX1_changeAskedFor_5 : decode cX1_changeAskedFor 5 = .ok (.if_icmp .ge 43, 3) := by decide +kernel
theorem dX1_changeAskedFor_8 : decode cX1_changeAskedFor 8 = .ok (.aload_n 1, 1) := by decide +kernel
theorem dX1_changeAskedFor_9 : decode cX1_changeAskedFor 9 = .ok (.getfield 92, 3) := by decide +kernel
theorem dX1_changeAskedFor_12 : decode cX1_changeAskedFor 12 = .ok (.iload_n 2, 1) := by decide +kernel
theorem dX1_changeAskedFor_13 : decode cX1_changeAskedFor 13 = .ok (.iaload, 1) := by decide +kernel
theorem dX1_changeAskedFor_14 : decode cX1_changeAskedFor 14 = .ok (.iconst (-1), 1) := by decide +kernel
theorem dX1_changeAskedFor_15 : decode cX1_changeAskedFor 15 = .ok (.if_icmp .eq 27, 3) := by decide +kernel
theorem dX1_changeAskedFor_18 : decode cX1_changeAskedFor 18 = .ok (.aload_n 0, 1) := by decide +kernel
theorem dX1_changeAskedFor_19 : decode cX1_changeAskedFor 19 = .ok (.getfield 18, 3) := by decide +kernel
theorem dX1_changeAskedFor_22 : decode cX1_changeAskedFor 22 = .ok (.iload_n 2, 1) := by decide +kernel
theorem dX1_changeAskedFor_23 : decode cX1_changeAskedFor 23 = .ok (.aload_n 1, 1) := by decide +kernel
theorem dX1_changeAskedFor_24 : decode cX1_changeAskedFor 24 = .ok (.getfield 70, 3) := by decide +kernel
theorem dX1_changeAskedFor_27 : decode cX1_changeAskedFor 27 = .ok (.iconst 2, 1) := by decide +kernel
theorem dX1_changeAskedFor_28 : decode cX1_changeAskedFor 28 = .ok (.if_icmp .ne 12, 3) := by decide +kernel
theorem dX1_changeAskedFor_31 : decode cX1_changeAskedFor 31 = .ok (.aload_n 1, 1) := by decide +kernel
theorem dX1_changeAskedFor_32 : decode cX1_changeAskedFor 32 = .ok (.getfield 92, 3) := by decide +kernel
theorem dX1_changeAskedFor_35 : decode cX1_changeAskedFor 35 = .ok (.iload_n 2, 1) := by decide +kernel
theorem dX1_changeAskedFor_36 : decode cX1_changeAskedFor 36 = .ok (.iaload, 1) := by decide +kernel
theorem dX1_changeAskedFor_37 : decode cX1_changeAskedFor 37 = .ok (.goto 4, 3) := by decide +kernel
theorem dX1_changeAskedFor_40 : decode cX1_changeAskedFor 40 = .ok (.iconst (-1), 1) := by decide +kernel
theorem dX1_changeAskedFor_41 : decode cX1_changeAskedFor 41 = .ok (.iastore, 1) := by decide +kernel
theorem dX1_changeAskedFor_42 : decode cX1_changeAskedFor 42 = .ok (.iinc 2 1, 3) := by decide +kernel
theorem dX1_changeAskedFor_45 : decode cX1_changeAskedFor 45 = .ok (.goto (-43), 3) := by decide +kernel
theorem dX1_changeAskedFor_48 : decode cX1_changeAskedFor 48 = .ok (.return_, 1) := by decide +kernel
theorem dX1_ask_0 : decode cX1_ask 0 = .ok (.aload_n 0, 1) := by decide +kernel
theorem dX1_ask_1 : decode cX1_ask 1 = .ok (.getfield 35, 3) := by decide +kernel
theorem dX1_ask_4 : decode cX1_ask 4 = .ok (.bipush 10, 2) := by decide +kernel
theorem dX1_ask_6 : decode cX1_ask 6 = .ok (.if_icmp .lt 10, 3) := by decide +kernel
theorem dX1_ask_9 : decode cX1_ask 9 = .ok (.aload_n 0, 1) := by decide +kernel
theorem dX1_ask_10 : decode cX1_ask 10 = .ok (.iconst 0, 1) := by decide +kernel
theorem dX1_ask_11 : decode cX1_ask 11 = .ok (.putfield 28, 3) := by decide +kernel
theorem dX1_ask_14 : decode cX1_ask 14 = .ok (.iconst 0, 1) := by decide +kernel
theorem dX1_ask_15 : decode cX1_ask 15 = .ok (.ireturn, 1) := by decide +kernel
theorem dX1_ask_16 : decode cX1_ask 16 = .ok (.aload_n 0, 1) := by decide +kernel
theorem dX1_ask_17 : decode cX1_ask 17 = .ok (.dup, 1) := by decide +kernel
theorem dX1_ask_18 : decode cX1_ask 18 = .ok (.getfield 35, 3) := by decide +kernel
theorem dX1_ask_21 : decode cX1_ask 21 = .ok (.iconst 1, 1) := by decide +kernel
theorem dX1_ask_22 : decode cX1_ask 22 = .ok (.iadd, 1) := by decide +kernel
theorem dX1_ask_23 : decode cX1_ask 23 = .ok (.putfield 35, 3) := by decide +kernel
theorem dX1_ask_26 : decode cX1_ask 26 = .ok (.aload_n 0, 1) := by decide +kernel
theorem dX1_ask_27 : decode cX1_ask 27 = .ok (.dup, 1) := by decide +kernel
theorem dX1_ask_28 : decode cX1_ask 28 = .ok (.getfield 38, 3) := by decide +kernel
theorem dX1_ask_31 : decode cX1_ask 31 = .ok (.iconst 1, 1) := by decide +kernel
theorem dX1_ask_32 : decode cX1_ask 32 = .ok (.iadd, 1) := by decide +kernel
theorem dX1_ask_33 : decode cX1_ask 33 = .ok (.putfield 38, 3) := by decide +kernel
theorem dX1_ask_36 : decode cX1_ask 36 = .ok (.aload_n 0, 1) := by decide +kernel
theorem dX1_ask_37 : decode cX1_ask 37 = .ok (.iconst 3, 1) := by decide +kernel
theorem dX1_ask_38 : decode cX1_ask 38 = .ok (.putfield 32, 3) := by decide +kernel
theorem dX1_ask_41 : decode cX1_ask 41 = .ok (.aload_n 0, 1) := by decide +kernel
theorem dX1_ask_42 : decode cX1_ask 42 = .ok (.getfield 24, 3) := by decide +kernel
theorem dX1_ask_45 : decode cX1_ask 45 = .ok (.new 71, 3) := by decide +kernel
theorem dX1_ask_48 : decode cX1_ask 48 = .ok (.dup, 1) := by decide +kernel
theorem dX1_ask_49 : decode cX1_ask 49 = .ok (.iconst 0, 1) := by decide +kernel
theorem dX1_ask_50 : decode cX1_ask 50 = .ok (.aload_n 0, 1) := by decide +kernel
theorem dX1_ask_51 : decode cX1_ask 51 = .ok (.getfield 38, 3) := by decide +kernel
theorem dX1_ask_54 : decode cX1_ask 54 = .ok (.aload_n 0, 1) := by decide +kernel
theorem dX1_ask_55 : decode cX1_ask 55 = .ok (.getfield 48, 3) := by decide +kernel
theorem dX1_ask_58 : decode cX1_ask 58 = .ok (.aload_n 0, 1) := by decide +kernel
theorem dX1_ask_59 : decode cX1_ask 59 = .ok (.getfield 18, 3) := by decide +kernel
theorem dX1_ask_62 : decode cX1_ask 62 = .ok (.bipush 6, 2) := by decide +kernel
theorem dX1_ask_64 : decode cX1_ask 64 = .ok (.invokestatic 95, 3) := by decide +kernel
theorem dX1_ask_67 : decode cX1_ask 67 = .ok (.invokespecial 99, 3) := by decide +kernel
theorem dX1_ask_70 : decode cX1_ask 70 = .ok (.invokevirtual 102, 3) := by decide +kernel
theorem dX1_ask_73 : decode cX1_ask 73 = .ok (.iconst 1, 1) := by decide +kernel
theorem dX1_ask_74 : decode cX1_ask 74 = .ok (.ireturn, 1) := by decide +kernel
theorem dX1_sendStop_0 : decode cX1_sendStop 0 = .ok (.aload_n 0, 1) := by decide +kernel
theorem dX1_sendStop_1 : decode cX1_sendStop 1 = .ok (.getfield 24, 3) := by decide +kernel
theorem dX1_sendStop_4 : decode cX1_sendStop 4 = .ok (.new 71, 3) := by decide +kernel
theorem dX1_sendStop_7 : decode cX1_sendStop 7 = .ok (.dup, 1) := by decide +kernel
theorem dX1_sendStop_8 : decode cX1_sendStop 8 = .ok (.iconst 4, 1) := by decide +kernel
theorem dX1_sendStop_9 : decode cX1_sendStop 9 = .ok (.iconst 0, 1) := by decide +kernel
theorem dX1_sendStop_10 : decode cX1_sendStop 10 = .ok (.iconst 0, 1) := by decide +kernel
theorem dX1_sendStop_11 : decode cX1_sendStop 11 = .ok (.invokestatic 105, 3) := by decide +kernel
theorem dX1_sendStop_14 : decode cX1_sendStop 14 = .ok (.invokespecial 99, 3) := by decide +kernel
theorem dX1_sendStop_17 : decode cX1_sendStop 17 = .ok (.invokevirtual 102, 3) := by decide +kernel
theorem dX1_sendStop_20 : decode cX1_sendStop 20 = .ok (.return_, 1) := by decide +kernel
theorem dX1_answer_0 : decode cX1_answer 0 = .ok (.aload_n 0, 1) := by decide +kernel
theorem dX1_answer_1 : decode cX1_answer 1 = .ok (.aload_n 1, 1) := by decide +kernel
theorem dX1_answer_2 : decode cX1_answer 2 = .ok (.getfield 92, 3) := by decide +kernel
theorem dX1_answer_5 : decode cX1_answer 5 = .ok (.invokevirtual 109, 3) := by decide +kernel
theorem dX1_answer_8 : decode cX1_answer 8 = .ok (.istore_n 2, 1) := by decide +kernel
theorem dX1_answer_9 : decode cX1_answer 9 = .ok (.aload_n 0, 1) := by decide +kernel
theorem dX1_answer_10 : decode cX1_answer 10 = .ok (.getfield 24, 3) := by decide +kernel
theorem dX1_answer_13 : decode cX1_answer 13 = .ok (.new 71, 3) := by decide +kernel
theorem dX1_answer_16 : decode cX1_answer 16 = .ok (.dup, 1) := by decide +kernel
theorem dX1_answer_17 : decode cX1_answer 17 = .ok (.iload_n 2, 1) := by decide +kernel
theorem dX1_answer_18 : decode cX1_answer 18 = .ok (.aload_n 1, 1) := by decide +kernel
theorem dX1_answer_19 : decode cX1_answer 19 = .ok (.getfield 86, 3) := by decide +kernel
theorem dX1_answer_22 : decode cX1_answer 22 = .ok (.iconst 0, 1) := by decide +kernel
theorem dX1_answer_23 : decode cX1_answer 23 = .ok (.aload_n 0, 1) := by decide +kernel
theorem dX1_answer_24 : decode cX1_answer 24 = .ok (.iload_n 2, 1) := by decide +kernel
theorem dX1_answer_25 : decode cX1_answer 25 = .ok (.aload_n 1, 1) := by decide +kernel
theorem dX1_answer_26 : decode cX1_answer 26 = .ok (.getfield 92, 3) := by decide +kernel
theorem dX1_answer_29 : decode cX1_answer 29 = .ok (.invokevirtual 113, 3) := by decide +kernel
theorem dX1_answer_32 : decode cX1_answer 32 = .ok (.invokespecial 99, 3) := by decide +kernel
theorem dX1_answer_35 : decode cX1_answer 35 = .ok (.invokevirtual 102, 3) := by decide +kernel
theorem dX1_answer_38 : decode cX1_answer 38 = .ok (.iload_n 2, 1) := by decide +kernel
theorem dX1_answer_39 : decode cX1_answer 39 = .ok (.iconst 1, 1) := by decide +kernel
theorem dX1_answer_40 : decode cX1_answer 40 = .ok (.if_icmp .eq 26, 3) := by decide +kernel
theorem dX1_answer_43 : decode cX1_answer 43 = .ok (.aload_n 0, 1) := by decide +kernel
theorem dX1_answer_44 : decode cX1_answer 44 = .ok (.aload_n 0, 1) := by decide +kernel
theorem dX1_answer_45 : decode cX1_answer 45 = .ok (.getfield 28, 3) := by decide +kernel
theorem dX1_answer_48 : decode cX1_answer 48 = .ok (.iconst 3, 1) := by decide +kernel
theorem dX1_answer_49 : decode cX1_answer 49 = .ok (.if_icmp .ne 7, 3) := by decide +kernel
theorem dX1_answer_52 : decode cX1_answer 52 = .ok (.iconst 1, 1) := by decide +kernel
theorem dX1_answer_53 : decode cX1_answer 53 = .ok (.goto 7, 3) := by decide +kernel
theorem dX1_answer_56 : decode cX1_answer 56 = .ok (.aload_n 0, 1) := by decide +kernel
theorem dX1_answer_57 : decode cX1_answer 57 = .ok (.getfield 28, 3) := by decide +kernel
theorem dX1_answer_60 : decode cX1_answer 60 = .ok (.putfield 28, 3) := by decide +kernel
theorem dX1_answer_63 : decode cX1_answer 63 = .ok (.goto 32, 3) := by decide +kernel
theorem dX1_answer_66 : decode cX1_answer 66 = .ok (.aload_n 0, 1) := by decide +kernel
theorem dX1_answer_67 : decode cX1_answer 67 = .ok (.getfield 28, 3) := by decide +kernel
theorem dX1_answer_70 : decode cX1_answer 70 = .ok (.iconst 1, 1) := by decide +kernel
theorem dX1_answer_71 : decode cX1_answer 71 = .ok (.if_icmp .ne 11, 3) := by decide +kernel
theorem dX1_answer_74 : decode cX1_answer 74 = .ok (.aload_n 0, 1) := by decide +kernel
theorem dX1_answer_75 : decode cX1_answer 75 = .ok (.iconst 3, 1) := by decide +kernel
theorem dX1_answer_76 : decode cX1_answer 76 = .ok (.putfield 28, 3) := by decide +kernel
theorem dX1_answer_79 : decode cX1_answer 79 = .ok (.goto 16, 3) := by decide +kernel
theorem dX1_answer_82 : decode cX1_answer 82 = .ok (.aload_n 0, 1) := by decide +kernel
theorem dX1_answer_83 : decode cX1_answer 83 = .ok (.getfield 28, 3) := by decide +kernel
theorem dX1_answer_86 : decode cX1_answer 86 = .ok (.iconst 2, 1) := by decide +kernel
theorem dX1_answer_87 : decode cX1_answer 87 = .ok (.if_icmp .ne 8, 3) := by decide +kernel
theorem dX1_answer_90 : decode cX1_answer 90 = .ok (.aload_n 0, 1) := by decide +kernel
theorem dX1_answer_91 : decode cX1_answer 91 = .ok (.iconst 4, 1) := by decide +kernel
theorem dX1_answer_92 : decode cX1_answer 92 = .ok (.putfield 28, 3) := by decide +kernel
theorem dX1_answer_95 : decode cX1_answer 95 = .ok (.return_, 1) := by decide +kernel
theorem dX1_kindOfAnswer_0 : decode cX1_kindOfAnswer 0 = .ok (.iconst 1, 1) := by decide +kernel
theorem dX1_kindOfAnswer_1 : decode cX1_kindOfAnswer 1 = .ok (.istore_n 2, 1) := by decide +kernel
theorem dX1_kindOfAnswer_2 : decode cX1_kindOfAnswer 2 = .ok (.iconst 0, 1) := by decide +kernel
theorem dX1_kindOfAnswer_3 : decode cX1_kindOfAnswer 3 = .ok (.istore_n 3, 1) := by decide +kernel
theorem dX1_kindOfAnswer_4 : decode cX1_kindOfAnswer 4 = .ok (.iload_n 3, 1) := by decide +kernel
theorem dX1_kindOfAnswer_5 : decode cX1_kindOfAnswer 5 = .ok (.bipush 6, 2) := by decide +kernel
theorem dX1_kindOfAnswer_7 : decode cX1_kindOfAnswer 7 = .ok (.if_icmp .ge 35, 3) := by decide +kernel
theorem dX1_kindOfAnswer_10 : decode cX1_kindOfAnswer 10 = .ok (.aload_n 0, 1) := by decide +kernel
theorem dX1_kindOfAnswer_11 : decode cX1_kindOfAnswer 11 = .ok (.iload_n 3, 1) := by decide +kernel
theorem dX1_kindOfAnswer_12 : decode cX1_kindOfAnswer 12 = .ok (.aload_n 1, 1) := by decide +kernel
theorem dX1_kindOfAnswer_13 : decode cX1_kindOfAnswer 13 = .ok (.iload_n 3, 1) := by decide +kernel
theorem dX1_kindOfAnswer_14 : decode cX1_kindOfAnswer 14 = .ok (.iaload, 1) := by decide +kernel
theorem dX1_kindOfAnswer_15 : decode cX1_kindOfAnswer 15 = .ok (.invokevirtual 117, 3) := by decide +kernel
theorem dX1_kindOfAnswer_18 : decode cX1_kindOfAnswer 18 = .ok (.ifCond .eq 5, 3) := by decide +kernel
theorem dX1_kindOfAnswer_21 : decode cX1_kindOfAnswer 21 = .ok (.iconst 3, 1) := by decide +kernel
theorem dX1_kindOfAnswer_22 : decode cX1_kindOfAnswer 22 = .ok (.ireturn, 1) := by decide +kernel
theorem dX1_kindOfAnswer_23 : decode cX1_kindOfAnswer 23 = .ok (.aload_n 0, 1) := by decide +kernel
theorem dX1_kindOfAnswer_24 : decode cX1_kindOfAnswer 24 = .ok (.iload_n 3, 1) := by decide +kernel
theorem dX1_kindOfAnswer_25 : decode cX1_kindOfAnswer 25 = .ok (.aload_n 1, 1) := by decide +kernel
theorem dX1_kindOfAnswer_26 : decode cX1_kindOfAnswer 26 = .ok (.iload_n 3, 1) := by decide +kernel
theorem dX1_kindOfAnswer_27 : decode cX1_kindOfAnswer 27 = .ok (.iaload, 1) := by decide +kernel
theorem dX1_kindOfAnswer_28 : decode cX1_kindOfAnswer 28 = .ok (.invokevirtual 121, 3) := by decide +kernel
theorem dX1_kindOfAnswer_31 : decode cX1_kindOfAnswer 31 = .ok (.ifCond .eq 5, 3) := by decide +kernel
theorem dX1_kindOfAnswer_34 : decode cX1_kindOfAnswer 34 = .ok (.iconst 2, 1) := by decide +kernel
theorem dX1_kindOfAnswer_35 : decode cX1_kindOfAnswer 35 = .ok (.istore_n 2, 1) := by decide +kernel
theorem dX1_kindOfAnswer_36 : decode cX1_kindOfAnswer 36 = .ok (.iinc 3 1, 3) := by decide +kernel
theorem dX1_kindOfAnswer_39 : decode cX1_kindOfAnswer 39 = .ok (.goto (-35), 3) := by decide +kernel
theorem dX1_kindOfAnswer_42 : decode cX1_kindOfAnswer 42 = .ok (.iload_n 2, 1) := by decide +kernel
theorem dX1_kindOfAnswer_43 : decode cX1_kindOfAnswer 43 = .ok (.ireturn, 1) := by decide +kernel
theorem dX1_toldOptions_0 : decode cX1_toldOptions 0 = .ok (.invokestatic 105, 3) := by decide +kernel
theorem dX1_toldOptions_3 : decode cX1_toldOptions 3 = .ok (.astore_n 3, 1) := by decide +kernel
theorem dX1_toldOptions_4 : decode cX1_toldOptions 4 = .ok (.iconst 0, 1) := by decide +kernel
theorem dX1_toldOptions_5 : decode cX1_toldOptions 5 = .ok (.istore 4, 2) := by decide +kernel
theorem dX1_toldOptions_7 : decode cX1_toldOptions 7 = .ok (.iload 4, 2) := by decide +kernel
theorem dX1_toldOptions_9 : decode cX1_toldOptions 9 = .ok (.bipush 6, 2) := by decide +kernel
theorem dX1_toldOptions_11 : decode cX1_toldOptions 11 = .ok (.if_icmp .ge 63, 3) := by decide +kernel
theorem dX1_toldOptions_14 : decode cX1_toldOptions 14 = .ok (.iload_n 1, 1) := by decide +kernel
theorem dX1_toldOptions_15 : decode cX1_toldOptions 15 = .ok (.iconst 3, 1) := by decide +kernel
theorem dX1_toldOptions_16 : decode cX1_toldOptions 16 = .ok (.if_icmp .ne 24, 3) := by decide +kernel
theorem dX1_toldOptions_19 : decode cX1_toldOptions 19 = .ok (.aload_n 0, 1) := by decide +kernel
theorem dX1_toldOptions_20 : decode cX1_toldOptions 20 = .ok (.iload 4, 2) := by decide +kernel
theorem dX1_toldOptions_22 : decode cX1_toldOptions 22 = .ok (.aload_n 2, 1) := by decide +kernel
theorem dX1_toldOptions_23 : decode cX1_toldOptions 23 = .ok (.iload 4, 2) := by decide +kernel
theorem dX1_toldOptions_25 : decode cX1_toldOptions 25 = .ok (.iaload, 1) := by decide +kernel
theorem dX1_toldOptions_26 : decode cX1_toldOptions 26 = .ok (.invokevirtual 117, 3) := by decide +kernel
theorem dX1_toldOptions_29 : decode cX1_toldOptions 29 = .ok (.ifCond .eq 11, 3) := by decide +kernel
theorem dX1_toldOptions_32 : decode cX1_toldOptions 32 = .ok (.aload_n 3, 1) := by decide +kernel
theorem dX1_toldOptions_33 : decode cX1_toldOptions 33 = .ok (.iload 4, 2) := by decide +kernel
theorem dX1_toldOptions_35 : decode cX1_toldOptions 35 = .ok (.aload_n 2, 1) := by decide +kernel
theorem dX1_toldOptions_36 : decode cX1_toldOptions 36 = .ok (.iload 4, 2) := by decide +kernel
theorem dX1_toldOptions_38 : decode cX1_toldOptions 38 = .ok (.iaload, 1) := by decide +kernel
theorem dX1_toldOptions_39 : decode cX1_toldOptions 39 = .ok (.iastore, 1) := by decide +kernel
theorem dX1_toldOptions_40 : decode cX1_toldOptions 40 = .ok (.iload_n 1, 1) := by decide +kernel
theorem dX1_toldOptions_41 : decode cX1_toldOptions 41 = .ok (.iconst 2, 1) := by decide +kernel
theorem dX1_toldOptions_42 : decode cX1_toldOptions 42 = .ok (.if_icmp .ne 26, 3) := by decide +kernel
theorem dX1_toldOptions_45 : decode cX1_toldOptions 45 = .ok (.aload_n 0, 1) := by decide +kernel
theorem dX1_toldOptions_46 : decode cX1_toldOptions 46 = .ok (.iload 4, 2) := by decide +kernel
theorem dX1_toldOptions_48 : decode cX1_toldOptions 48 = .ok (.aload_n 2, 1) := by decide +kernel
theorem dX1_toldOptions_49 : decode cX1_toldOptions 49 = .ok (.iload 4, 2) := by decide +kernel
theorem dX1_toldOptions_51 : decode cX1_toldOptions 51 = .ok (.iaload, 1) := by decide +kernel
theorem dX1_toldOptions_52 : decode cX1_toldOptions 52 = .ok (.invokevirtual 121, 3) := by decide +kernel
theorem dX1_toldOptions_55 : decode cX1_toldOptions 55 = .ok (.ifCond .eq 13, 3) := by decide +kernel
theorem dX1_toldOptions_58 : decode cX1_toldOptions 58 = .ok (.aload_n 3, 1) := by decide +kernel
theorem dX1_toldOptions_59 : decode cX1_toldOptions 59 = .ok (.iload 4, 2) := by decide +kernel
theorem dX1_toldOptions_61 : decode cX1_toldOptions 61 = .ok (.aload_n 0, 1) := by decide +kernel
theorem dX1_toldOptions_62 : decode cX1_toldOptions 62 = .ok (.iload 4, 2) := by decide +kernel
theorem dX1_toldOptions_64 : decode cX1_toldOptions 64 = .ok (.invokevirtual 124, 3) := by decide +kernel
theorem dX1_toldOptions_67 : decode cX1_toldOptions 67 = .ok (.iastore, 1) := by decide +kernel
theorem dX1_toldOptions_68 : decode cX1_toldOptions 68 = .ok (.iinc 4 1, 3) := by decide +kernel
theorem dX1_toldOptions_71 : decode cX1_toldOptions 71 = .ok (.goto (-64), 3) := by decide +kernel
theorem dX1_toldOptions_74 : decode cX1_toldOptions 74 = .ok (.aload_n 3, 1) := by decide +kernel
theorem dX1_toldOptions_75 : decode cX1_toldOptions 75 = .ok (.areturn, 1) := by decide +kernel
theorem dX1_isUnknown_0 : decode cX1_isUnknown 0 = .ok (.iload_n 2, 1) := by decide +kernel
theorem dX1_isUnknown_1 : decode cX1_isUnknown 1 = .ok (.iconst (-1), 1) := by decide +kernel
theorem dX1_isUnknown_2 : decode cX1_isUnknown 2 = .ok (.if_icmp .eq 16, 3) := by decide +kernel
theorem dX1_isUnknown_5 : decode cX1_isUnknown 5 = .ok (.aload_n 0, 1) := by decide +kernel
theorem dX1_isUnknown_6 : decode cX1_isUnknown 6 = .ok (.getfield 15, 3) := by decide +kernel
theorem dX1_isUnknown_9 : decode cX1_isUnknown 9 = .ok (.iload_n 1, 1) := by decide +kernel
theorem dX1_isUnknown_10 : decode cX1_isUnknown 10 = .ok (.iaload, 1) := by decide +kernel
theorem dX1_isUnknown_11 : decode cX1_isUnknown 11 = .ok (.ifCond .ne 7, 3) := by decide +kernel
theorem dX1_isUnknown_14 : decode cX1_isUnknown 14 = .ok (.iconst 1, 1) := by decide +kernel
theorem dX1_isUnknown_15 : decode cX1_isUnknown 15 = .ok (.goto 4, 3) := by decide +kernel
theorem dX1_isUnknown_18 : decode cX1_isUnknown 18 = .ok (.iconst 0, 1) := by decide +kernel
theorem dX1_isUnknown_19 : decode cX1_isUnknown 19 = .ok (.ireturn, 1) := by decide +kernel
theorem dX1_isRefused_0 : decode cX1_isRefused 0 = .ok (.iload_n 2, 1) := by decide +kernel
theorem dX1_isRefused_1 : decode cX1_isRefused 1 = .ok (.iconst (-1), 1) := by decide +kernel
theorem dX1_isRefused_2 : decode cX1_isRefused 2 = .ok (.if_icmp .eq 16, 3) := by decide +kernel
theorem dX1_isRefused_5 : decode cX1_isRefused 5 = .ok (.aload_n 0, 1) := by decide +kernel
theorem dX1_isRefused_6 : decode cX1_isRefused 6 = .ok (.iload_n 1, 1) := by decide +kernel
theorem dX1_isRefused_7 : decode cX1_isRefused 7 = .ok (.iload_n 2, 1) := by decide +kernel
theorem dX1_isRefused_8 : decode cX1_isRefused 8 = .ok (.invokevirtual 128, 3) := by decide +kernel
theorem dX1_isRefused_11 : decode cX1_isRefused 11 = .ok (.ifCond .ne 7, 3) := by decide +kernel
theorem dX1_isRefused_14 : decode cX1_isRefused 14 = .ok (.iconst 1, 1) := by decide +kernel
theorem dX1_isRefused_15 : decode cX1_isRefused 15 = .ok (.goto 4, 3) := by decide +kernel
theorem dX1_isRefused_18 : decode cX1_isRefused 18 = .ok (.iconst 0, 1) := by decide +kernel
theorem dX1_isRefused_19 : decode cX1_isRefused 19 = .ok (.ireturn, 1) := by decide +kernel
theorem dX1_allows_0 : decode cX1_allows 0 = .ok (.aload_n 0, 1) := by decide +kernel
theorem dX1_allows_1 : decode cX1_allows 1 = .ok (.getfield 15, 3) := by decide +kernel
theorem dX1_allows_4 : decode cX1_allows 4 = .ok (.iload_n 1, 1) := by decide +kernel
theorem dX1_allows_5 : decode cX1_allows 5 = .ok (.iaload, 1) := by decide +kernel
theorem dX1_allows_6 : decode cX1_allows 6 = .ok (.iload_n 2, 1) := by decide +kernel
theorem dX1_allows_7 : decode cX1_allows 7 = .ok (.ishr, 1) := by decide +kernel
theorem dX1_allows_8 : decode cX1_allows 8 = .ok (.iconst 1, 1) := by decide +kernel
theorem dX1_allows_9 : decode cX1_allows 9 = .ok (.iand, 1) := by decide +kernel
theorem dX1_allows_10 : decode cX1_allows 10 = .ok (.iconst 1, 1) := by decide +kernel
theorem dX1_allows_11 : decode cX1_allows 11 = .ok (.if_icmp .ne 7, 3) := by decide +kernel
theorem dX1_allows_14 : decode cX1_allows 14 = .ok (.iconst 1, 1) := by decide +kernel
theorem dX1_allows_15 : decode cX1_allows 15 = .ok (.goto 4, 3) := by decide +kernel
theorem dX1_allows_18 : decode cX1_allows 18 = .ok (.iconst 0, 1) := by decide +kernel
theorem dX1_allows_19 : decode cX1_allows 19 = .ok (.ireturn, 1) := by decide +kernel
theorem dX1_lowestAllowed_0 : decode cX1_lowestAllowed 0 = .ok (.iconst 0, 1) := by decide +kernel
theorem dX1_lowestAllowed_1 : decode cX1_lowestAllowed 1 = .ok (.istore_n 2, 1) := by decide +kernel
theorem dX1_lowestAllowed_2 : decode cX1_lowestAllowed 2 = .ok (.iload_n 2, 1) := by decide +kernel
theorem dX1_lowestAllowed_3 : decode cX1_lowestAllowed 3 = .ok (.bipush 9, 2) := by decide +kernel
theorem dX1_lowestAllowed_5 : decode cX1_lowestAllowed 5 = .ok (.if_icmp .gt 20, 3) := by decide +kernel
theorem dX1_lowestAllowed_8 : decode cX1_lowestAllowed 8 = .ok (.aload_n 0, 1) := by decide +kernel
theorem dX1_lowestAllowed_9 : decode cX1_lowestAllowed 9 = .ok (.iload_n 1, 1) := by decide +kernel
theorem dX1_lowestAllowed_10 : decode cX1_lowestAllowed 10 = .ok (.iload_n 2, 1) := by decide +kernel
theorem dX1_lowestAllowed_11 : decode cX1_lowestAllowed 11 = .ok (.invokevirtual 128, 3) := by decide +kernel
theorem dX1_lowestAllowed_14 : decode cX1_lowestAllowed 14 = .ok (.ifCond .eq 5, 3) := by decide +kernel
theorem dX1_lowestAllowed_17 : decode cX1_lowestAllowed 17 = .ok (.iload_n 2, 1) := by decide +kernel
theorem dX1_lowestAllowed_18 : decode cX1_lowestAllowed 18 = .ok (.ireturn, 1) := by decide +kernel
theorem dX1_lowestAllowed_19 : decode cX1_lowestAllowed 19 = .ok (.iinc 2 1, 3) := by decide +kernel
theorem dX1_lowestAllowed_22 : decode cX1_lowestAllowed 22 = .ok (.goto (-20), 3) := by decide +kernel
theorem dX1_lowestAllowed_25 : decode cX1_lowestAllowed 25 = .ok (.iconst (-1), 1) := by decide +kernel
theorem dX1_lowestAllowed_26 : decode cX1_lowestAllowed 26 = .ok (.ireturn, 1) := by decide +kernel
theorem dX1_tellNothing_0 : decode cX1_tellNothing 0 = .ok (.bipush 6, 2) := by decide +kernel
theorem dX1_tellNothing_2 : decode cX1_tellNothing 2 = .ok (.newarray .int, 2) := by decide +kernel
theorem dX1_tellNothing_4 : decode cX1_tellNothing 4 = .ok (.astore_n 0, 1) := by decide +kernel
theorem dX1_tellNothing_5 : decode cX1_tellNothing 5 = .ok (.aload_n 0, 1) := by decide +kernel
theorem dX1_tellNothing_6 : decode cX1_tellNothing 6 = .ok (.iconst (-1), 1) := by decide +kernel
theorem dX1_tellNothing_7 : decode cX1_tellNothing 7 = .ok (.invokestatic 51, 3) := by decide +kernel
theorem dX1_tellNothing_10 : decode cX1_tellNothing 10 = .ok (.aload_n 0, 1) := by decide +kernel
theorem dX1_tellNothing_11 : decode cX1_tellNothing 11 = .ok (.areturn, 1) := by decide +kernel
theorem dX2_init_0 : decode cX2_init 0 = .ok (.aload_n 0, 1) := by decide +kernel
theorem dX2_init_1 : decode cX2_init 1 = .ok (.invokespecial 1, 3) := by decide +kernel
theorem dX2_init_4 : decode cX2_init 4 = .ok (.aload_n 0, 1) := by decide +kernel
theorem dX2_init_5 : decode cX2_init 5 = .ok (.iload_n 1, 1) := by decide +kernel
theorem dX2_init_6 : decode cX2_init 6 = .ok (.putfield 7, 3) := by decide +kernel
theorem dX2_init_9 : decode cX2_init 9 = .ok (.aload_n 0, 1) := by decide +kernel
theorem dX2_init_10 : decode cX2_init 10 = .ok (.iload_n 2, 1) := by decide +kernel
theorem dX2_init_11 : decode cX2_init 11 = .ok (.putfield 13, 3) := by decide +kernel
theorem dX2_init_14 : decode cX2_init 14 = .ok (.aload_n 0, 1) := by decide +kernel
theorem dX2_init_15 : decode cX2_init 15 = .ok (.iload_n 3, 1) := by decide +kernel
theorem dX2_init_16 : decode cX2_init 16 = .ok (.putfield 16, 3) := by decide +kernel
theorem dX2_init_19 : decode cX2_init 19 = .ok (.aload_n 0, 1) := by decide +kernel
theorem dX2_init_20 : decode cX2_init 20 = .ok (.aload 4, 2) := by decide +kernel
theorem dX2_init_22 : decode cX2_init 22 = .ok (.putfield 19, 3) := by decide +kernel
theorem dX2_init_25 : decode cX2_init 25 = .ok (.return_, 1) := by decide +kernel
theorem dX3_init_0 : decode cX3_init 0 = .ok (.aload_n 0, 1) := by decide +kernel
theorem dX3_init_1 : decode cX3_init 1 = .ok (.invokespecial 3, 3) := by decide +kernel
theorem dX3_init_4 : decode cX3_init 4 = .ok (.return_, 1) := by decide +kernel
theorem dX3_put_0 : decode cX3_put 0 = .ok (.aload_n 0, 1) := by decide +kernel
theorem dX3_put_1 : decode cX3_put 1 = .ok (.getfield 9, 3) := by decide +kernel
theorem dX3_put_4 : decode cX3_put 4 = .ok (.sipush 4096, 3) := by decide +kernel
theorem dX3_put_7 : decode cX3_put 7 = .ok (.if_icmp .lt 4, 3) := by decide +kernel
theorem dX3_put_10 : decode cX3_put 10 = .ok (.return_, 1) := by decide +kernel
theorem dX3_put_11 : decode cX3_put 11 = .ok (.aload_n 0, 1) := by decide +kernel
theorem dX3_put_12 : decode cX3_put 12 = .ok (.getfield 15, 3) := by decide +kernel
theorem dX3_put_15 : decode cX3_put 15 = .ok (.ifnonnull 11, 3) := by decide +kernel
theorem dX3_put_18 : decode cX3_put 18 = .ok (.aload_n 0, 1) := by decide +kernel
theorem dX3_put_19 : decode cX3_put 19 = .ok (.aload_n 1, 1) := by decide +kernel
theorem dX3_put_20 : decode cX3_put 20 = .ok (.putfield 19, 3) := by decide +kernel
theorem dX3_put_23 : decode cX3_put 23 = .ok (.goto 11, 3) := by decide +kernel
theorem dX3_put_26 : decode cX3_put 26 = .ok (.aload_n 0, 1) := by decide +kernel
theorem dX3_put_27 : decode cX3_put 27 = .ok (.getfield 15, 3) := by decide +kernel
theorem dX3_put_30 : decode cX3_put 30 = .ok (.aload_n 1, 1) := by decide +kernel
theorem dX3_put_31 : decode cX3_put 31 = .ok (.putfield 22, 3) := by decide +kernel
theorem dX3_put_34 : decode cX3_put 34 = .ok (.aload_n 0, 1) := by decide +kernel
theorem dX3_put_35 : decode cX3_put 35 = .ok (.aload_n 1, 1) := by decide +kernel
theorem dX3_put_36 : decode cX3_put 36 = .ok (.putfield 15, 3) := by decide +kernel
theorem dX3_put_39 : decode cX3_put 39 = .ok (.aload_n 0, 1) := by decide +kernel
theorem dX3_put_40 : decode cX3_put 40 = .ok (.dup, 1) := by decide +kernel
theorem dX3_put_41 : decode cX3_put 41 = .ok (.getfield 9, 3) := by decide +kernel
theorem dX3_put_44 : decode cX3_put 44 = .ok (.iconst 1, 1) := by decide +kernel
theorem dX3_put_45 : decode cX3_put 45 = .ok (.iadd, 1) := by decide +kernel
theorem dX3_put_46 : decode cX3_put 46 = .ok (.putfield 9, 3) := by decide +kernel
theorem dX3_put_49 : decode cX3_put 49 = .ok (.return_, 1) := by decide +kernel
theorem dX3_takeFirst_0 : decode cX3_takeFirst 0 = .ok (.aload_n 0, 1) := by decide +kernel
theorem dX3_takeFirst_1 : decode cX3_takeFirst 1 = .ok (.getfield 19, 3) := by decide +kernel
theorem dX3_takeFirst_4 : decode cX3_takeFirst 4 = .ok (.astore_n 1, 1) := by decide +kernel
theorem dX3_takeFirst_5 : decode cX3_takeFirst 5 = .ok (.aload_n 1, 1) := by decide +kernel
theorem dX3_takeFirst_6 : decode cX3_takeFirst 6 = .ok (.ifnonnull 5, 3) := by decide +kernel
theorem dX3_takeFirst_9 : decode cX3_takeFirst 9 = .ok (.aconst_null, 1) := by decide +kernel
theorem dX3_takeFirst_10 : decode cX3_takeFirst 10 = .ok (.areturn, 1) := by decide +kernel
theorem dX3_takeFirst_11 : decode cX3_takeFirst 11 = .ok (.aload_n 0, 1) := by decide +kernel
theorem dX3_takeFirst_12 : decode cX3_takeFirst 12 = .ok (.aload_n 1, 1) := by decide +kernel
theorem dX3_takeFirst_13 : decode cX3_takeFirst 13 = .ok (.getfield 22, 3) := by decide +kernel
theorem dX3_takeFirst_16 : decode cX3_takeFirst 16 = .ok (.putfield 19, 3) := by decide +kernel
theorem dX3_takeFirst_19 : decode cX3_takeFirst 19 = .ok (.aload_n 0, 1) := by decide +kernel
theorem dX3_takeFirst_20 : decode cX3_takeFirst 20 = .ok (.getfield 19, 3) := by decide +kernel
theorem dX3_takeFirst_23 : decode cX3_takeFirst 23 = .ok (.ifnonnull 8, 3) := by decide +kernel
theorem dX3_takeFirst_26 : decode cX3_takeFirst 26 = .ok (.aload_n 0, 1) := by decide +kernel
theorem dX3_takeFirst_27 : decode cX3_takeFirst 27 = .ok (.aconst_null, 1) := by decide +kernel
theorem dX3_takeFirst_28 : decode cX3_takeFirst 28 = .ok (.putfield 15, 3) := by decide +kernel
theorem dX3_takeFirst_31 : decode cX3_takeFirst 31 = .ok (.aload_n 0, 1) := by decide +kernel
theorem dX3_takeFirst_32 : decode cX3_takeFirst 32 = .ok (.dup, 1) := by decide +kernel
theorem dX3_takeFirst_33 : decode cX3_takeFirst 33 = .ok (.getfield 9, 3) := by decide +kernel
theorem dX3_takeFirst_36 : decode cX3_takeFirst 36 = .ok (.iconst 1, 1) := by decide +kernel
theorem dX3_takeFirst_37 : decode cX3_takeFirst 37 = .ok (.isub, 1) := by decide +kernel
theorem dX3_takeFirst_38 : decode cX3_takeFirst 38 = .ok (.putfield 9, 3) := by decide +kernel
theorem dX3_takeFirst_41 : decode cX3_takeFirst 41 = .ok (.aload_n 1, 1) := by decide +kernel
theorem dX3_takeFirst_42 : decode cX3_takeFirst 42 = .ok (.areturn, 1) := by decide +kernel
theorem dX4_init_0 : decode cX4_init 0 = .ok (.aload_n 0, 1) := by decide +kernel
theorem dX4_init_1 : decode cX4_init 1 = .ok (.invokespecial 1, 3) := by decide +kernel
theorem dX4_init_4 : decode cX4_init 4 = .ok (.aload_n 0, 1) := by decide +kernel
theorem dX4_init_5 : decode cX4_init 5 = .ok (.new 7, 3) := by decide +kernel
theorem dX4_init_8 : decode cX4_init 8 = .ok (.dup, 1) := by decide +kernel
theorem dX4_init_9 : decode cX4_init 9 = .ok (.iconst 1, 1) := by decide +kernel
theorem dX4_init_10 : decode cX4_init 10 = .ok (.invokespecial 9, 3) := by decide +kernel
theorem dX4_init_13 : decode cX4_init 13 = .ok (.putfield 12, 3) := by decide +kernel
theorem dX4_init_16 : decode cX4_init 16 = .ok (.aload_n 0, 1) := by decide +kernel
theorem dX4_init_17 : decode cX4_init 17 = .ok (.new 7, 3) := by decide +kernel
theorem dX4_init_20 : decode cX4_init 20 = .ok (.dup, 1) := by decide +kernel
theorem dX4_init_21 : decode cX4_init 21 = .ok (.iconst 2, 1) := by decide +kernel
theorem dX4_init_22 : decode cX4_init 22 = .ok (.invokespecial 9, 3) := by decide +kernel
theorem dX4_init_25 : decode cX4_init 25 = .ok (.putfield 18, 3) := by decide +kernel
theorem dX4_init_28 : decode cX4_init 28 = .ok (.aload_n 0, 1) := by decide +kernel
theorem dX4_init_29 : decode cX4_init 29 = .ok (.new 21, 3) := by decide +kernel
theorem dX4_init_32 : decode cX4_init 32 = .ok (.dup, 1) := by decide +kernel
theorem dX4_init_33 : decode cX4_init 33 = .ok (.invokespecial 23, 3) := by decide +kernel
theorem dX4_init_36 : decode cX4_init 36 = .ok (.putfield 24, 3) := by decide +kernel
theorem dX4_init_39 : decode cX4_init 39 = .ok (.return_, 1) := by decide +kernel
theorem dX4_wish_0 : decode cX4_wish 0 = .ok (.aload_n 0, 1) := by decide +kernel
theorem dX4_wish_1 : decode cX4_wish 1 = .ok (.iload_n 1, 1) := by decide +kernel
theorem dX4_wish_2 : decode cX4_wish 2 = .ok (.invokevirtual 28, 3) := by decide +kernel
theorem dX4_wish_5 : decode cX4_wish 5 = .ok (.astore 4, 2) := by decide +kernel
theorem dX4_wish_7 : decode cX4_wish 7 = .ok (.iload_n 2, 1) := by decide +kernel
theorem dX4_wish_8 : decode cX4_wish 8 = .ok (.invokestatic 32, 3) := by decide +kernel
theorem dX4_wish_11 : decode cX4_wish 11 = .ok (.iload_n 3, 1) := by decide +kernel
theorem dX4_wish_12 : decode cX4_wish 12 = .ok (.iconst (-1), 1) := by decide +kernel
theorem dX4_wish_13 : decode cX4_wish 13 = .ok (.if_icmp .lt 9, 3) := by decide +kernel
theorem dX4_wish_16 : decode cX4_wish 16 = .ok (.iload_n 3, 1) := by decide +kernel
theorem dX4_wish_17 : decode cX4_wish 17 = .ok (.bipush 9, 2) := by decide +kernel
theorem dX4_wish_19 : decode cX4_wish 19 = .ok (.if_icmp .le 13, 3) := by decide +kernel
theorem dX4_wish_22 : decode cX4_wish 22 = .ok (.new 35, 3) := by decide +kernel
theorem dX4_wish_25 : decode cX4_wish 25 = .ok (.dup, 1) := by decide +kernel
theorem dX4_wish_26 : decode cX4_wish 26 = .ok (.ldc 37, 2) := by decide +kernel
theorem dX4_wish_28 : decode cX4_wish 28 = .ok (.invokespecial 39, 3) := by decide +kernel
theorem dX4_wish_31 : decode cX4_wish 31 = .ok (.athrow, 1) := by decide +kernel
theorem dX4_wish_32 : decode cX4_wish 32 = .ok (.aload 4, 2) := by decide +kernel
theorem dX4_wish_34 : decode cX4_wish 34 = .ok (.iload_n 2, 1) := by decide +kernel
theorem dX4_wish_35 : decode cX4_wish 35 = .ok (.iload_n 3, 1) := by decide +kernel
theorem dX4_wish_36 : decode cX4_wish 36 = .ok (.invokevirtual 42, 3) := by decide +kernel
theorem dX4_wish_39 : decode cX4_wish 39 = .ok (.ireturn, 1) := by decide +kernel
theorem dX4_allow_0 : decode cX4_allow 0 = .ok (.aload_n 0, 1) := by decide +kernel
theorem dX4_allow_1 : decode cX4_allow 1 = .ok (.iload_n 1, 1) := by decide +kernel
theorem dX4_allow_2 : decode cX4_allow 2 = .ok (.invokevirtual 28, 3) := by decide +kernel
theorem dX4_allow_5 : decode cX4_allow 5 = .ok (.astore 4, 2) := by decide +kernel
theorem dX4_allow_7 : decode cX4_allow 7 = .ok (.iload_n 2, 1) := by decide +kernel
theorem dX4_allow_8 : decode cX4_allow 8 = .ok (.invokestatic 32, 3) := by decide +kernel
theorem dX4_allow_11 : decode cX4_allow 11 = .ok (.iload_n 3, 1) := by decide +kernel
theorem dX4_allow_12 : decode cX4_allow 12 = .ok (.ifCond .lt 10, 3) := by decide +kernel
theorem dX4_allow_15 : decode cX4_allow 15 = .ok (.iload_n 3, 1) := by decide +kernel
theorem dX4_allow_16 : decode cX4_allow 16 = .ok (.sipush 1023, 3) := by decide +kernel
theorem dX4_allow_19 : decode cX4_allow 19 = .ok (.if_icmp .le 13, 3) := by decide +kernel
theorem dX4_allow_22 : decode cX4_allow 22 = .ok (.new 35, 3) := by decide +kernel
theorem dX4_allow_25 : decode cX4_allow 25 = .ok (.dup, 1) := by decide +kernel
theorem dX4_allow_26 : decode cX4_allow 26 = .ok (.ldc 46, 2) := by decide +kernel
theorem dX4_allow_28 : decode cX4_allow 28 = .ok (.invokespecial 39, 3) := by decide +kernel
theorem dX4_allow_31 : decode cX4_allow 31 = .ok (.athrow, 1) := by decide +kernel
theorem dX4_allow_32 : decode cX4_allow 32 = .ok (.aload 4, 2) := by decide +kernel
theorem dX4_allow_34 : decode cX4_allow 34 = .ok (.iload_n 2, 1) := by decide +kernel
theorem dX4_allow_35 : decode cX4_allow 35 = .ok (.iload_n 3, 1) := by decide +kernel
theorem dX4_allow_36 : decode cX4_allow 36 = .ok (.invokevirtual 48, 3) := by decide +kernel
theorem dX4_allow_39 : decode cX4_allow 39 = .ok (.ireturn, 1) := by decide +kernel
theorem dX4_setMagic_0 : decode cX4_setMagic 0 = .ok (.aload_n 0, 1) := by decide +kernel
theorem dX4_setMagic_1 : decode cX4_setMagic 1 = .ok (.iload_n 1, 1) := by decide +kernel
theorem dX4_setMagic_2 : decode cX4_setMagic 2 = .ok (.invokevirtual 28, 3) := by decide +kernel
theorem dX4_setMagic_5 : decode cX4_setMagic 5 = .ok (.iload_n 2, 1) := by decide +kernel
theorem dX4_setMagic_6 : decode cX4_setMagic 6 = .ok (.invokevirtual 51, 3) := by decide +kernel
theorem dX4_setMagic_9 : decode cX4_setMagic 9 = .ok (.ireturn, 1) := by decide +kernel
theorem dX4_open_0 : decode cX4_open 0 = .ok (.aload_n 0, 1) := by decide +kernel
theorem dX4_open_1 : decode cX4_open 1 = .ok (.iload_n 1, 1) := by decide +kernel
theorem dX4_open_2 : decode cX4_open 2 = .ok (.invokevirtual 28, 3) := by decide +kernel
theorem dX4_open_5 : decode cX4_open 5 = .ok (.astore_n 2, 1) := by decide +kernel
theorem dX4_open_6 : decode cX4_open 6 = .ok (.aload_n 2, 1) := by decide +kernel
theorem dX4_open_7 : decode cX4_open 7 = .ok (.getfield 55, 3) := by decide +kernel
theorem dX4_open_10 : decode cX4_open 10 = .ok (.ifCond .eq 13, 3) := by decide +kernel
theorem dX4_open_13 : decode cX4_open 13 = .ok (.new 59, 3) := by decide +kernel
theorem dX4_open_16 : decode cX4_open 16 = .ok (.dup, 1) := by decide +kernel
theorem dX4_open_17 : decode cX4_open 17 = .ok (.ldc 61, 2) := by decide +kernel
theorem dX4_open_19 : decode cX4_open 19 = .ok (.invokespecial 63, 3) := by decide +kernel
theorem dX4_open_22 : decode cX4_open 22 = .ok (.athrow, 1) := by decide +kernel
theorem dX4_open_23 : decode cX4_open 23 = .ok (.aload_n 2, 1) := by decide +kernel
theorem dX4_open_24 : decode cX4_open 24 = .ok (.invokevirtual 64, 3) := by decide +kernel
theorem dX4_open_27 : decode cX4_open 27 = .ok (.ireturn, 1) := by decide +kernel
theorem dX4_close_0 : decode cX4_close 0 = .ok (.aload_n 0, 1) := by decide +kernel
theorem dX4_close_1 : decode cX4_close 1 = .ok (.iload_n 1, 1) := by decide +kernel
theorem dX4_close_2 : decode cX4_close 2 = .ok (.invokevirtual 28, 3) := by decide +kernel
theorem dX4_close_5 : decode cX4_close 5 = .ok (.astore_n 2, 1) := by decide +kernel
theorem dX4_close_6 : decode cX4_close 6 = .ok (.aload_n 2, 1) := by decide +kernel
theorem dX4_close_7 : decode cX4_close 7 = .ok (.getfield 55, 3) := by decide +kernel
theorem dX4_close_10 : decode cX4_close 10 = .ok (.ifCond .ne 13, 3) := by decide +kernel
theorem dX4_close_13 : decode cX4_close 13 = .ok (.new 59, 3) := by decide +kernel
theorem dX4_close_16 : decode cX4_close 16 = .ok (.dup, 1) := by decide +kernel
theorem dX4_close_17 : decode cX4_close 17 = .ok (.ldc 68, 2) := by decide +kernel
theorem dX4_close_19 : decode cX4_close 19 = .ok (.invokespecial 63, 3) := by decide +kernel
theorem dX4_close_22 : decode cX4_close 22 = .ok (.athrow, 1) := by decide +kernel
theorem dX4_close_23 : decode cX4_close 23 = .ok (.aload_n 2, 1) := by decide +kernel
theorem dX4_close_24 : decode cX4_close 24 = .ok (.invokevirtual 70, 3) := by decide +kernel
theorem dX4_close_27 : decode cX4_close 27 = .ok (.ireturn, 1) := by decide +kernel
theorem dX4_deliver_0 : decode cX4_deliver 0 = .ok (.aload_n 0, 1) := by decide +kernel
theorem dX4_deliver_1 : decode cX4_deliver 1 = .ok (.iload_n 1, 1) := by decide +kernel
theorem dX4_deliver_2 : decode cX4_deliver 2 = .ok (.invokevirtual 28, 3) := by decide +kernel
theorem dX4_deliver_5 : decode cX4_deliver 5 = .ok (.invokestatic 73, 3) := by decide +kernel
theorem dX4_deliver_8 : decode cX4_deliver 8 = .ok (.astore_n 2, 1) := by decide +kernel
theorem dX4_deliver_9 : decode cX4_deliver 9 = .ok (.aload_n 0, 1) := by decide +kernel
theorem dX4_deliver_10 : decode cX4_deliver 10 = .ok (.iconst 1, 1) := by decide +kernel
theorem dX4_deliver_11 : decode cX4_deliver 11 = .ok (.iload_n 1, 1) := by decide +kernel
theorem dX4_deliver_12 : decode cX4_deliver 12 = .ok (.isub, 1) := by decide +kernel
theorem dX4_deliver_13 : decode cX4_deliver 13 = .ok (.invokevirtual 28, 3) := by decide +kernel
theorem dX4_deliver_16 : decode cX4_deliver 16 = .ok (.aload_n 2, 1) := by decide +kernel
theorem dX4_deliver_17 : decode cX4_deliver 17 = .ok (.invokevirtual 77, 3) := by decide +kernel
theorem dX4_deliver_20 : decode cX4_deliver 20 = .ok (.aload_n 2, 1) := by decide +kernel
theorem dX4_deliver_21 : decode cX4_deliver 21 = .ok (.getfield 81, 3) := by decide +kernel
theorem dX4_deliver_24 : decode cX4_deliver 24 = .ok (.ireturn, 1) := by decide +kernel
theorem dX4_lose_0 : decode cX4_lose 0 = .ok (.aload_n 0, 1) := by decide +kernel
theorem dX4_lose_1 : decode cX4_lose 1 = .ok (.iload_n 1, 1) := by decide +kernel
theorem dX4_lose_2 : decode cX4_lose 2 = .ok (.invokevirtual 28, 3) := by decide +kernel
theorem dX4_lose_5 : decode cX4_lose 5 = .ok (.astore_n 2, 1) := by decide +kernel
theorem dX4_lose_6 : decode cX4_lose 6 = .ok (.aload_n 2, 1) := by decide +kernel
theorem dX4_lose_7 : decode cX4_lose 7 = .ok (.invokestatic 73, 3) := by decide +kernel
theorem dX4_lose_10 : decode cX4_lose 10 = .ok (.astore_n 3, 1) := by decide +kernel
theorem dX4_lose_11 : decode cX4_lose 11 = .ok (.aload_n 2, 1) := by decide +kernel
theorem dX4_lose_12 : decode cX4_lose 12 = .ok (.dup, 1) := by decide +kernel
theorem dX4_lose_13 : decode cX4_lose 13 = .ok (.getfield 86, 3) := by decide +kernel
theorem dX4_lose_16 : decode cX4_lose 16 = .ok (.iconst 1, 1) := by decide +kernel
theorem dX4_lose_17 : decode cX4_lose 17 = .ok (.iadd, 1) := by decide +kernel
theorem dX4_lose_18 : decode cX4_lose 18 = .ok (.putfield 86, 3) := by decide +kernel
theorem dX4_lose_21 : decode cX4_lose 21 = .ok (.aload_n 3, 1) := by decide +kernel
theorem dX4_lose_22 : decode cX4_lose 22 = .ok (.getfield 81, 3) := by decide +kernel
theorem dX4_lose_25 : decode cX4_lose 25 = .ok (.ireturn, 1) := by decide +kernel
theorem dX4_loop_0 : decode cX4_loop 0 = .ok (.aload_n 0, 1) := by decide +kernel
theorem dX4_loop_1 : decode cX4_loop 1 = .ok (.iload_n 1, 1) := by decide +kernel
theorem dX4_loop_2 : decode cX4_loop 2 = .ok (.invokevirtual 28, 3) := by decide +kernel
theorem dX4_loop_5 : decode cX4_loop 5 = .ok (.astore_n 2, 1) := by decide +kernel
theorem dX4_loop_6 : decode cX4_loop 6 = .ok (.aload_n 2, 1) := by decide +kernel
theorem dX4_loop_7 : decode cX4_loop 7 = .ok (.invokestatic 73, 3) := by decide +kernel
theorem dX4_loop_10 : decode cX4_loop 10 = .ok (.astore_n 3, 1) := by decide +kernel
theorem dX4_loop_11 : decode cX4_loop 11 = .ok (.aload_n 2, 1) := by decide +kernel
theorem dX4_loop_12 : decode cX4_loop 12 = .ok (.dup, 1) := by decide +kernel
theorem dX4_loop_13 : decode cX4_loop 13 = .ok (.getfield 86, 3) := by decide +kernel
theorem dX4_loop_16 : decode cX4_loop 16 = .ok (.iconst 1, 1) := by decide +kernel
theorem dX4_loop_17 : decode cX4_loop 17 = .ok (.iadd, 1) := by decide +kernel
theorem dX4_loop_18 : decode cX4_loop 18 = .ok (.putfield 86, 3) := by decide +kernel
theorem dX4_loop_21 : decode cX4_loop 21 = .ok (.aload_n 2, 1) := by decide +kernel
theorem dX4_loop_22 : decode cX4_loop 22 = .ok (.aload_n 3, 1) := by decide +kernel
theorem dX4_loop_23 : decode cX4_loop 23 = .ok (.invokevirtual 77, 3) := by decide +kernel
theorem dX4_loop_26 : decode cX4_loop 26 = .ok (.aload_n 3, 1) := by decide +kernel
theorem dX4_loop_27 : decode cX4_loop 27 = .ok (.getfield 81, 3) := by decide +kernel
theorem dX4_loop_30 : decode cX4_loop 30 = .ok (.ireturn, 1) := by decide +kernel
theorem dX4_pass_0 : decode cX4_pass 0 = .ok (.iload_n 1, 1) := by decide +kernel
theorem dX4_pass_1 : decode cX4_pass 1 = .ok (.iconst 1, 1) := by decide +kernel
theorem dX4_pass_2 : decode cX4_pass 2 = .ok (.if_icmp .lt 9, 3) := by decide +kernel
theorem dX4_pass_5 : decode cX4_pass 5 = .ok (.iload_n 1, 1) := by decide +kernel
theorem dX4_pass_6 : decode cX4_pass 6 = .ok (.bipush 50, 2) := by decide +kernel
theorem dX4_pass_8 : decode cX4_pass 8 = .ok (.if_icmp .le 13, 3) := by decide +kernel
theorem dX4_pass_11 : decode cX4_pass 11 = .ok (.new 35, 3) := by decide +kernel
theorem dX4_pass_14 : decode cX4_pass 14 = .ok (.dup, 1) := by decide +kernel
theorem dX4_pass_15 : decode cX4_pass 15 = .ok (.ldc 89, 2) := by decide +kernel
theorem dX4_pass_17 : decode cX4_pass 17 = .ok (.invokespecial 39, 3) := by decide +kernel
theorem dX4_pass_20 : decode cX4_pass 20 = .ok (.athrow, 1) := by decide +kernel
theorem dX4_pass_21 : decode cX4_pass 21 = .ok (.iconst 0, 1) := by decide +kernel
theorem dX4_pass_22 : decode cX4_pass 22 = .ok (.istore_n 2, 1) := by decide +kernel
theorem dX4_pass_23 : decode cX4_pass 23 = .ok (.iconst 0, 1) := by decide +kernel
theorem dX4_pass_24 : decode cX4_pass 24 = .ok (.istore_n 3, 1) := by decide +kernel
theorem dX4_pass_25 : decode cX4_pass 25 = .ok (.iload_n 3, 1) := by decide +kernel
theorem dX4_pass_26 : decode cX4_pass 26 = .ok (.iload_n 1, 1) := by decide +kernel
theorem dX4_pass_27 : decode cX4_pass 27 = .ok (.if_icmp .ge 45, 3) := by decide +kernel
theorem dX4_pass_30 : decode cX4_pass 30 = .ok (.iload_n 2, 1) := by decide +kernel
theorem dX4_pass_31 : decode cX4_pass 31 = .ok (.aload_n 0, 1) := by decide +kernel
theorem dX4_pass_32 : decode cX4_pass 32 = .ok (.getfield 12, 3) := by decide +kernel
theorem dX4_pass_35 : decode cX4_pass 35 = .ok (.invokevirtual 91, 3) := by decide +kernel
theorem dX4_pass_38 : decode cX4_pass 38 = .ok (.ifCond .eq 7, 3) := by decide +kernel
theorem dX4_pass_41 : decode cX4_pass 41 = .ok (.iconst 1, 1) := by decide +kernel
theorem dX4_pass_42 : decode cX4_pass 42 = .ok (.goto 4, 3) := by decide +kernel
theorem dX4_pass_45 : decode cX4_pass 45 = .ok (.iconst 0, 1) := by decide +kernel
theorem dX4_pass_46 : decode cX4_pass 46 = .ok (.iadd, 1) := by decide +kernel
theorem dX4_pass_47 : decode cX4_pass 47 = .ok (.istore_n 2, 1) := by decide +kernel
theorem dX4_pass_48 : decode cX4_pass 48 = .ok (.iload_n 2, 1) := by decide +kernel
theorem dX4_pass_49 : decode cX4_pass 49 = .ok (.aload_n 0, 1) := by decide +kernel
theorem dX4_pass_50 : decode cX4_pass 50 = .ok (.getfield 18, 3) := by decide +kernel
theorem dX4_pass_53 : decode cX4_pass 53 = .ok (.invokevirtual 91, 3) := by decide +kernel
theorem dX4_pass_56 : decode cX4_pass 56 = .ok (.ifCond .eq 7, 3) := by decide +kernel
theorem dX4_pass_59 : decode cX4_pass 59 = .ok (.iconst 1, 1) := by decide +kernel
theorem dX4_pass_60 : decode cX4_pass 60 = .ok (.goto 4, 3) := by decide +kernel
theorem dX4_pass_63 : decode cX4_pass 63 = .ok (.iconst 0, 1) := by decide +kernel
theorem dX4_pass_64 : decode cX4_pass 64 = .ok (.iadd, 1) := by decide +kernel
theorem dX4_pass_65 : decode cX4_pass 65 = .ok (.istore_n 2, 1) := by decide +kernel
theorem dX4_pass_66 : decode cX4_pass 66 = .ok (.iinc 3 1, 3) := by decide +kernel
theorem dX4_pass_69 : decode cX4_pass 69 = .ok (.goto (-44), 3) := by decide +kernel
theorem dX4_pass_72 : decode cX4_pass 72 = .ok (.iload_n 2, 1) := by decide +kernel
theorem dX4_pass_73 : decode cX4_pass 73 = .ok (.ireturn, 1) := by decide +kernel
theorem dX4_stateOf_0 : decode cX4_stateOf 0 = .ok (.aload_n 0, 1) := by decide +kernel
theorem dX4_stateOf_1 : decode cX4_stateOf 1 = .ok (.iload_n 1, 1) := by decide +kernel
theorem dX4_stateOf_2 : decode cX4_stateOf 2 = .ok (.invokevirtual 28, 3) := by decide +kernel
theorem dX4_stateOf_5 : decode cX4_stateOf 5 = .ok (.getfield 55, 3) := by decide +kernel
theorem dX4_stateOf_8 : decode cX4_stateOf 8 = .ok (.ireturn, 1) := by decide +kernel
theorem dX4_asked_0 : decode cX4_asked 0 = .ok (.aload_n 0, 1) := by decide +kernel
theorem dX4_asked_1 : decode cX4_asked 1 = .ok (.iload_n 1, 1) := by decide +kernel
theorem dX4_asked_2 : decode cX4_asked 2 = .ok (.invokevirtual 28, 3) := by decide +kernel
theorem dX4_asked_5 : decode cX4_asked 5 = .ok (.astore_n 3, 1) := by decide +kernel
theorem dX4_asked_6 : decode cX4_asked 6 = .ok (.iload_n 2, 1) := by decide +kernel
theorem dX4_asked_7 : decode cX4_asked 7 = .ok (.invokestatic 32, 3) := by decide +kernel
theorem dX4_asked_10 : decode cX4_asked 10 = .ok (.aload_n 3, 1) := by decide +kernel
theorem dX4_asked_11 : decode cX4_asked 11 = .ok (.getfield 95, 3) := by decide +kernel
theorem dX4_asked_14 : decode cX4_asked 14 = .ok (.iload_n 2, 1) := by decide +kernel
theorem dX4_asked_15 : decode cX4_asked 15 = .ok (.iaload, 1) := by decide +kernel
theorem dX4_asked_16 : decode cX4_asked 16 = .ok (.ireturn, 1) := by decide +kernel
theorem dX4_requests_0 : decode cX4_requests 0 = .ok (.aload_n 0, 1) := by decide +kernel
theorem dX4_requests_1 : decode cX4_requests 1 = .ok (.iload_n 1, 1) := by decide +kernel
theorem dX4_requests_2 : decode cX4_requests 2 = .ok (.invokevirtual 28, 3) := by decide +kernel
theorem dX4_requests_5 : decode cX4_requests 5 = .ok (.getfield 99, 3) := by decide +kernel
theorem dX4_requests_8 : decode cX4_requests 8 = .ok (.ireturn, 1) := by decide +kernel
theorem dX4_isLooped_0 : decode cX4_isLooped 0 = .ok (.aload_n 0, 1) := by decide +kernel
theorem dX4_isLooped_1 : decode cX4_isLooped 1 = .ok (.iload_n 1, 1) := by decide +kernel
theorem dX4_isLooped_2 : decode cX4_isLooped 2 = .ok (.invokevirtual 28, 3) := by decide +kernel
theorem dX4_isLooped_5 : decode cX4_isLooped 5 = .ok (.getfield 102, 3) := by decide +kernel
theorem dX4_isLooped_8 : decode cX4_isLooped 8 = .ok (.ireturn, 1) := by decide +kernel
theorem dX4_underWay_0 : decode cX4_underWay 0 = .ok (.aload_n 0, 1) := by decide +kernel
theorem dX4_underWay_1 : decode cX4_underWay 1 = .ok (.iload_n 1, 1) := by decide +kernel
theorem dX4_underWay_2 : decode cX4_underWay 2 = .ok (.invokevirtual 28, 3) := by decide +kernel
theorem dX4_underWay_5 : decode cX4_underWay 5 = .ok (.getfield 106, 3) := by decide +kernel
theorem dX4_underWay_8 : decode cX4_underWay 8 = .ok (.getfield 110, 3) := by decide +kernel
theorem dX4_underWay_11 : decode cX4_underWay 11 = .ok (.ireturn, 1) := by decide +kernel
theorem dX4_missed_0 : decode cX4_missed 0 = .ok (.aload_n 0, 1) := by decide +kernel
theorem dX4_missed_1 : decode cX4_missed 1 = .ok (.iload_n 1, 1) := by decide +kernel
theorem dX4_missed_2 : decode cX4_missed 2 = .ok (.invokevirtual 28, 3) := by decide +kernel
theorem dX4_missed_5 : decode cX4_missed 5 = .ok (.getfield 86, 3) := by decide +kernel
theorem dX4_missed_8 : decode cX4_missed 8 = .ok (.ireturn, 1) := by decide +kernel
theorem dX4_send_0 : decode cX4_send 0 = .ok (.iload_n 1, 1) := by decide +kernel
theorem dX4_send_1 : decode cX4_send 1 = .ok (.iconst 1, 1) := by decide +kernel
theorem dX4_send_2 : decode cX4_send 2 = .ok (.if_icmp .lt 8, 3) := by decide +kernel
theorem dX4_send_5 : decode cX4_send 5 = .ok (.iload_n 1, 1) := by decide +kernel
theorem dX4_send_6 : decode cX4_send 6 = .ok (.iconst 4, 1) := by decide +kernel
theorem dX4_send_7 : decode cX4_send 7 = .ok (.if_icmp .le 13, 3) := by decide +kernel
theorem dX4_send_10 : decode cX4_send 10 = .ok (.new 35, 3) := by decide +kernel
theorem dX4_send_13 : decode cX4_send 13 = .ok (.dup, 1) := by decide +kernel
theorem dX4_send_14 : decode cX4_send 14 = .ok (.ldc 115, 2) := by decide +kernel
theorem dX4_send_16 : decode cX4_send 16 = .ok (.invokespecial 39, 3) := by decide +kernel
theorem dX4_send_19 : decode cX4_send 19 = .ok (.athrow, 1) := by decide +kernel
theorem dX4_send_20 : decode cX4_send 20 = .ok (.aload_n 0, 1) := by decide +kernel
theorem dX4_send_21 : decode cX4_send 21 = .ok (.getfield 24, 3) := by decide +kernel
theorem dX4_send_24 : decode cX4_send 24 = .ok (.getfield 117, 3) := by decide +kernel
theorem dX4_send_27 : decode cX4_send 27 = .ok (.bipush 60, 2) := by decide +kernel
theorem dX4_send_29 : decode cX4_send 29 = .ok (.if_icmp .lt 13, 3) := by decide +kernel
theorem dX4_send_32 : decode cX4_send 32 = .ok (.new 59, 3) := by decide +kernel
theorem dX4_send_35 : decode cX4_send 35 = .ok (.dup, 1) := by decide +kernel
theorem dX4_send_36 : decode cX4_send 36 = .ok (.ldc 120, 2) := by decide +kernel
theorem dX4_send_38 : decode cX4_send 38 = .ok (.invokespecial 63, 3) := by decide +kernel
theorem dX4_send_41 : decode cX4_send 41 = .ok (.athrow, 1) := by decide +kernel
theorem dX4_send_42 : decode cX4_send 42 = .ok (.aload_n 0, 1) := by decide +kernel
theorem dX4_send_43 : decode cX4_send 43 = .ok (.getfield 24, 3) := by decide +kernel
theorem dX4_send_46 : decode cX4_send 46 = .ok (.iload_n 1, 1) := by decide +kernel
theorem dX4_send_47 : decode cX4_send 47 = .ok (.invokevirtual 122, 3) := by decide +kernel
theorem dX4_send_50 : decode cX4_send 50 = .ok (.ireturn, 1) := by decide +kernel
theorem dX4_come_0 : decode cX4_come 0 = .ok (.aload_n 0, 1) := by decide +kernel
theorem dX4_come_1 : decode cX4_come 1 = .ok (.iload_n 1, 1) := by decide +kernel
theorem dX4_come_2 : decode cX4_come 2 = .ok (.invokevirtual 125, 3) := by decide +kernel
theorem dX4_come_5 : decode cX4_come 5 = .ok (.aload_n 0, 1) := by decide +kernel
theorem dX4_come_6 : decode cX4_come 6 = .ok (.getfield 24, 3) := by decide +kernel
theorem dX4_come_9 : decode cX4_come 9 = .ok (.iload_n 1, 1) := by decide +kernel
theorem dX4_come_10 : decode cX4_come 10 = .ok (.invokevirtual 128, 3) := by decide +kernel
theorem dX4_come_13 : decode cX4_come 13 = .ok (.ireturn, 1) := by decide +kernel
theorem dX4_drop_0 : decode cX4_drop 0 = .ok (.aload_n 0, 1) := by decide +kernel
theorem dX4_drop_1 : decode cX4_drop 1 = .ok (.iload_n 1, 1) := by decide +kernel
theorem dX4_drop_2 : decode cX4_drop 2 = .ok (.invokevirtual 125, 3) := by decide +kernel
theorem dX4_drop_5 : decode cX4_drop 5 = .ok (.aload_n 0, 1) := by decide +kernel
theorem dX4_drop_6 : decode cX4_drop 6 = .ok (.getfield 24, 3) := by decide +kernel
theorem dX4_drop_9 : decode cX4_drop 9 = .ok (.iload_n 1, 1) := by decide +kernel
theorem dX4_drop_10 : decode cX4_drop 10 = .ok (.invokevirtual 131, 3) := by decide +kernel
theorem dX4_drop_13 : decode cX4_drop 13 = .ok (.ireturn, 1) := by decide +kernel
theorem dX4_given_0 : decode cX4_given 0 = .ok (.aload_n 0, 1) := by decide +kernel
theorem dX4_given_1 : decode cX4_given 1 = .ok (.getfield 24, 3) := by decide +kernel
theorem dX4_given_4 : decode cX4_given 4 = .ok (.getfield 134, 3) := by decide +kernel
theorem dX4_given_7 : decode cX4_given 7 = .ok (.ireturn, 1) := by decide +kernel
theorem dX4_givenAt_0 : decode cX4_givenAt 0 = .ok (.iload_n 1, 1) := by decide +kernel
theorem dX4_givenAt_1 : decode cX4_givenAt 1 = .ok (.ifCond .lt 14, 3) := by decide +kernel
theorem dX4_givenAt_4 : decode cX4_givenAt 4 = .ok (.iload_n 1, 1) := by decide +kernel
theorem dX4_givenAt_5 : decode cX4_givenAt 5 = .ok (.aload_n 0, 1) := by decide +kernel
theorem dX4_givenAt_6 : decode cX4_givenAt 6 = .ok (.getfield 24, 3) := by decide +kernel
theorem dX4_givenAt_9 : decode cX4_givenAt 9 = .ok (.getfield 134, 3) := by decide +kernel
theorem dX4_givenAt_12 : decode cX4_givenAt 12 = .ok (.if_icmp .lt 13, 3) := by decide +kernel
theorem dX4_givenAt_15 : decode cX4_givenAt 15 = .ok (.new 137, 3) := by decide +kernel
theorem dX4_givenAt_18 : decode cX4_givenAt 18 = .ok (.dup, 1) := by decide +kernel
theorem dX4_givenAt_19 : decode cX4_givenAt 19 = .ok (.ldc 139, 2) := by decide +kernel
theorem dX4_givenAt_21 : decode cX4_givenAt 21 = .ok (.invokespecial 141, 3) := by decide +kernel
theorem dX4_givenAt_24 : decode cX4_givenAt 24 = .ok (.athrow, 1) := by decide +kernel
theorem dX4_givenAt_25 : decode cX4_givenAt 25 = .ok (.aload_n 0, 1) := by decide +kernel
theorem dX4_givenAt_26 : decode cX4_givenAt 26 = .ok (.getfield 24, 3) := by decide +kernel
theorem dX4_givenAt_29 : decode cX4_givenAt 29 = .ok (.getfield 142, 3) := by decide +kernel
theorem dX4_givenAt_32 : decode cX4_givenAt 32 = .ok (.iload_n 1, 1) := by decide +kernel
theorem dX4_givenAt_33 : decode cX4_givenAt 33 = .ok (.iaload, 1) := by decide +kernel
theorem dX4_givenAt_34 : decode cX4_givenAt 34 = .ok (.ireturn, 1) := by decide +kernel
theorem dX4_next_0 : decode cX4_next 0 = .ok (.aload_n 0, 1) := by decide +kernel
theorem dX4_next_1 : decode cX4_next 1 = .ok (.getfield 24, 3) := by decide +kernel
theorem dX4_next_4 : decode cX4_next 4 = .ok (.getfield 145, 3) := by decide +kernel
theorem dX4_next_7 : decode cX4_next 7 = .ok (.ireturn, 1) := by decide +kernel
theorem dX4_endAt_0 : decode cX4_endAt 0 = .ok (.iload_n 1, 1) := by decide +kernel
theorem dX4_endAt_1 : decode cX4_endAt 1 = .ok (.ifCond .ne 8, 3) := by decide +kernel
theorem dX4_endAt_4 : decode cX4_endAt 4 = .ok (.aload_n 0, 1) := by decide +kernel
theorem dX4_endAt_5 : decode cX4_endAt 5 = .ok (.getfield 12, 3) := by decide +kernel
theorem dX4_endAt_8 : decode cX4_endAt 8 = .ok (.areturn, 1) := by decide +kernel
theorem dX4_endAt_9 : decode cX4_endAt 9 = .ok (.iload_n 1, 1) := by decide +kernel
theorem dX4_endAt_10 : decode cX4_endAt 10 = .ok (.iconst 1, 1) := by decide +kernel
theorem dX4_endAt_11 : decode cX4_endAt 11 = .ok (.if_icmp .ne 8, 3) := by decide +kernel
theorem dX4_endAt_14 : decode cX4_endAt 14 = .ok (.aload_n 0, 1) := by decide +kernel
theorem dX4_endAt_15 : decode cX4_endAt 15 = .ok (.getfield 18, 3) := by decide +kernel
theorem dX4_endAt_18 : decode cX4_endAt 18 = .ok (.areturn, 1) := by decide +kernel
theorem dX4_endAt_19 : decode cX4_endAt 19 = .ok (.new 137, 3) := by decide +kernel
theorem dX4_endAt_22 : decode cX4_endAt 22 = .ok (.dup, 1) := by decide +kernel
theorem dX4_endAt_23 : decode cX4_endAt 23 = .ok (.ldc 148, 2) := by decide +kernel
theorem dX4_endAt_25 : decode cX4_endAt 25 = .ok (.invokespecial 141, 3) := by decide +kernel
theorem dX4_endAt_28 : decode cX4_endAt 28 = .ok (.athrow, 1) := by decide +kernel
theorem dX4_refuseNoOption_0 : decode cX4_refuseNoOption 0 = .ok (.iload_n 0, 1) := by decide +kernel
theorem dX4_refuseNoOption_1 : decode cX4_refuseNoOption 1 = .ok (.ifCond .lt 9, 3) := by decide +kernel
theorem dX4_refuseNoOption_4 : decode cX4_refuseNoOption 4 = .ok (.iload_n 0, 1) := by decide +kernel
theorem dX4_refuseNoOption_5 : decode cX4_refuseNoOption 5 = .ok (.bipush 6, 2) := by decide +kernel
theorem dX4_refuseNoOption_7 : decode cX4_refuseNoOption 7 = .ok (.if_icmp .lt 13, 3) := by decide +kernel
theorem dX4_refuseNoOption_10 : decode cX4_refuseNoOption 10 = .ok (.new 137, 3) := by decide +kernel
theorem dX4_refuseNoOption_13 : decode cX4_refuseNoOption 13 = .ok (.dup, 1) := by decide +kernel
theorem dX4_refuseNoOption_14 : decode cX4_refuseNoOption 14 = .ok (.ldc 150, 2) := by decide +kernel
theorem dX4_refuseNoOption_16 : decode cX4_refuseNoOption 16 = .ok (.invokespecial 141, 3) := by decide +kernel
theorem dX4_refuseNoOption_19 : decode cX4_refuseNoOption 19 = .ok (.athrow, 1) := by decide +kernel
theorem dX4_refuseNoOption_20 : decode cX4_refuseNoOption 20 = .ok (.return_, 1) := by decide +kernel
theorem dX4_takeFrame_0 : decode cX4_takeFrame 0 = .ok (.aload_n 0, 1) := by decide +kernel
theorem dX4_takeFrame_1 : decode cX4_takeFrame 1 = .ok (.getfield 106, 3) := by decide +kernel
theorem dX4_takeFrame_4 : decode cX4_takeFrame 4 = .ok (.invokevirtual 152, 3) := by decide +kernel
theorem dX4_takeFrame_7 : decode cX4_takeFrame 7 = .ok (.astore_n 1, 1) := by decide +kernel
theorem dX4_takeFrame_8 : decode cX4_takeFrame 8 = .ok (.aload_n 1, 1) := by decide +kernel
theorem dX4_takeFrame_9 : decode cX4_takeFrame 9 = .ok (.ifnonnull 13, 3) := by decide +kernel
theorem dX4_takeFrame_12 : decode cX4_takeFrame 12 = .ok (.new 59, 3) := by decide +kernel
theorem dX4_takeFrame_15 : decode cX4_takeFrame 15 = .ok (.dup, 1) := by decide +kernel
theorem dX4_takeFrame_16 : decode cX4_takeFrame 16 = .ok (.ldc 156, 2) := by decide +kernel
theorem dX4_takeFrame_18 : decode cX4_takeFrame 18 = .ok (.invokespecial 63, 3) := by decide +kernel
theorem dX4_takeFrame_21 : decode cX4_takeFrame 21 = .ok (.athrow, 1) := by decide +kernel
theorem dX4_takeFrame_22 : decode cX4_takeFrame 22 = .ok (.aload_n 1, 1) := by decide +kernel
theorem dX4_takeFrame_23 : decode cX4_takeFrame 23 = .ok (.areturn, 1) := by decide +kernel
theorem dX4_refuseEmptyLine_0 : decode cX4_refuseEmptyLine 0 = .ok (.iload_n 1, 1) := by decide +kernel
theorem dX4_refuseEmptyLine_1 : decode cX4_refuseEmptyLine 1 = .ok (.ifCond .lt 8, 3) := by decide +kernel
theorem dX4_refuseEmptyLine_4 : decode cX4_refuseEmptyLine 4 = .ok (.iload_n 1, 1) := by decide +kernel
theorem dX4_refuseEmptyLine_5 : decode cX4_refuseEmptyLine 5 = .ok (.iconst 3, 1) := by decide +kernel
theorem dX4_refuseEmptyLine_6 : decode cX4_refuseEmptyLine 6 = .ok (.if_icmp .lt 13, 3) := by decide +kernel
theorem dX4_refuseEmptyLine_9 : decode cX4_refuseEmptyLine 9 = .ok (.new 137, 3) := by decide +kernel
theorem dX4_refuseEmptyLine_12 : decode cX4_refuseEmptyLine 12 = .ok (.dup, 1) := by decide +kernel
theorem dX4_refuseEmptyLine_13 : decode cX4_refuseEmptyLine 13 = .ok (.ldc 158, 2) := by decide +kernel
theorem dX4_refuseEmptyLine_15 : decode cX4_refuseEmptyLine 15 = .ok (.invokespecial 141, 3) := by decide +kernel
theorem dX4_refuseEmptyLine_18 : decode cX4_refuseEmptyLine 18 = .ok (.athrow, 1) := by decide +kernel
theorem dX4_refuseEmptyLine_19 : decode cX4_refuseEmptyLine 19 = .ok (.aload_n 0, 1) := by decide +kernel
theorem dX4_refuseEmptyLine_20 : decode cX4_refuseEmptyLine 20 = .ok (.getfield 24, 3) := by decide +kernel
theorem dX4_refuseEmptyLine_23 : decode cX4_refuseEmptyLine 23 = .ok (.iload_n 1, 1) := by decide +kernel
theorem dX4_refuseEmptyLine_24 : decode cX4_refuseEmptyLine 24 = .ok (.invokevirtual 160, 3) := by decide +kernel
theorem dX4_refuseEmptyLine_27 : decode cX4_refuseEmptyLine 27 = .ok (.ifCond .ne 13, 3) := by decide +kernel
theorem dX4_refuseEmptyLine_30 : decode cX4_refuseEmptyLine 30 = .ok (.new 59, 3) := by decide +kernel
theorem dX4_refuseEmptyLine_33 : decode cX4_refuseEmptyLine 33 = .ok (.dup, 1) := by decide +kernel
theorem dX4_refuseEmptyLine_34 : decode cX4_refuseEmptyLine 34 = .ok (.ldc 164, 2) := by decide +kernel
theorem dX4_refuseEmptyLine_36 : decode cX4_refuseEmptyLine 36 = .ok (.invokespecial 63, 3) := by decide +kernel
theorem dX4_refuseEmptyLine_39 : decode cX4_refuseEmptyLine 39 = .ok (.athrow, 1) := by decide +kernel
theorem dX4_refuseEmptyLine_40 : decode cX4_refuseEmptyLine 40 = .ok (.return_, 1) := by decide +kernel
theorem dJ9_min_7cf53_0 : decode cJ9_min_7cf53 0 = .ok (.iload_n 0, 1) := by decide +kernel
theorem dJ9_min_7cf53_1 : decode cJ9_min_7cf53 1 = .ok (.iload_n 1, 1) := by decide +kernel
theorem dJ9_min_7cf53_2 : decode cJ9_min_7cf53 2 = .ok (.if_icmp .gt 7, 3) := by decide +kernel
theorem dJ9_min_7cf53_5 : decode cJ9_min_7cf53 5 = .ok (.iload_n 0, 1) := by decide +kernel
theorem dJ9_min_7cf53_6 : decode cJ9_min_7cf53 6 = .ok (.goto 4, 3) := by decide +kernel
theorem dJ9_min_7cf53_9 : decode cJ9_min_7cf53 9 = .ok (.iload_n 1, 1) := by decide +kernel
theorem dJ9_min_7cf53_10 : decode cJ9_min_7cf53 10 = .ok (.ireturn, 1) := by decide +kernel
theorem dJ7_fill_53178_0 : decode cJ7_fill_53178 0 = .ok (.iconst 0, 1) := by decide +kernel
theorem dJ7_fill_53178_1 : decode cJ7_fill_53178 1 = .ok (.istore_n 2, 1) := by decide +kernel
theorem dJ7_fill_53178_2 : decode cJ7_fill_53178 2 = .ok (.aload_n 0, 1) := by decide +kernel
theorem dJ7_fill_53178_3 : decode cJ7_fill_53178 3 = .ok (.arraylength, 1) := by decide +kernel
theorem dJ7_fill_53178_4 : decode cJ7_fill_53178 4 = .ok (.istore_n 3, 1) := by decide +kernel
theorem dJ7_fill_53178_5 : decode cJ7_fill_53178 5 = .ok (.iload_n 2, 1) := by decide +kernel
theorem dJ7_fill_53178_6 : decode cJ7_fill_53178 6 = .ok (.iload_n 3, 1) := by decide +kernel
theorem dJ7_fill_53178_7 : decode cJ7_fill_53178 7 = .ok (.if_icmp .ge 13, 3) := by decide +kernel
theorem dJ7_fill_53178_10 : decode cJ7_fill_53178 10 = .ok (.aload_n 0, 1) := by decide +kernel
theorem dJ7_fill_53178_11 : decode cJ7_fill_53178 11 = .ok (.iload_n 2, 1) := by decide +kernel
theorem dJ7_fill_53178_12 : decode cJ7_fill_53178 12 = .ok (.iload_n 1, 1) := by decide +kernel
theorem dJ7_fill_53178_13 : decode cJ7_fill_53178 13 = .ok (.iastore, 1) := by decide +kernel
theorem dJ7_fill_53178_14 : decode cJ7_fill_53178 14 = .ok (.iinc 2 1, 3) := by decide +kernel
theorem dJ7_fill_53178_17 : decode cJ7_fill_53178 17 = .ok (.goto (-12), 3) := by decide +kernel
theorem dJ7_fill_53178_20 : decode cJ7_fill_53178 20 = .ok (.return_, 1) := by decide +kernel
theorem dJ7_copyOf_59c91_0 : decode cJ7_copyOf_59c91 0 = .ok (.iload_n 1, 1) := by decide +kernel
theorem dJ7_copyOf_59c91_1 : decode cJ7_copyOf_59c91 1 = .ok (.aload_n 0, 1) := by decide +kernel
theorem dJ7_copyOf_59c91_2 : decode cJ7_copyOf_59c91 2 = .ok (.arraylength, 1) := by decide +kernel
theorem dJ7_copyOf_59c91_3 : decode cJ7_copyOf_59c91 3 = .ok (.if_icmp .ne 11, 3) := by decide +kernel
theorem dJ7_copyOf_59c91_6 : decode cJ7_copyOf_59c91 6 = .ok (.aload_n 0, 1) := by decide +kernel
theorem dJ7_copyOf_59c91_7 : decode cJ7_copyOf_59c91 7 = .ok (.invokevirtual 316, 3) := by decide +kernel
theorem dJ7_copyOf_59c91_10 : decode cJ7_copyOf_59c91 10 = .ok (.checkcast 317, 3) := by decide +kernel
theorem dJ7_copyOf_59c91_13 : decode cJ7_copyOf_59c91 13 = .ok (.areturn, 1) := by decide +kernel
theorem dJ7_copyOf_59c91_14 : decode cJ7_copyOf_59c91 14 = .ok (.iload_n 1, 1) := by decide +kernel
theorem dJ7_copyOf_59c91_15 : decode cJ7_copyOf_59c91 15 = .ok (.newarray .int, 2) := by decide +kernel
theorem dJ7_copyOf_59c91_17 : decode cJ7_copyOf_59c91 17 = .ok (.astore_n 2, 1) := by decide +kernel
theorem dJ7_copyOf_59c91_18 : decode cJ7_copyOf_59c91 18 = .ok (.aload_n 0, 1) := by decide +kernel
theorem dJ7_copyOf_59c91_19 : decode cJ7_copyOf_59c91 19 = .ok (.iconst 0, 1) := by decide +kernel
theorem dJ7_copyOf_59c91_20 : decode cJ7_copyOf_59c91 20 = .ok (.aload_n 2, 1) := by decide +kernel
theorem dJ7_copyOf_59c91_21 : decode cJ7_copyOf_59c91 21 = .ok (.iconst 0, 1) := by decide +kernel
theorem dJ7_copyOf_59c91_22 : decode cJ7_copyOf_59c91 22 = .ok (.aload_n 0, 1) := by decide +kernel
theorem dJ7_copyOf_59c91_23 : decode cJ7_copyOf_59c91 23 = .ok (.arraylength, 1) := by decide +kernel
theorem dJ7_copyOf_59c91_24 : decode cJ7_copyOf_59c91 24 = .ok (.iload_n 1, 1) := by decide +kernel
theorem dJ7_copyOf_59c91_25 : decode cJ7_copyOf_59c91 25 = .ok (.invokestatic 304, 3) := by decide +kernel
theorem dJ7_copyOf_59c91_28 : decode cJ7_copyOf_59c91 28 = .ok (.invokestatic 150, 3) := by decide +kernel
theorem dJ7_copyOf_59c91_31 : decode cJ7_copyOf_59c91 31 = .ok (.aload_n 2, 1) := by decide +kernel
theorem dJ7_copyOf_59c91_32 : decode cJ7_copyOf_59c91 32 = .ok (.areturn, 1) := by decide +kernel
end
section
theorem dX5_init_0 : decode cX5_init 0 = .ok (.aload_n 0, 1) := by decide +kernel
theorem dX5_init_1 : decode cX5_init 1 = .ok (.invokespecial 1, 3) := by decide +kernel
theorem dX5_init_4 : decode cX5_init 4 = .ok (.aload_n 0, 1) := by decide +kernel
theorem dX5_init_5 : decode cX5_init 5 = .ok (.bipush 12, 2) := by decide +kernel
theorem dX5_init_7 : decode cX5_init 7 = .ok (.newarray .int, 2) := by decide +kernel
theorem dX5_init_9 : decode cX5_init 9 = .ok (.dup, 1) := by decide +kernel
theorem dX5_init_10 : decode cX5_init 10 = .ok (.iconst 0, 1) := by decide +kernel
theorem dX5_init_11 : decode cX5_init 11 = .ok (.iconst (-1), 1) := by decide +kernel
theorem dX5_init_12 : decode cX5_init 12 = .ok (.iastore, 1) := by decide +kernel
theorem dX5_init_13 : decode cX5_init 13 = .ok (.dup, 1) := by decide +kernel
theorem dX5_init_14 : decode cX5_init 14 = .ok (.iconst 1, 1) := by decide +kernel
theorem dX5_init_15 : decode cX5_init 15 = .ok (.iconst (-1), 1) := by decide +kernel
theorem dX5_init_16 : decode cX5_init 16 = .ok (.iastore, 1) := by decide +kernel
theorem dX5_init_17 : decode cX5_init 17 = .ok (.dup, 1) := by decide +kernel
theorem dX5_init_18 : decode cX5_init 18 = .ok (.iconst 2, 1) := by decide +kernel
theorem dX5_init_19 : decode cX5_init 19 = .ok (.iconst (-1), 1) := by decide +kernel
theorem dX5_init_20 : decode cX5_init 20 = .ok (.iastore, 1) := by decide +kernel
theorem dX5_init_21 : decode cX5_init 21 = .ok (.dup, 1) := by decide +kernel
theorem dX5_init_22 : decode cX5_init 22 = .ok (.iconst 3, 1) := by decide +kernel
theorem dX5_init_23 : decode cX5_init 23 = .ok (.iconst (-1), 1) := by decide +kernel
theorem dX5_init_24 : decode cX5_init 24 = .ok (.iastore, 1) := by decide +kernel
theorem dX5_init_25 : decode cX5_init 25 = .ok (.dup, 1) := by decide +kernel
theorem dX5_init_26 : decode cX5_init 26 = .ok (.iconst 4, 1) := by decide +kernel
theorem dX5_init_27 : decode cX5_init 27 = .ok (.iconst (-1), 1) := by decide +kernel
theorem dX5_init_28 : decode cX5_init 28 = .ok (.iastore, 1) := by decide +kernel
theorem dX5_init_29 : decode cX5_init 29 = .ok (.dup, 1) := by decide +kernel
theorem dX5_init_30 : decode cX5_init 30 = .ok (.iconst 5, 1) := by decide +kernel
theorem dX5_init_31 : decode cX5_init 31 = .ok (.iconst (-1), 1) := by decide +kernel
theorem dX5_init_32 : decode cX5_init 32 = .ok (.iastore, 1) := by decide +kernel
theorem dX5_init_33 : decode cX5_init 33 = .ok (.dup, 1) := by decide +kernel
theorem dX5_init_34 : decode cX5_init 34 = .ok (.bipush 6, 2) := by decide +kernel
theorem dX5_init_36 : decode cX5_init 36 = .ok (.iconst (-1), 1) := by decide +kernel
theorem dX5_init_37 : decode cX5_init 37 = .ok (.iastore, 1) := by decide +kernel
theorem dX5_init_38 : decode cX5_init 38 = .ok (.dup, 1) := by decide +kernel
theorem dX5_init_39 : decode cX5_init 39 = .ok (.bipush 7, 2) := by decide +kernel
theorem dX5_init_41 : decode cX5_init 41 = .ok (.iconst (-1), 1) := by decide +kernel
theorem dX5_init_42 : decode cX5_init 42 = .ok (.iastore, 1) := by decide +kernel
theorem dX5_init_43 : decode cX5_init 43 = .ok (.dup, 1) := by decide +kernel
theorem dX5_init_44 : decode cX5_init 44 = .ok (.bipush 8, 2) := by decide +kernel
theorem dX5_init_46 : decode cX5_init 46 = .ok (.iconst (-1), 1) := by decide +kernel
theorem dX5_init_47 : decode cX5_init 47 = .ok (.iastore, 1) := by decide +kernel
theorem dX5_init_48 : decode cX5_init 48 = .ok (.dup, 1) := by decide +kernel
theorem dX5_init_49 : decode cX5_init 49 = .ok (.bipush 9, 2) := by decide +kernel
theorem dX5_init_51 : decode cX5_init 51 = .ok (.iconst (-1), 1) := by decide +kernel
theorem dX5_init_52 : decode cX5_init 52 = .ok (.iastore, 1) := by decide +kernel
theorem dX5_init_53 : decode cX5_init 53 = .ok (.dup, 1) := by decide +kernel
theorem dX5_init_54 : decode cX5_init 54 = .ok (.bipush 10, 2) := by decide +kernel
theorem dX5_init_56 : decode cX5_init 56 = .ok (.iconst (-1), 1) := by decide +kernel
theorem dX5_init_57 : decode cX5_init 57 = .ok (.iastore, 1) := by decide +kernel
theorem dX5_init_58 : decode cX5_init 58 = .ok (.dup, 1) := by decide +kernel
theorem dX5_init_59 : decode cX5_init 59 = .ok (.bipush 11, 2) := by decide +kernel
theorem dX5_init_61 : decode cX5_init 61 = .ok (.iconst (-1), 1) := by decide +kernel
theorem dX5_init_62 : decode cX5_init 62 = .ok (.iastore, 1) := by decide +kernel
theorem dX5_init_63 : decode cX5_init 63 = .ok (.putfield 9, 3) := by decide +kernel
theorem dX5_init_66 : decode cX5_init 66 = .ok (.aload_n 0, 1) := by decide +kernel
theorem dX5_init_67 : decode cX5_init 67 = .ok (.bipush 12, 2) := by decide +kernel
theorem dX5_init_69 : decode cX5_init 69 = .ok (.newarray .int, 2) := by decide +kernel
theorem dX5_init_71 : decode cX5_init 71 = .ok (.putfield 13, 3) := by decide +kernel
theorem dX5_init_74 : decode cX5_init 74 = .ok (.aload_n 0, 1) := by decide +kernel
theorem dX5_init_75 : decode cX5_init 75 = .ok (.bipush 12, 2) := by decide +kernel
theorem dX5_init_77 : decode cX5_init 77 = .ok (.newarray .int, 2) := by decide +kernel
theorem dX5_init_79 : decode cX5_init 79 = .ok (.dup, 1) := by decide +kernel
theorem dX5_init_80 : decode cX5_init 80 = .ok (.iconst 0, 1) := by decide +kernel
theorem dX5_init_81 : decode cX5_init 81 = .ok (.iconst (-1), 1) := by decide +kernel
theorem dX5_init_82 : decode cX5_init 82 = .ok (.iastore, 1) := by decide +kernel
theorem dX5_init_83 : decode cX5_init 83 = .ok (.dup, 1) := by decide +kernel
theorem dX5_init_84 : decode cX5_init 84 = .ok (.iconst 1, 1) := by decide +kernel
theorem dX5_init_85 : decode cX5_init 85 = .ok (.iconst (-1), 1) := by decide +kernel
theorem dX5_init_86 : decode cX5_init 86 = .ok (.iastore, 1) := by decide +kernel
theorem dX5_init_87 : decode cX5_init 87 = .ok (.dup, 1) := by decide +kernel
theorem dX5_init_88 : decode cX5_init 88 = .ok (.iconst 2, 1) := by decide +kernel
theorem dX5_init_89 : decode cX5_init 89 = .ok (.iconst (-1), 1) := by decide +kernel
theorem dX5_init_90 : decode cX5_init 90 = .ok (.iastore, 1) := by decide +kernel
theorem dX5_init_91 : decode cX5_init 91 = .ok (.dup, 1) := by decide +kernel
theorem dX5_init_92 : decode cX5_init 92 = .ok (.iconst 3, 1) := by decide +kernel
theorem dX5_init_93 : decode cX5_init 93 = .ok (.iconst (-1), 1) := by decide +kernel
theorem dX5_init_94 : decode cX5_init 94 = .ok (.iastore, 1) := by decide +kernel
theorem dX5_init_95 : decode cX5_init 95 = .ok (.dup, 1) := by decide +kernel
theorem dX5_init_96 : decode cX5_init 96 = .ok (.iconst 4, 1) := by decide +kernel
theorem dX5_init_97 : decode cX5_init 97 = .ok (.iconst (-1), 1) := by decide +kernel
theorem dX5_init_98 : decode cX5_init 98 = .ok (.iastore, 1) := by decide +kernel
theorem dX5_init_99 : decode cX5_init 99 = .ok (.dup, 1) := by decide +kernel
theorem dX5_init_100 : decode cX5_init 100 = .ok (.iconst 5, 1) := by decide +kernel
theorem dX5_init_101 : decode cX5_init 101 = .ok (.iconst (-1), 1) := by decide +kernel
theorem dX5_init_102 : decode cX5_init 102 = .ok (.iastore, 1) := by decide +kernel
theorem dX5_init_103 : decode cX5_init 103 = .ok (.dup, 1) := by decide +kernel
theorem dX5_init_104 : decode cX5_init 104 = .ok (.bipush 6, 2) := by decide +kernel
theorem dX5_init_106 : decode cX5_init 106 = .ok (.iconst (-1), 1) := by decide +kernel
theorem dX5_init_107 : decode cX5_init 107 = .ok (.iastore, 1) := by decide +kernel
theorem dX5_init_108 : decode cX5_init 108 = .ok (.dup, 1) := by decide +kernel
theorem dX5_init_109 : decode cX5_init 109 = .ok (.bipush 7, 2) := by decide +kernel
theorem dX5_init_111 : decode cX5_init 111 = .ok (.iconst (-1), 1) := by decide +kernel
theorem dX5_init_112 : decode cX5_init 112 = .ok (.iastore, 1) := by decide +kernel
theorem dX5_init_113 : decode cX5_init 113 = .ok (.dup, 1) := by decide +kernel
theorem dX5_init_114 : decode cX5_init 114 = .ok (.bipush 8, 2) := by decide +kernel
theorem dX5_init_116 : decode cX5_init 116 = .ok (.iconst (-1), 1) := by decide +kernel
theorem dX5_init_117 : decode cX5_init 117 = .ok (.iastore, 1) := by decide +kernel
theorem dX5_init_118 : decode cX5_init 118 = .ok (.dup, 1) := by decide +kernel
theorem dX5_init_119 : decode cX5_init 119 = .ok (.bipush 9, 2) := by decide +kernel
theorem dX5_init_121 : decode cX5_init 121 = .ok (.iconst (-1), 1) := by decide +kernel
theorem dX5_init_122 : decode cX5_init 122 = .ok (.iastore, 1) := by decide +kernel
theorem dX5_init_123 : decode cX5_init 123 = .ok (.dup, 1) := by decide +kernel
theorem dX5_init_124 : decode cX5_init 124 = .ok (.bipush 10, 2) := by decide +kernel
theorem dX5_init_126 : decode cX5_init 126 = .ok (.iconst (-1), 1) := by decide +kernel
theorem dX5_init_127 : decode cX5_init 127 = .ok (.iastore, 1) := by decide +kernel
theorem dX5_init_128 : decode cX5_init 128 = .ok (.dup, 1) := by decide +kernel
theorem dX5_init_129 : decode cX5_init 129 = .ok (.bipush 11, 2) := by decide +kernel
theorem dX5_init_131 : decode cX5_init 131 = .ok (.iconst (-1), 1) := by decide +kernel
theorem dX5_init_132 : decode cX5_init 132 = .ok (.iastore, 1) := by decide +kernel
theorem dX5_init_133 : decode cX5_init 133 = .ok (.putfield 16, 3) := by decide +kernel
theorem dX5_init_136 : decode cX5_init 136 = .ok (.aload_n 0, 1) := by decide +kernel
theorem dX5_init_137 : decode cX5_init 137 = .ok (.iconst 2, 1) := by decide +kernel
theorem dX5_init_138 : decode cX5_init 138 = .ok (.newarray .int, 2) := by decide +kernel
theorem dX5_init_140 : decode cX5_init 140 = .ok (.dup, 1) := by decide +kernel
theorem dX5_init_141 : decode cX5_init 141 = .ok (.iconst 0, 1) := by decide +kernel
theorem dX5_init_142 : decode cX5_init 142 = .ok (.iconst 1, 1) := by decide +kernel
theorem dX5_init_143 : decode cX5_init 143 = .ok (.iastore, 1) := by decide +kernel
theorem dX5_init_144 : decode cX5_init 144 = .ok (.dup, 1) := by decide +kernel
theorem dX5_init_145 : decode cX5_init 145 = .ok (.iconst 1, 1) := by decide +kernel
theorem dX5_init_146 : decode cX5_init 146 = .ok (.iconst 2, 1) := by decide +kernel
theorem dX5_init_147 : decode cX5_init 147 = .ok (.iastore, 1) := by decide +kernel
theorem dX5_init_148 : decode cX5_init 148 = .ok (.putfield 19, 3) := by decide +kernel
theorem dX5_init_151 : decode cX5_init 151 = .ok (.aload_n 0, 1) := by decide +kernel
theorem dX5_init_152 : decode cX5_init 152 = .ok (.iconst 2, 1) := by decide +kernel
theorem dX5_init_153 : decode cX5_init 153 = .ok (.newarray .int, 2) := by decide +kernel
theorem dX5_init_155 : decode cX5_init 155 = .ok (.putfield 22, 3) := by decide +kernel
theorem dX5_init_158 : decode cX5_init 158 = .ok (.aload_n 0, 1) := by decide +kernel
theorem dX5_init_159 : decode cX5_init 159 = .ok (.iconst 2, 1) := by decide +kernel
theorem dX5_init_160 : decode cX5_init 160 = .ok (.newarray .int, 2) := by decide +kernel
theorem dX5_init_162 : decode cX5_init 162 = .ok (.dup, 1) := by decide +kernel
theorem dX5_init_163 : decode cX5_init 163 = .ok (.iconst 0, 1) := by decide +kernel
theorem dX5_init_164 : decode cX5_init 164 = .ok (.iconst (-1), 1) := by decide +kernel
theorem dX5_init_165 : decode cX5_init 165 = .ok (.iastore, 1) := by decide +kernel
theorem dX5_init_166 : decode cX5_init 166 = .ok (.dup, 1) := by decide +kernel
theorem dX5_init_167 : decode cX5_init 167 = .ok (.iconst 1, 1) := by decide +kernel
theorem dX5_init_168 : decode cX5_init 168 = .ok (.iconst (-1), 1) := by decide +kernel
theorem dX5_init_169 : decode cX5_init 169 = .ok (.iastore, 1) := by decide +kernel
theorem dX5_init_170 : decode cX5_init 170 = .ok (.putfield 25, 3) := by decide +kernel
theorem dX5_init_173 : decode cX5_init 173 = .ok (.aload_n 0, 1) := by decide +kernel
theorem dX5_init_174 : decode cX5_init 174 = .ok (.iconst 2, 1) := by decide +kernel
theorem dX5_init_175 : decode cX5_init 175 = .ok (.newarray .int, 2) := by decide +kernel
theorem dX5_init_177 : decode cX5_init 177 = .ok (.putfield 28, 3) := by decide +kernel
theorem dX5_init_180 : decode cX5_init 180 = .ok (.aload_n 0, 1) := by decide +kernel
theorem dX5_init_181 : decode cX5_init 181 = .ok (.iconst 2, 1) := by decide +kernel
theorem dX5_init_182 : decode cX5_init 182 = .ok (.newarray .int, 2) := by decide +kernel
theorem dX5_init_184 : decode cX5_init 184 = .ok (.putfield 31, 3) := by decide +kernel
theorem dX5_init_187 : decode cX5_init 187 = .ok (.aload_n 0, 1) := by decide +kernel
theorem dX5_init_188 : decode cX5_init 188 = .ok (.iconst 2, 1) := by decide +kernel
theorem dX5_init_189 : decode cX5_init 189 = .ok (.newarray .boolean, 2) := by decide +kernel
theorem dX5_init_191 : decode cX5_init 191 = .ok (.putfield 34, 3) := by decide +kernel
theorem dX5_init_194 : decode cX5_init 194 = .ok (.aload_n 0, 1) := by decide +kernel
theorem dX5_init_195 : decode cX5_init 195 = .ok (.iconst 2, 1) := by decide +kernel
theorem dX5_init_196 : decode cX5_init 196 = .ok (.newarray .int, 2) := by decide +kernel
theorem dX5_init_198 : decode cX5_init 198 = .ok (.putfield 38, 3) := by decide +kernel
theorem dX5_init_201 : decode cX5_init 201 = .ok (.aload_n 0, 1) := by decide +kernel
theorem dX5_init_202 : decode cX5_init 202 = .ok (.iconst 2, 1) := by decide +kernel
theorem dX5_init_203 : decode cX5_init 203 = .ok (.newarray .int, 2) := by decide +kernel
theorem dX5_init_205 : decode cX5_init 205 = .ok (.putfield 41, 3) := by decide +kernel
theorem dX5_init_208 : decode cX5_init 208 = .ok (.aload_n 0, 1) := by decide +kernel
theorem dX5_init_209 : decode cX5_init 209 = .ok (.iconst 2, 1) := by decide +kernel
theorem dX5_init_210 : decode cX5_init 210 = .ok (.newarray .int, 2) := by decide +kernel
theorem dX5_init_212 : decode cX5_init 212 = .ok (.putfield 44, 3) := by decide +kernel
theorem dX5_init_215 : decode cX5_init 215 = .ok (.aload_n 0, 1) := by decide +kernel
theorem dX5_init_216 : decode cX5_init 216 = .ok (.sipush 2048, 3) := by decide +kernel
theorem dX5_init_219 : decode cX5_init 219 = .ok (.newarray .int, 2) := by decide +kernel
theorem dX5_init_221 : decode cX5_init 221 = .ok (.putfield 47, 3) := by decide +kernel
theorem dX5_init_224 : decode cX5_init 224 = .ok (.aload_n 0, 1) := by decide +kernel
theorem dX5_init_225 : decode cX5_init 225 = .ok (.sipush 2048, 3) := by decide +kernel
theorem dX5_init_228 : decode cX5_init 228 = .ok (.newarray .int, 2) := by decide +kernel
theorem dX5_init_230 : decode cX5_init 230 = .ok (.putfield 50, 3) := by decide +kernel
theorem dX5_init_233 : decode cX5_init 233 = .ok (.aload_n 0, 1) := by decide +kernel
theorem dX5_init_234 : decode cX5_init 234 = .ok (.sipush 2048, 3) := by decide +kernel
theorem dX5_init_237 : decode cX5_init 237 = .ok (.newarray .int, 2) := by decide +kernel
theorem dX5_init_239 : decode cX5_init 239 = .ok (.putfield 53, 3) := by decide +kernel
theorem dX5_init_242 : decode cX5_init 242 = .ok (.aload_n 0, 1) := by decide +kernel
theorem dX5_init_243 : decode cX5_init 243 = .ok (.sipush 2048, 3) := by decide +kernel
theorem dX5_init_246 : decode cX5_init 246 = .ok (.newarray .int, 2) := by decide +kernel
theorem dX5_init_248 : decode cX5_init 248 = .ok (.putfield 56, 3) := by decide +kernel
theorem dX5_init_251 : decode cX5_init 251 = .ok (.aload_n 0, 1) := by decide +kernel
theorem dX5_init_252 : decode cX5_init 252 = .ok (.bipush 61, 2) := by decide +kernel
theorem dX5_init_254 : decode cX5_init 254 = .ok (.newarray .int, 2) := by decide +kernel
theorem dX5_init_256 : decode cX5_init 256 = .ok (.putfield 59, 3) := by decide +kernel
theorem dX5_init_259 : decode cX5_init 259 = .ok (.aload_n 0, 1) := by decide +kernel
theorem dX5_init_260 : decode cX5_init 260 = .ok (.sipush 240, 3) := by decide +kernel
theorem dX5_init_263 : decode cX5_init 263 = .ok (.newarray .int, 2) := by decide +kernel
theorem dX5_init_265 : decode cX5_init 265 = .ok (.putfield 62, 3) := by decide +kernel
theorem dX5_init_268 : decode cX5_init 268 = .ok (.aload_n 0, 1) := by decide +kernel
theorem dX5_init_269 : decode cX5_init 269 = .ok (.sipush 240, 3) := by decide +kernel
theorem dX5_init_272 : decode cX5_init 272 = .ok (.newarray .boolean, 2) := by decide +kernel
theorem dX5_init_274 : decode cX5_init 274 = .ok (.putfield 65, 3) := by decide +kernel
theorem dX5_init_277 : decode cX5_init 277 = .ok (.aload_n 0, 1) := by decide +kernel
theorem dX5_init_278 : decode cX5_init 278 = .ok (.iconst 3, 1) := by decide +kernel
theorem dX5_init_279 : decode cX5_init 279 = .ok (.newarray .int, 2) := by decide +kernel
theorem dX5_init_281 : decode cX5_init 281 = .ok (.dup, 1) := by decide +kernel
theorem dX5_init_282 : decode cX5_init 282 = .ok (.iconst 0, 1) := by decide +kernel
theorem dX5_init_283 : decode cX5_init 283 = .ok (.iconst 0, 1) := by decide +kernel
theorem dX5_init_284 : decode cX5_init 284 = .ok (.iastore, 1) := by decide +kernel
theorem dX5_init_285 : decode cX5_init 285 = .ok (.dup, 1) := by decide +kernel
theorem dX5_init_286 : decode cX5_init 286 = .ok (.iconst 1, 1) := by decide +kernel
theorem dX5_init_287 : decode cX5_init 287 = .ok (.iconst 1, 1) := by decide +kernel
theorem dX5_init_288 : decode cX5_init 288 = .ok (.iastore, 1) := by decide +kernel
theorem dX5_init_289 : decode cX5_init 289 = .ok (.dup, 1) := by decide +kernel
theorem dX5_init_290 : decode cX5_init 290 = .ok (.iconst 2, 1) := by decide +kernel
theorem dX5_init_291 : decode cX5_init 291 = .ok (.iconst 2, 1) := by decide +kernel
theorem dX5_init_292 : decode cX5_init 292 = .ok (.iastore, 1) := by decide +kernel
theorem dX5_init_293 : decode cX5_init 293 = .ok (.putfield 68, 3) := by decide +kernel
theorem dX5_init_296 : decode cX5_init 296 = .ok (.aload_n 0, 1) := by decide +kernel
theorem dX5_init_297 : decode cX5_init 297 = .ok (.iconst 3, 1) := by decide +kernel
theorem dX5_init_298 : decode cX5_init 298 = .ok (.newarray .int, 2) := by decide +kernel
theorem dX5_init_300 : decode cX5_init 300 = .ok (.dup, 1) := by decide +kernel
theorem dX5_init_301 : decode cX5_init 301 = .ok (.iconst 0, 1) := by decide +kernel
theorem dX5_init_302 : decode cX5_init 302 = .ok (.iconst (-1), 1) := by decide +kernel
theorem dX5_init_303 : decode cX5_init 303 = .ok (.iastore, 1) := by decide +kernel
theorem dX5_init_304 : decode cX5_init 304 = .ok (.dup, 1) := by decide +kernel
theorem dX5_init_305 : decode cX5_init 305 = .ok (.iconst 1, 1) := by decide +kernel
theorem dX5_init_306 : decode cX5_init 306 = .ok (.iconst (-1), 1) := by decide +kernel
theorem dX5_init_307 : decode cX5_init 307 = .ok (.iastore, 1) := by decide +kernel
theorem dX5_init_308 : decode cX5_init 308 = .ok (.dup, 1) := by decide +kernel
theorem dX5_init_309 : decode cX5_init 309 = .ok (.iconst 2, 1) := by decide +kernel
theorem dX5_init_310 : decode cX5_init 310 = .ok (.iconst (-1), 1) := by decide +kernel
theorem dX5_init_311 : decode cX5_init 311 = .ok (.iastore, 1) := by decide +kernel
theorem dX5_init_312 : decode cX5_init 312 = .ok (.putfield 71, 3) := by decide +kernel
theorem dX5_init_315 : decode cX5_init 315 = .ok (.aload_n 0, 1) := by decide +kernel
theorem dX5_init_316 : decode cX5_init 316 = .ok (.bipush 60, 2) := by decide +kernel
theorem dX5_init_318 : decode cX5_init 318 = .ok (.newarray .int, 2) := by decide +kernel
theorem dX5_init_320 : decode cX5_init 320 = .ok (.putfield 74, 3) := by decide +kernel
theorem dX5_init_323 : decode cX5_init 323 = .ok (.return_, 1) := by decide +kernel
theorem dX5_in_0 : decode cX5_in 0 = .ok (.iload_n 0, 1) := by decide +kernel
theorem dX5_in_1 : decode cX5_in 1 = .ok (.iload_n 1, 1) := by decide +kernel
theorem dX5_in_2 : decode cX5_in 2 = .ok (.if_icmp .lt 12, 3) := by decide +kernel
theorem dX5_in_5 : decode cX5_in 5 = .ok (.iload_n 0, 1) := by decide +kernel
theorem dX5_in_6 : decode cX5_in 6 = .ok (.iload_n 2, 1) := by decide +kernel
theorem dX5_in_7 : decode cX5_in 7 = .ok (.if_icmp .gt 7, 3) := by decide +kernel
theorem dX5_in_10 : decode cX5_in 10 = .ok (.iconst 1, 1) := by decide +kernel
theorem dX5_in_11 : decode cX5_in 11 = .ok (.goto 4, 3) := by decide +kernel
theorem dX5_in_14 : decode cX5_in 14 = .ok (.iconst 0, 1) := by decide +kernel
theorem dX5_in_15 : decode cX5_in 15 = .ok (.ireturn, 1) := by decide +kernel
theorem dX5_isEnd_0 : decode cX5_isEnd 0 = .ok (.iload_n 0, 1) := by decide +kernel
theorem dX5_isEnd_1 : decode cX5_isEnd 1 = .ok (.iconst 0, 1) := by decide +kernel
theorem dX5_isEnd_2 : decode cX5_isEnd 2 = .ok (.iconst 1, 1) := by decide +kernel
theorem dX5_isEnd_3 : decode cX5_isEnd 3 = .ok (.invokestatic 81, 3) := by decide +kernel
theorem dX5_isEnd_6 : decode cX5_isEnd 6 = .ok (.ireturn, 1) := by decide +kernel
theorem dX5_isOption_0 : decode cX5_isOption 0 = .ok (.iload_n 0, 1) := by decide +kernel
theorem dX5_isOption_1 : decode cX5_isOption 1 = .ok (.iconst 0, 1) := by decide +kernel
theorem dX5_isOption_2 : decode cX5_isOption 2 = .ok (.iconst 5, 1) := by decide +kernel
theorem dX5_isOption_3 : decode cX5_isOption 3 = .ok (.invokestatic 81, 3) := by decide +kernel
theorem dX5_isOption_6 : decode cX5_isOption 6 = .ok (.ireturn, 1) := by decide +kernel
theorem dX5_wish_0 : decode cX5_wish 0 = .ok (.aload_n 0, 1) := by decide +kernel
theorem dX5_wish_1 : decode cX5_wish 1 = .ok (.iload_n 1, 1) := by decide +kernel
theorem dX5_wish_2 : decode cX5_wish 2 = .ok (.invokestatic 85, 3) := by decide +kernel
theorem dX5_wish_5 : decode cX5_wish 5 = .ok (.ifCond .eq 10, 3) := by decide +kernel
theorem dX5_wish_8 : decode cX5_wish 8 = .ok (.iload_n 2, 1) := by decide +kernel
theorem dX5_wish_9 : decode cX5_wish 9 = .ok (.invokestatic 89, 3) := by decide +kernel
theorem dX5_wish_12 : decode cX5_wish 12 = .ok (.ifCond .ne 7, 3) := by decide +kernel
theorem dX5_wish_15 : decode cX5_wish 15 = .ok (.iconst 1, 1) := by decide +kernel
theorem dX5_wish_16 : decode cX5_wish 16 = .ok (.goto 18, 3) := by decide +kernel
theorem dX5_wish_19 : decode cX5_wish 19 = .ok (.iload_n 3, 1) := by decide +kernel
theorem dX5_wish_20 : decode cX5_wish 20 = .ok (.iconst (-1), 1) := by decide +kernel
theorem dX5_wish_21 : decode cX5_wish 21 = .ok (.bipush 9, 2) := by decide +kernel
theorem dX5_wish_23 : decode cX5_wish 23 = .ok (.invokestatic 81, 3) := by decide +kernel
theorem dX5_wish_26 : decode cX5_wish 26 = .ok (.ifCond .eq 7, 3) := by decide +kernel
theorem dX5_wish_29 : decode cX5_wish 29 = .ok (.iconst 0, 1) := by decide +kernel
theorem dX5_wish_30 : decode cX5_wish 30 = .ok (.goto 4, 3) := by decide +kernel
theorem dX5_wish_33 : decode cX5_wish 33 = .ok (.iconst 2, 1) := by decide +kernel
theorem dX5_wish_34 : decode cX5_wish 34 = .ok (.putfield 77, 3) := by decide +kernel
theorem dX5_wish_37 : decode cX5_wish 37 = .ok (.aload_n 0, 1) := by decide +kernel
theorem dX5_wish_38 : decode cX5_wish 38 = .ok (.getfield 77, 3) := by decide +kernel
theorem dX5_wish_41 : decode cX5_wish 41 = .ok (.ifCond .le 5, 3) := by decide +kernel
theorem dX5_wish_44 : decode cX5_wish 44 = .ok (.iconst 0, 1) := by decide +kernel
theorem dX5_wish_45 : decode cX5_wish 45 = .ok (.ireturn, 1) := by decide +kernel
theorem dX5_wish_46 : decode cX5_wish 46 = .ok (.aload_n 0, 1) := by decide +kernel
theorem dX5_wish_47 : decode cX5_wish 47 = .ok (.getfield 9, 3) := by decide +kernel
theorem dX5_wish_50 : decode cX5_wish 50 = .ok (.bipush 6, 2) := by decide +kernel
theorem dX5_wish_52 : decode cX5_wish 52 = .ok (.iload_n 1, 1) := by decide +kernel
theorem dX5_wish_53 : decode cX5_wish 53 = .ok (.imul, 1) := by decide +kernel
theorem dX5_wish_54 : decode cX5_wish 54 = .ok (.iload_n 2, 1) := by decide +kernel
theorem dX5_wish_55 : decode cX5_wish 55 = .ok (.iadd, 1) := by decide +kernel
theorem dX5_wish_56 : decode cX5_wish 56 = .ok (.iaload, 1) := by decide +kernel
theorem dX5_wish_57 : decode cX5_wish 57 = .ok (.istore 4, 2) := by decide +kernel
theorem dX5_wish_59 : decode cX5_wish 59 = .ok (.aload_n 0, 1) := by decide +kernel
theorem dX5_wish_60 : decode cX5_wish 60 = .ok (.getfield 9, 3) := by decide +kernel
theorem dX5_wish_63 : decode cX5_wish 63 = .ok (.bipush 6, 2) := by decide +kernel
theorem dX5_wish_65 : decode cX5_wish 65 = .ok (.iload_n 1, 1) := by decide +kernel
theorem dX5_wish_66 : decode cX5_wish 66 = .ok (.imul, 1) := by decide +kernel
theorem dX5_wish_67 : decode cX5_wish 67 = .ok (.iload_n 2, 1) := by decide +kernel
theorem dX5_wish_68 : decode cX5_wish 68 = .ok (.iadd, 1) := by decide +kernel
theorem dX5_wish_69 : decode cX5_wish 69 = .ok (.iload_n 3, 1) := by decide +kernel
theorem dX5_wish_70 : decode cX5_wish 70 = .ok (.iastore, 1) := by decide +kernel
theorem dX5_wish_71 : decode cX5_wish 71 = .ok (.iload 4, 2) := by decide +kernel
theorem dX5_wish_73 : decode cX5_wish 73 = .ok (.ireturn, 1) := by decide +kernel
theorem dX5_allow_0 : decode cX5_allow 0 = .ok (.aload_n 0, 1) := by decide +kernel
theorem dX5_allow_1 : decode cX5_allow 1 = .ok (.iload_n 1, 1) := by decide +kernel
theorem dX5_allow_2 : decode cX5_allow 2 = .ok (.invokestatic 85, 3) := by decide +kernel
theorem dX5_allow_5 : decode cX5_allow 5 = .ok (.ifCond .eq 10, 3) := by decide +kernel
theorem dX5_allow_8 : decode cX5_allow 8 = .ok (.iload_n 2, 1) := by decide +kernel
theorem dX5_allow_9 : decode cX5_allow 9 = .ok (.invokestatic 89, 3) := by decide +kernel
theorem dX5_allow_12 : decode cX5_allow 12 = .ok (.ifCond .ne 7, 3) := by decide +kernel
theorem dX5_allow_15 : decode cX5_allow 15 = .ok (.iconst 1, 1) := by decide +kernel
theorem dX5_allow_16 : decode cX5_allow 16 = .ok (.goto 19, 3) := by decide +kernel
theorem dX5_allow_19 : decode cX5_allow 19 = .ok (.iload_n 3, 1) := by decide +kernel
theorem dX5_allow_20 : decode cX5_allow 20 = .ok (.iconst 0, 1) := by decide +kernel
theorem dX5_allow_21 : decode cX5_allow 21 = .ok (.sipush 1023, 3) := by decide +kernel
theorem dX5_allow_24 : decode cX5_allow 24 = .ok (.invokestatic 81, 3) := by decide +kernel
theorem dX5_allow_27 : decode cX5_allow 27 = .ok (.ifCond .eq 7, 3) := by decide +kernel
theorem dX5_allow_30 : decode cX5_allow 30 = .ok (.iconst 0, 1) := by decide +kernel
theorem dX5_allow_31 : decode cX5_allow 31 = .ok (.goto 4, 3) := by decide +kernel
theorem dX5_allow_34 : decode cX5_allow 34 = .ok (.iconst 2, 1) := by decide +kernel
theorem dX5_allow_35 : decode cX5_allow 35 = .ok (.putfield 77, 3) := by decide +kernel
theorem dX5_allow_38 : decode cX5_allow 38 = .ok (.aload_n 0, 1) := by decide +kernel
theorem dX5_allow_39 : decode cX5_allow 39 = .ok (.getfield 77, 3) := by decide +kernel
theorem dX5_allow_42 : decode cX5_allow 42 = .ok (.ifCond .le 5, 3) := by decide +kernel
theorem dX5_allow_45 : decode cX5_allow 45 = .ok (.iconst 0, 1) := by decide +kernel
theorem dX5_allow_46 : decode cX5_allow 46 = .ok (.ireturn, 1) := by decide +kernel
theorem dX5_allow_47 : decode cX5_allow 47 = .ok (.aload_n 0, 1) := by decide +kernel
theorem dX5_allow_48 : decode cX5_allow 48 = .ok (.getfield 13, 3) := by decide +kernel
theorem dX5_allow_51 : decode cX5_allow 51 = .ok (.bipush 6, 2) := by decide +kernel
theorem dX5_allow_53 : decode cX5_allow 53 = .ok (.iload_n 1, 1) := by decide +kernel
theorem dX5_allow_54 : decode cX5_allow 54 = .ok (.imul, 1) := by decide +kernel
theorem dX5_allow_55 : decode cX5_allow 55 = .ok (.iload_n 2, 1) := by decide +kernel
theorem dX5_allow_56 : decode cX5_allow 56 = .ok (.iadd, 1) := by decide +kernel
theorem dX5_allow_57 : decode cX5_allow 57 = .ok (.iaload, 1) := by decide +kernel
theorem dX5_allow_58 : decode cX5_allow 58 = .ok (.istore 4, 2) := by decide +kernel
theorem dX5_allow_60 : decode cX5_allow 60 = .ok (.aload_n 0, 1) := by decide +kernel
theorem dX5_allow_61 : decode cX5_allow 61 = .ok (.getfield 13, 3) := by decide +kernel
theorem dX5_allow_64 : decode cX5_allow 64 = .ok (.bipush 6, 2) := by decide +kernel
theorem dX5_allow_66 : decode cX5_allow 66 = .ok (.iload_n 1, 1) := by decide +kernel
theorem dX5_allow_67 : decode cX5_allow 67 = .ok (.imul, 1) := by decide +kernel
theorem dX5_allow_68 : decode cX5_allow 68 = .ok (.iload_n 2, 1) := by decide +kernel
theorem dX5_allow_69 : decode cX5_allow 69 = .ok (.iadd, 1) := by decide +kernel
theorem dX5_allow_70 : decode cX5_allow 70 = .ok (.iload_n 3, 1) := by decide +kernel
theorem dX5_allow_71 : decode cX5_allow 71 = .ok (.iastore, 1) := by decide +kernel
theorem dX5_allow_72 : decode cX5_allow 72 = .ok (.iload 4, 2) := by decide +kernel
theorem dX5_allow_74 : decode cX5_allow 74 = .ok (.ireturn, 1) := by decide +kernel
theorem dX5_setMagic_0 : decode cX5_setMagic 0 = .ok (.aload_n 0, 1) := by decide +kernel
theorem dX5_setMagic_1 : decode cX5_setMagic 1 = .ok (.iload_n 1, 1) := by decide +kernel
theorem dX5_setMagic_2 : decode cX5_setMagic 2 = .ok (.invokestatic 85, 3) := by decide +kernel
theorem dX5_setMagic_5 : decode cX5_setMagic 5 = .ok (.ifCond .eq 7, 3) := by decide +kernel
theorem dX5_setMagic_8 : decode cX5_setMagic 8 = .ok (.iconst 0, 1) := by decide +kernel
theorem dX5_setMagic_9 : decode cX5_setMagic 9 = .ok (.goto 4, 3) := by decide +kernel
theorem dX5_setMagic_12 : decode cX5_setMagic 12 = .ok (.iconst 1, 1) := by decide +kernel
theorem dX5_setMagic_13 : decode cX5_setMagic 13 = .ok (.putfield 77, 3) := by decide +kernel
theorem dX5_setMagic_16 : decode cX5_setMagic 16 = .ok (.aload_n 0, 1) := by decide +kernel
theorem dX5_setMagic_17 : decode cX5_setMagic 17 = .ok (.getfield 77, 3) := by decide +kernel
theorem dX5_setMagic_20 : decode cX5_setMagic 20 = .ok (.ifCond .le 5, 3) := by decide +kernel
theorem dX5_setMagic_23 : decode cX5_setMagic 23 = .ok (.iconst 0, 1) := by decide +kernel
theorem dX5_setMagic_24 : decode cX5_setMagic 24 = .ok (.ireturn, 1) := by decide +kernel
theorem dX5_setMagic_25 : decode cX5_setMagic 25 = .ok (.aload_n 0, 1) := by decide +kernel
theorem dX5_setMagic_26 : decode cX5_setMagic 26 = .ok (.getfield 19, 3) := by decide +kernel
theorem dX5_setMagic_29 : decode cX5_setMagic 29 = .ok (.iload_n 1, 1) := by decide +kernel
theorem dX5_setMagic_30 : decode cX5_setMagic 30 = .ok (.iaload, 1) := by decide +kernel
theorem dX5_setMagic_31 : decode cX5_setMagic 31 = .ok (.istore_n 3, 1) := by decide +kernel
theorem dX5_setMagic_32 : decode cX5_setMagic 32 = .ok (.aload_n 0, 1) := by decide +kernel
theorem dX5_setMagic_33 : decode cX5_setMagic 33 = .ok (.getfield 19, 3) := by decide +kernel
theorem dX5_setMagic_36 : decode cX5_setMagic 36 = .ok (.iload_n 1, 1) := by decide +kernel
theorem dX5_setMagic_37 : decode cX5_setMagic 37 = .ok (.iload_n 2, 1) := by decide +kernel
theorem dX5_setMagic_38 : decode cX5_setMagic 38 = .ok (.iastore, 1) := by decide +kernel
theorem dX5_setMagic_39 : decode cX5_setMagic 39 = .ok (.iload_n 3, 1) := by decide +kernel
theorem dX5_setMagic_40 : decode cX5_setMagic 40 = .ok (.ireturn, 1) := by decide +kernel
theorem dX5_sends_0 : decode cX5_sends 0 = .ok (.sipush 1024, 3) := by decide +kernel
theorem dX5_sends_3 : decode cX5_sends 3 = .ok (.iload_n 1, 1) := by decide +kernel
theorem dX5_sends_4 : decode cX5_sends 4 = .ok (.imul, 1) := by decide +kernel
theorem dX5_sends_5 : decode cX5_sends 5 = .ok (.aload_n 0, 1) := by decide +kernel
theorem dX5_sends_6 : decode cX5_sends 6 = .ok (.getfield 41, 3) := by decide +kernel
theorem dX5_sends_9 : decode cX5_sends 9 = .ok (.iload_n 1, 1) := by decide +kernel
theorem dX5_sends_10 : decode cX5_sends 10 = .ok (.iaload, 1) := by decide +kernel
theorem dX5_sends_11 : decode cX5_sends 11 = .ok (.aload_n 0, 1) := by decide +kernel
theorem dX5_sends_12 : decode cX5_sends 12 = .ok (.getfield 44, 3) := by decide +kernel
theorem dX5_sends_15 : decode cX5_sends 15 = .ok (.iload_n 1, 1) := by decide +kernel
theorem dX5_sends_16 : decode cX5_sends 16 = .ok (.iaload, 1) := by decide +kernel
theorem dX5_sends_17 : decode cX5_sends 17 = .ok (.iadd, 1) := by decide +kernel
theorem dX5_sends_18 : decode cX5_sends 18 = .ok (.sipush 1024, 3) := by decide +kernel
theorem dX5_sends_21 : decode cX5_sends 21 = .ok (.irem, 1) := by decide +kernel
theorem dX5_sends_22 : decode cX5_sends 22 = .ok (.iadd, 1) := by decide +kernel
theorem dX5_sends_23 : decode cX5_sends 23 = .ok (.istore 5, 2) := by decide +kernel
theorem dX5_sends_25 : decode cX5_sends 25 = .ok (.aload_n 0, 1) := by decide +kernel
theorem dX5_sends_26 : decode cX5_sends 26 = .ok (.getfield 47, 3) := by decide +kernel
theorem dX5_sends_29 : decode cX5_sends 29 = .ok (.iload 5, 2) := by decide +kernel
theorem dX5_sends_31 : decode cX5_sends 31 = .ok (.iload_n 2, 1) := by decide +kernel
theorem dX5_sends_32 : decode cX5_sends 32 = .ok (.iastore, 1) := by decide +kernel
theorem dX5_sends_33 : decode cX5_sends 33 = .ok (.aload_n 0, 1) := by decide +kernel
theorem dX5_sends_34 : decode cX5_sends 34 = .ok (.getfield 50, 3) := by decide +kernel
theorem dX5_sends_37 : decode cX5_sends 37 = .ok (.iload 5, 2) := by decide +kernel
theorem dX5_sends_39 : decode cX5_sends 39 = .ok (.iload_n 3, 1) := by decide +kernel
theorem dX5_sends_40 : decode cX5_sends 40 = .ok (.iastore, 1) := by decide +kernel
theorem dX5_sends_41 : decode cX5_sends 41 = .ok (.aload_n 0, 1) := by decide +kernel
theorem dX5_sends_42 : decode cX5_sends 42 = .ok (.getfield 53, 3) := by decide +kernel
theorem dX5_sends_45 : decode cX5_sends 45 = .ok (.iload 5, 2) := by decide +kernel
theorem dX5_sends_47 : decode cX5_sends 47 = .ok (.aload_n 0, 1) := by decide +kernel
theorem dX5_sends_48 : decode cX5_sends 48 = .ok (.getfield 19, 3) := by decide +kernel
theorem dX5_sends_51 : decode cX5_sends 51 = .ok (.iload_n 1, 1) := by decide +kernel
theorem dX5_sends_52 : decode cX5_sends 52 = .ok (.iaload, 1) := by decide +kernel
theorem dX5_sends_53 : decode cX5_sends 53 = .ok (.iastore, 1) := by decide +kernel
theorem dX5_sends_54 : decode cX5_sends 54 = .ok (.aload_n 0, 1) := by decide +kernel
theorem dX5_sends_55 : decode cX5_sends 55 = .ok (.getfield 56, 3) := by decide +kernel
theorem dX5_sends_58 : decode cX5_sends 58 = .ok (.iload 5, 2) := by decide +kernel
theorem dX5_sends_60 : decode cX5_sends 60 = .ok (.iload 4, 2) := by decide +kernel
theorem dX5_sends_62 : decode cX5_sends 62 = .ok (.iastore, 1) := by decide +kernel
theorem dX5_sends_63 : decode cX5_sends 63 = .ok (.aload_n 0, 1) := by decide +kernel
theorem dX5_sends_64 : decode cX5_sends 64 = .ok (.getfield 44, 3) := by decide +kernel
theorem dX5_sends_67 : decode cX5_sends 67 = .ok (.iload_n 1, 1) := by decide +kernel
theorem dX5_sends_68 : decode cX5_sends 68 = .ok (.dup2, 1) := by decide +kernel
theorem dX5_sends_69 : decode cX5_sends 69 = .ok (.iaload, 1) := by decide +kernel
theorem dX5_sends_70 : decode cX5_sends 70 = .ok (.iconst 1, 1) := by decide +kernel
theorem dX5_sends_71 : decode cX5_sends 71 = .ok (.iadd, 1) := by decide +kernel
theorem dX5_sends_72 : decode cX5_sends 72 = .ok (.iastore, 1) := by decide +kernel
theorem dX5_sends_73 : decode cX5_sends 73 = .ok (.return_, 1) := by decide +kernel
theorem dX5_place_0 : decode cX5_place 0 = .ok (.iconst 1, 1) := by decide +kernel
theorem dX5_place_1 : decode cX5_place 1 = .ok (.istore_n 1, 1) := by decide +kernel
theorem dX5_place_2 : decode cX5_place 2 = .ok (.iconst 0, 1) := by decide +kernel
theorem dX5_place_3 : decode cX5_place 3 = .ok (.istore_n 2, 1) := by decide +kernel
theorem dX5_place_4 : decode cX5_place 4 = .ok (.iload_n 2, 1) := by decide +kernel
theorem dX5_place_5 : decode cX5_place 5 = .ok (.iload_n 0, 1) := by decide +kernel
theorem dX5_place_6 : decode cX5_place 6 = .ok (.if_icmp .ge 14, 3) := by decide +kernel
theorem dX5_place_9 : decode cX5_place 9 = .ok (.iload_n 1, 1) := by decide +kernel
theorem dX5_place_10 : decode cX5_place 10 = .ok (.bipush 11, 2) := by decide +kernel
theorem dX5_place_12 : decode cX5_place 12 = .ok (.imul, 1) := by decide +kernel
theorem dX5_place_13 : decode cX5_place 13 = .ok (.istore_n 1, 1) := by decide +kernel
theorem dX5_place_14 : decode cX5_place 14 = .ok (.iinc 2 1, 3) := by decide +kernel
theorem dX5_place_17 : decode cX5_place 17 = .ok (.goto (-13), 3) := by decide +kernel
theorem dX5_place_20 : decode cX5_place 20 = .ok (.iload_n 1, 1) := by decide +kernel
theorem dX5_place_21 : decode cX5_place 21 = .ok (.ireturn, 1) := by decide +kernel
theorem dX5_valueIn_0 : decode cX5_valueIn 0 = .ok (.iload_n 0, 1) := by decide +kernel
theorem dX5_valueIn_1 : decode cX5_valueIn 1 = .ok (.iload_n 1, 1) := by decide +kernel
theorem dX5_valueIn_2 : decode cX5_valueIn 2 = .ok (.invokestatic 92, 3) := by decide +kernel
theorem dX5_valueIn_5 : decode cX5_valueIn 5 = .ok (.idiv, 1) := by decide +kernel
theorem dX5_valueIn_6 : decode cX5_valueIn 6 = .ok (.bipush 11, 2) := by decide +kernel
theorem dX5_valueIn_8 : decode cX5_valueIn 8 = .ok (.irem, 1) := by decide +kernel
theorem dX5_valueIn_9 : decode cX5_valueIn 9 = .ok (.iconst 1, 1) := by decide +kernel
theorem dX5_valueIn_10 : decode cX5_valueIn 10 = .ok (.isub, 1) := by decide +kernel
theorem dX5_valueIn_11 : decode cX5_valueIn 11 = .ok (.ireturn, 1) := by decide +kernel
theorem dX5_begs_0 : decode cX5_begs 0 = .ok (.aload_n 0, 1) := by decide +kernel
theorem dX5_begs_1 : decode cX5_begs 1 = .ok (.getfield 28, 3) := by decide +kernel
theorem dX5_begs_4 : decode cX5_begs 4 = .ok (.iload_n 1, 1) := by decide +kernel
theorem dX5_begs_5 : decode cX5_begs 5 = .ok (.iaload, 1) := by decide +kernel
theorem dX5_begs_6 : decode cX5_begs 6 = .ok (.bipush 10, 2) := by decide +kernel
theorem dX5_begs_8 : decode cX5_begs 8 = .ok (.if_icmp .ne 12, 3) := by decide +kernel
theorem dX5_begs_11 : decode cX5_begs 11 = .ok (.aload_n 0, 1) := by decide +kernel
theorem dX5_begs_12 : decode cX5_begs 12 = .ok (.getfield 22, 3) := by decide +kernel
theorem dX5_begs_15 : decode cX5_begs 15 = .ok (.iload_n 1, 1) := by decide +kernel
theorem dX5_begs_16 : decode cX5_begs 16 = .ok (.iconst 0, 1) := by decide +kernel
theorem dX5_begs_17 : decode cX5_begs 17 = .ok (.iastore, 1) := by decide +kernel
theorem dX5_begs_18 : decode cX5_begs 18 = .ok (.iconst 0, 1) := by decide +kernel
theorem dX5_begs_19 : decode cX5_begs 19 = .ok (.ireturn, 1) := by decide +kernel
theorem dX5_begs_20 : decode cX5_begs 20 = .ok (.aload_n 0, 1) := by decide +kernel
theorem dX5_begs_21 : decode cX5_begs 21 = .ok (.getfield 25, 3) := by decide +kernel
theorem dX5_begs_24 : decode cX5_begs 24 = .ok (.iload_n 1, 1) := by decide +kernel
theorem dX5_begs_25 : decode cX5_begs 25 = .ok (.dup2, 1) := by decide +kernel
theorem dX5_begs_26 : decode cX5_begs 26 = .ok (.iaload, 1) := by decide +kernel
theorem dX5_begs_27 : decode cX5_begs 27 = .ok (.iconst 1, 1) := by decide +kernel
theorem dX5_begs_28 : decode cX5_begs 28 = .ok (.iadd, 1) := by decide +kernel
theorem dX5_begs_29 : decode cX5_begs 29 = .ok (.iastore, 1) := by decide +kernel
theorem dX5_begs_30 : decode cX5_begs 30 = .ok (.aload_n 0, 1) := by decide +kernel
theorem dX5_begs_31 : decode cX5_begs 31 = .ok (.getfield 28, 3) := by decide +kernel
theorem dX5_begs_34 : decode cX5_begs 34 = .ok (.iload_n 1, 1) := by decide +kernel
theorem dX5_begs_35 : decode cX5_begs 35 = .ok (.dup2, 1) := by decide +kernel
theorem dX5_begs_36 : decode cX5_begs 36 = .ok (.iaload, 1) := by decide +kernel
theorem dX5_begs_37 : decode cX5_begs 37 = .ok (.iconst 1, 1) := by decide +kernel
theorem dX5_begs_38 : decode cX5_begs 38 = .ok (.iadd, 1) := by decide +kernel
theorem dX5_begs_39 : decode cX5_begs 39 = .ok (.iastore, 1) := by decide +kernel
theorem dX5_begs_40 : decode cX5_begs 40 = .ok (.aload_n 0, 1) := by decide +kernel
theorem dX5_begs_41 : decode cX5_begs 41 = .ok (.getfield 31, 3) := by decide +kernel
theorem dX5_begs_44 : decode cX5_begs 44 = .ok (.iload_n 1, 1) := by decide +kernel
theorem dX5_begs_45 : decode cX5_begs 45 = .ok (.iconst 3, 1) := by decide +kernel
theorem dX5_begs_46 : decode cX5_begs 46 = .ok (.iastore, 1) := by decide +kernel
theorem dX5_begs_47 : decode cX5_begs 47 = .ok (.iconst 0, 1) := by decide +kernel
theorem dX5_begs_48 : decode cX5_begs 48 = .ok (.istore_n 2, 1) := by decide +kernel
theorem dX5_begs_49 : decode cX5_begs 49 = .ok (.iconst 0, 1) := by decide +kernel
theorem dX5_begs_50 : decode cX5_begs 50 = .ok (.istore_n 3, 1) := by decide +kernel
theorem dX5_begs_51 : decode cX5_begs 51 = .ok (.iload_n 3, 1) := by decide +kernel
theorem dX5_begs_52 : decode cX5_begs 52 = .ok (.bipush 6, 2) := by decide +kernel
theorem dX5_begs_54 : decode cX5_begs 54 = .ok (.if_icmp .ge 30, 3) := by decide +kernel
theorem dX5_begs_57 : decode cX5_begs 57 = .ok (.iload_n 2, 1) := by decide +kernel
theorem dX5_begs_58 : decode cX5_begs 58 = .ok (.iload_n 3, 1) := by decide +kernel
theorem dX5_begs_59 : decode cX5_begs 59 = .ok (.invokestatic 92, 3) := by decide +kernel
theorem dX5_begs_62 : decode cX5_begs 62 = .ok (.aload_n 0, 1) := by decide +kernel
theorem dX5_begs_63 : decode cX5_begs 63 = .ok (.getfield 16, 3) := by decide +kernel
theorem dX5_begs_66 : decode cX5_begs 66 = .ok (.bipush 6, 2) := by decide +kernel
theorem dX5_begs_68 : decode cX5_begs 68 = .ok (.iload_n 1, 1) := by decide +kernel
theorem dX5_begs_69 : decode cX5_begs 69 = .ok (.imul, 1) := by decide +kernel
theorem dX5_begs_70 : decode cX5_begs 70 = .ok (.iload_n 3, 1) := by decide +kernel
theorem dX5_begs_71 : decode cX5_begs 71 = .ok (.iadd, 1) := by decide +kernel
theorem dX5_begs_72 : decode cX5_begs 72 = .ok (.iaload, 1) := by decide +kernel
theorem dX5_begs_73 : decode cX5_begs 73 = .ok (.iconst 1, 1) := by decide +kernel
theorem dX5_begs_74 : decode cX5_begs 74 = .ok (.iadd, 1) := by decide +kernel
theorem dX5_begs_75 : decode cX5_begs 75 = .ok (.imul, 1) := by decide +kernel
theorem dX5_begs_76 : decode cX5_begs 76 = .ok (.iadd, 1) := by decide +kernel
theorem dX5_begs_77 : decode cX5_begs 77 = .ok (.istore_n 2, 1) := by decide +kernel
theorem dX5_begs_78 : decode cX5_begs 78 = .ok (.iinc 3 1, 3) := by decide +kernel
theorem dX5_begs_81 : decode cX5_begs 81 = .ok (.goto (-30), 3) := by decide +kernel
theorem dX5_begs_84 : decode cX5_begs 84 = .ok (.aload_n 0, 1) := by decide +kernel
theorem dX5_begs_85 : decode cX5_begs 85 = .ok (.iload_n 1, 1) := by decide +kernel
theorem dX5_begs_86 : decode cX5_begs 86 = .ok (.iconst 0, 1) := by decide +kernel
theorem dX5_begs_87 : decode cX5_begs 87 = .ok (.aload_n 0, 1) := by decide +kernel
theorem dX5_begs_88 : decode cX5_begs 88 = .ok (.getfield 25, 3) := by decide +kernel
theorem dX5_begs_91 : decode cX5_begs 91 = .ok (.iload_n 1, 1) := by decide +kernel
theorem dX5_begs_92 : decode cX5_begs 92 = .ok (.iaload, 1) := by decide +kernel
theorem dX5_begs_93 : decode cX5_begs 93 = .ok (.iload_n 2, 1) := by decide +kernel
theorem dX5_begs_94 : decode cX5_begs 94 = .ok (.invokevirtual 96, 3) := by decide +kernel
theorem dX5_begs_97 : decode cX5_begs 97 = .ok (.iconst 1, 1) := by decide +kernel
theorem dX5_begs_98 : decode cX5_begs 98 = .ok (.ireturn, 1) := by decide +kernel
theorem dX5_lowest_0 : decode cX5_lowest 0 = .ok (.iconst 0, 1) := by decide +kernel
theorem dX5_lowest_1 : decode cX5_lowest 1 = .ok (.istore_n 1, 1) := by decide +kernel
theorem dX5_lowest_2 : decode cX5_lowest 2 = .ok (.iload_n 0, 1) := by decide +kernel
theorem dX5_lowest_3 : decode cX5_lowest 3 = .ok (.iload_n 1, 1) := by decide +kernel
theorem dX5_lowest_4 : decode cX5_lowest 4 = .ok (.ishr, 1) := by decide +kernel
theorem dX5_lowest_5 : decode cX5_lowest 5 = .ok (.iconst 1, 1) := by decide +kernel
theorem dX5_lowest_6 : decode cX5_lowest 6 = .ok (.iand, 1) := by decide +kernel
theorem dX5_lowest_7 : decode cX5_lowest 7 = .ok (.ifCond .ne 9, 3) := by decide +kernel
theorem dX5_lowest_10 : decode cX5_lowest 10 = .ok (.iinc 1 1, 3) := by decide +kernel
theorem dX5_lowest_13 : decode cX5_lowest 13 = .ok (.goto (-11), 3) := by decide +kernel
theorem dX5_lowest_16 : decode cX5_lowest 16 = .ok (.iload_n 1, 1) := by decide +kernel
theorem dX5_lowest_17 : decode cX5_lowest 17 = .ok (.ireturn, 1) := by decide +kernel
theorem dX5_answers_0 : decode cX5_answers 0 = .ok (.iconst 0, 1) := by decide +kernel
theorem dX5_answers_1 : decode cX5_answers 1 = .ok (.istore 4, 2) := by decide +kernel
theorem dX5_answers_3 : decode cX5_answers 3 = .ok (.iconst 0, 1) := by decide +kernel
theorem dX5_answers_4 : decode cX5_answers 4 = .ok (.istore 5, 2) := by decide +kernel
theorem dX5_answers_6 : decode cX5_answers 6 = .ok (.iconst 0, 1) := by decide +kernel
theorem dX5_answers_7 : decode cX5_answers 7 = .ok (.istore 6, 2) := by decide +kernel
theorem dX5_answers_9 : decode cX5_answers 9 = .ok (.iload 6, 2) := by decide +kernel
theorem dX5_answers_11 : decode cX5_answers 11 = .ok (.bipush 6, 2) := by decide +kernel
theorem dX5_answers_13 : decode cX5_answers 13 = .ok (.if_icmp .ge 104, 3) := by decide +kernel
theorem dX5_answers_16 : decode cX5_answers 16 = .ok (.iload_n 3, 1) := by decide +kernel
theorem dX5_answers_17 : decode cX5_answers 17 = .ok (.iload 6, 2) := by decide +kernel
theorem dX5_answers_19 : decode cX5_answers 19 = .ok (.invokestatic 100, 3) := by decide +kernel
theorem dX5_answers_22 : decode cX5_answers 22 = .ok (.istore 7, 2) := by decide +kernel
theorem dX5_answers_24 : decode cX5_answers 24 = .ok (.aload_n 0, 1) := by decide +kernel
theorem dX5_answers_25 : decode cX5_answers 25 = .ok (.getfield 13, 3) := by decide +kernel
theorem dX5_answers_28 : decode cX5_answers 28 = .ok (.bipush 6, 2) := by decide +kernel
theorem dX5_answers_30 : decode cX5_answers 30 = .ok (.iload_n 1, 1) := by decide +kernel
theorem dX5_answers_31 : decode cX5_answers 31 = .ok (.imul, 1) := by decide +kernel
theorem dX5_answers_32 : decode cX5_answers 32 = .ok (.iload 6, 2) := by decide +kernel
theorem dX5_answers_34 : decode cX5_answers 34 = .ok (.iadd, 1) := by decide +kernel
theorem dX5_answers_35 : decode cX5_answers 35 = .ok (.iaload, 1) := by decide +kernel
theorem dX5_answers_36 : decode cX5_answers 36 = .ok (.istore 8, 2) := by decide +kernel
theorem dX5_answers_38 : decode cX5_answers 38 = .ok (.iload 4, 2) := by decide +kernel
theorem dX5_answers_40 : decode cX5_answers 40 = .ok (.iload 7, 2) := by decide +kernel
theorem dX5_answers_42 : decode cX5_answers 42 = .ok (.iconst (-1), 1) := by decide +kernel
theorem dX5_answers_43 : decode cX5_answers 43 = .ok (.if_icmp .eq 21, 3) := by decide +kernel
theorem dX5_answers_46 : decode cX5_answers 46 = .ok (.iload 8, 2) := by decide +kernel
theorem dX5_answers_48 : decode cX5_answers 48 = .ok (.ifCond .ne 16, 3) := by decide +kernel
theorem dX5_answers_51 : decode cX5_answers 51 = .ok (.iload 6, 2) := by decide +kernel
theorem dX5_answers_53 : decode cX5_answers 53 = .ok (.invokestatic 92, 3) := by decide +kernel
theorem dX5_answers_56 : decode cX5_answers 56 = .ok (.iload 7, 2) := by decide +kernel
theorem dX5_answers_58 : decode cX5_answers 58 = .ok (.iconst 1, 1) := by decide +kernel
theorem dX5_answers_59 : decode cX5_answers 59 = .ok (.iadd, 1) := by decide +kernel
theorem dX5_answers_60 : decode cX5_answers 60 = .ok (.imul, 1) := by decide +kernel
theorem dX5_answers_61 : decode cX5_answers 61 = .ok (.goto 4, 3) := by decide +kernel
theorem dX5_answers_64 : decode cX5_answers 64 = .ok (.iconst 0, 1) := by decide +kernel
theorem dX5_answers_65 : decode cX5_answers 65 = .ok (.iadd, 1) := by decide +kernel
theorem dX5_answers_66 : decode cX5_answers 66 = .ok (.istore 4, 2) := by decide +kernel
theorem dX5_answers_68 : decode cX5_answers 68 = .ok (.iload 5, 2) := by decide +kernel
theorem dX5_answers_70 : decode cX5_answers 70 = .ok (.iload 7, 2) := by decide +kernel
theorem dX5_answers_72 : decode cX5_answers 72 = .ok (.iconst (-1), 1) := by decide +kernel
theorem dX5_answers_73 : decode cX5_answers 73 = .ok (.if_icmp .eq 34, 3) := by decide +kernel
theorem dX5_answers_76 : decode cX5_answers 76 = .ok (.iload 8, 2) := by decide +kernel
theorem dX5_answers_78 : decode cX5_answers 78 = .ok (.ifCond .eq 29, 3) := by decide +kernel
theorem dX5_answers_81 : decode cX5_answers 81 = .ok (.iload 8, 2) := by decide +kernel
theorem dX5_answers_83 : decode cX5_answers 83 = .ok (.iload 7, 2) := by decide +kernel
theorem dX5_answers_85 : decode cX5_answers 85 = .ok (.ishr, 1) := by decide +kernel
theorem dX5_answers_86 : decode cX5_answers 86 = .ok (.iconst 1, 1) := by decide +kernel
theorem dX5_answers_87 : decode cX5_answers 87 = .ok (.iand, 1) := by decide +kernel
theorem dX5_answers_88 : decode cX5_answers 88 = .ok (.ifCond .ne 19, 3) := by decide +kernel
theorem dX5_answers_91 : decode cX5_answers 91 = .ok (.iload 6, 2) := by decide +kernel
theorem dX5_answers_93 : decode cX5_answers 93 = .ok (.invokestatic 92, 3) := by decide +kernel
theorem dX5_answers_96 : decode cX5_answers 96 = .ok (.iload 8, 2) := by decide +kernel
theorem dX5_answers_98 : decode cX5_answers 98 = .ok (.invokestatic 104, 3) := by decide +kernel
theorem dX5_answers_101 : decode cX5_answers 101 = .ok (.iconst 1, 1) := by decide +kernel
theorem dX5_answers_102 : decode cX5_answers 102 = .ok (.iadd, 1) := by decide +kernel
theorem dX5_answers_103 : decode cX5_answers 103 = .ok (.imul, 1) := by decide +kernel
theorem dX5_answers_104 : decode cX5_answers 104 = .ok (.goto 4, 3) := by decide +kernel
theorem dX5_answers_107 : decode cX5_answers 107 = .ok (.iconst 0, 1) := by decide +kernel
theorem dX5_answers_108 : decode cX5_answers 108 = .ok (.iadd, 1) := by decide +kernel
theorem dX5_answers_109 : decode cX5_answers 109 = .ok (.istore 5, 2) := by decide +kernel
theorem dX5_answers_111 : decode cX5_answers 111 = .ok (.iinc 6 1, 3) := by decide +kernel
theorem dX5_answers_114 : decode cX5_answers 114 = .ok (.goto (-105), 3) := by decide +kernel
theorem dX5_answers_117 : decode cX5_answers 117 = .ok (.iload 4, 2) := by decide +kernel
theorem dX5_answers_119 : decode cX5_answers 119 = .ok (.ifCond .le 15, 3) := by decide +kernel
theorem dX5_answers_122 : decode cX5_answers 122 = .ok (.aload_n 0, 1) := by decide +kernel
theorem dX5_answers_123 : decode cX5_answers 123 = .ok (.iload_n 1, 1) := by decide +kernel
theorem dX5_answers_124 : decode cX5_answers 124 = .ok (.iconst 3, 1) := by decide +kernel
theorem dX5_answers_125 : decode cX5_answers 125 = .ok (.iload_n 2, 1) := by decide +kernel
theorem dX5_answers_126 : decode cX5_answers 126 = .ok (.iload 4, 2) := by decide +kernel
theorem dX5_answers_128 : decode cX5_answers 128 = .ok (.invokevirtual 96, 3) := by decide +kernel
theorem dX5_answers_131 : decode cX5_answers 131 = .ok (.goto 68, 3) := by decide +kernel
theorem dX5_answers_134 : decode cX5_answers 134 = .ok (.iload 5, 2) := by decide +kernel
theorem dX5_answers_136 : decode cX5_answers 136 = .ok (.ifCond .le 15, 3) := by decide +kernel
theorem dX5_answers_139 : decode cX5_answers 139 = .ok (.aload_n 0, 1) := by decide +kernel
theorem dX5_answers_140 : decode cX5_answers 140 = .ok (.iload_n 1, 1) := by decide +kernel
theorem dX5_answers_141 : decode cX5_answers 141 = .ok (.iconst 2, 1) := by decide +kernel
theorem dX5_answers_142 : decode cX5_answers 142 = .ok (.iload_n 2, 1) := by decide +kernel
theorem dX5_answers_143 : decode cX5_answers 143 = .ok (.iload 5, 2) := by decide +kernel
theorem dX5_answers_145 : decode cX5_answers 145 = .ok (.invokevirtual 96, 3) := by decide +kernel
theorem dX5_answers_148 : decode cX5_answers 148 = .ok (.goto 51, 3) := by decide +kernel
theorem dX5_answers_151 : decode cX5_answers 151 = .ok (.aload_n 0, 1) := by decide +kernel
theorem dX5_answers_152 : decode cX5_answers 152 = .ok (.iload_n 1, 1) := by decide +kernel
theorem dX5_answers_153 : decode cX5_answers 153 = .ok (.iconst 1, 1) := by decide +kernel
theorem dX5_answers_154 : decode cX5_answers 154 = .ok (.iload_n 2, 1) := by decide +kernel
theorem dX5_answers_155 : decode cX5_answers 155 = .ok (.iconst 0, 1) := by decide +kernel
theorem dX5_answers_156 : decode cX5_answers 156 = .ok (.invokevirtual 96, 3) := by decide +kernel
theorem dX5_answers_159 : decode cX5_answers 159 = .ok (.aload_n 0, 1) := by decide +kernel
theorem dX5_answers_160 : decode cX5_answers 160 = .ok (.getfield 22, 3) := by decide +kernel
theorem dX5_answers_163 : decode cX5_answers 163 = .ok (.iload_n 1, 1) := by decide +kernel
theorem dX5_answers_164 : decode cX5_answers 164 = .ok (.aload_n 0, 1) := by decide +kernel
theorem dX5_answers_165 : decode cX5_answers 165 = .ok (.getfield 22, 3) := by decide +kernel
theorem dX5_answers_168 : decode cX5_answers 168 = .ok (.iload_n 1, 1) := by decide +kernel
theorem dX5_answers_169 : decode cX5_answers 169 = .ok (.iaload, 1) := by decide +kernel
theorem dX5_answers_170 : decode cX5_answers 170 = .ok (.iconst 1, 1) := by decide +kernel
theorem dX5_answers_171 : decode cX5_answers 171 = .ok (.if_icmp .ne 7, 3) := by decide +kernel
theorem dX5_answers_174 : decode cX5_answers 174 = .ok (.iconst 3, 1) := by decide +kernel
theorem dX5_answers_175 : decode cX5_answers 175 = .ok (.goto 23, 3) := by decide +kernel
theorem dX5_answers_178 : decode cX5_answers 178 = .ok (.aload_n 0, 1) := by decide +kernel
theorem dX5_answers_179 : decode cX5_answers 179 = .ok (.getfield 22, 3) := by decide +kernel
theorem dX5_answers_182 : decode cX5_answers 182 = .ok (.iload_n 1, 1) := by decide +kernel
theorem dX5_answers_183 : decode cX5_answers 183 = .ok (.iaload, 1) := by decide +kernel
theorem dX5_answers_184 : decode cX5_answers 184 = .ok (.iconst 2, 1) := by decide +kernel
theorem dX5_answers_185 : decode cX5_answers 185 = .ok (.if_icmp .ne 7, 3) := by decide +kernel
theorem dX5_answers_188 : decode cX5_answers 188 = .ok (.iconst 4, 1) := by decide +kernel
theorem dX5_answers_189 : decode cX5_answers 189 = .ok (.goto 9, 3) := by decide +kernel
theorem dX5_answers_192 : decode cX5_answers 192 = .ok (.aload_n 0, 1) := by decide +kernel
theorem dX5_answers_193 : decode cX5_answers 193 = .ok (.getfield 22, 3) := by decide +kernel
theorem dX5_answers_196 : decode cX5_answers 196 = .ok (.iload_n 1, 1) := by decide +kernel
theorem dX5_answers_197 : decode cX5_answers 197 = .ok (.iaload, 1) := by decide +kernel
theorem dX5_answers_198 : decode cX5_answers 198 = .ok (.iastore, 1) := by decide +kernel
theorem dX5_answers_199 : decode cX5_answers 199 = .ok (.iload 4, 2) := by decide +kernel
theorem dX5_answers_201 : decode cX5_answers 201 = .ok (.iload 5, 2) := by decide +kernel
theorem dX5_answers_203 : decode cX5_answers 203 = .ok (.iadd, 1) := by decide +kernel
theorem dX5_answers_204 : decode cX5_answers 204 = .ok (.ifCond .le 20, 3) := by decide +kernel
theorem dX5_answers_207 : decode cX5_answers 207 = .ok (.aload_n 0, 1) := by decide +kernel
theorem dX5_answers_208 : decode cX5_answers 208 = .ok (.getfield 22, 3) := by decide +kernel
theorem dX5_answers_211 : decode cX5_answers 211 = .ok (.iload_n 1, 1) := by decide +kernel
theorem dX5_answers_212 : decode cX5_answers 212 = .ok (.iaload, 1) := by decide +kernel
theorem dX5_answers_213 : decode cX5_answers 213 = .ok (.iconst 3, 1) := by decide +kernel
theorem dX5_answers_214 : decode cX5_answers 214 = .ok (.if_icmp .ne 10, 3) := by decide +kernel
theorem dX5_answers_217 : decode cX5_answers 217 = .ok (.aload_n 0, 1) := by decide +kernel
theorem dX5_answers_218 : decode cX5_answers 218 = .ok (.getfield 22, 3) := by decide +kernel
theorem dX5_answers_221 : decode cX5_answers 221 = .ok (.iload_n 1, 1) := by decide +kernel
theorem dX5_answers_222 : decode cX5_answers 222 = .ok (.iconst 1, 1) := by decide +kernel
theorem dX5_answers_223 : decode cX5_answers 223 = .ok (.iastore, 1) := by decide +kernel
theorem dX5_answers_224 : decode cX5_answers 224 = .ok (.return_, 1) := by decide +kernel
theorem dX5_comesRequest_0 : decode cX5_comesRequest 0 = .ok (.aload_n 0, 1) := by decide +kernel
theorem dX5_comesRequest_1 : decode cX5_comesRequest 1 = .ok (.getfield 34, 3) := by decide +kernel
theorem dX5_comesRequest_4 : decode cX5_comesRequest 4 = .ok (.iload_n 1, 1) := by decide +kernel
theorem dX5_comesRequest_5 : decode cX5_comesRequest 5 = .ok (.iload_n 3, 1) := by decide +kernel
theorem dX5_comesRequest_6 : decode cX5_comesRequest 6 = .ok (.aload_n 0, 1) := by decide +kernel
theorem dX5_comesRequest_7 : decode cX5_comesRequest 7 = .ok (.getfield 19, 3) := by decide +kernel
theorem dX5_comesRequest_10 : decode cX5_comesRequest 10 = .ok (.iload_n 1, 1) := by decide +kernel
theorem dX5_comesRequest_11 : decode cX5_comesRequest 11 = .ok (.iaload, 1) := by decide +kernel
theorem dX5_comesRequest_12 : decode cX5_comesRequest 12 = .ok (.if_icmp .ne 7, 3) := by decide +kernel
theorem dX5_comesRequest_15 : decode cX5_comesRequest 15 = .ok (.iconst 1, 1) := by decide +kernel
theorem dX5_comesRequest_16 : decode cX5_comesRequest 16 = .ok (.goto 4, 3) := by decide +kernel
theorem dX5_comesRequest_19 : decode cX5_comesRequest 19 = .ok (.iconst 0, 1) := by decide +kernel
theorem dX5_comesRequest_20 : decode cX5_comesRequest 20 = .ok (.bastore, 1) := by decide +kernel
theorem dX5_comesRequest_21 : decode cX5_comesRequest 21 = .ok (.aload_n 0, 1) := by decide +kernel
theorem dX5_comesRequest_22 : decode cX5_comesRequest 22 = .ok (.getfield 34, 3) := by decide +kernel
theorem dX5_comesRequest_25 : decode cX5_comesRequest 25 = .ok (.iload_n 1, 1) := by decide +kernel
theorem dX5_comesRequest_26 : decode cX5_comesRequest 26 = .ok (.baload, 1) := by decide +kernel
theorem dX5_comesRequest_27 : decode cX5_comesRequest 27 = .ok (.ifCond .eq 4, 3) := by decide +kernel
theorem dX5_comesRequest_30 : decode cX5_comesRequest 30 = .ok (.return_, 1) := by decide +kernel
theorem dX5_comesRequest_31 : decode cX5_comesRequest 31 = .ok (.aload_n 0, 1) := by decide +kernel
theorem dX5_comesRequest_32 : decode cX5_comesRequest 32 = .ok (.getfield 22, 3) := by decide +kernel
theorem dX5_comesRequest_35 : decode cX5_comesRequest 35 = .ok (.iload_n 1, 1) := by decide +kernel
theorem dX5_comesRequest_36 : decode cX5_comesRequest 36 = .ok (.iaload, 1) := by decide +kernel
theorem dX5_comesRequest_37 : decode cX5_comesRequest 37 = .ok (.ifCond .ne 12, 3) := by decide +kernel
theorem dX5_comesRequest_40 : decode cX5_comesRequest 40 = .ok (.aload_n 0, 1) := by decide +kernel
theorem dX5_comesRequest_41 : decode cX5_comesRequest 41 = .ok (.iload_n 1, 1) := by decide +kernel
theorem dX5_comesRequest_42 : decode cX5_comesRequest 42 = .ok (.iconst 4, 1) := by decide +kernel
theorem dX5_comesRequest_43 : decode cX5_comesRequest 43 = .ok (.iconst 0, 1) := by decide +kernel
theorem dX5_comesRequest_44 : decode cX5_comesRequest 44 = .ok (.iconst 0, 1) := by decide +kernel
theorem dX5_comesRequest_45 : decode cX5_comesRequest 45 = .ok (.invokevirtual 96, 3) := by decide +kernel
theorem dX5_comesRequest_48 : decode cX5_comesRequest 48 = .ok (.return_, 1) := by decide +kernel
theorem dX5_comesRequest_49 : decode cX5_comesRequest 49 = .ok (.aload_n 0, 1) := by decide +kernel
theorem dX5_comesRequest_50 : decode cX5_comesRequest 50 = .ok (.getfield 22, 3) := by decide +kernel
theorem dX5_comesRequest_53 : decode cX5_comesRequest 53 = .ok (.iload_n 1, 1) := by decide +kernel
theorem dX5_comesRequest_54 : decode cX5_comesRequest 54 = .ok (.iaload, 1) := by decide +kernel
theorem dX5_comesRequest_55 : decode cX5_comesRequest 55 = .ok (.iconst 4, 1) := by decide +kernel
theorem dX5_comesRequest_56 : decode cX5_comesRequest 56 = .ok (.if_icmp .ne 16, 3) := by decide +kernel
theorem dX5_comesRequest_59 : decode cX5_comesRequest 59 = .ok (.aload_n 0, 1) := by decide +kernel
theorem dX5_comesRequest_60 : decode cX5_comesRequest 60 = .ok (.getfield 22, 3) := by decide +kernel
theorem dX5_comesRequest_63 : decode cX5_comesRequest 63 = .ok (.iload_n 1, 1) := by decide +kernel
theorem dX5_comesRequest_64 : decode cX5_comesRequest 64 = .ok (.iconst 1, 1) := by decide +kernel
theorem dX5_comesRequest_65 : decode cX5_comesRequest 65 = .ok (.iastore, 1) := by decide +kernel
theorem dX5_comesRequest_66 : decode cX5_comesRequest 66 = .ok (.aload_n 0, 1) := by decide +kernel
theorem dX5_comesRequest_67 : decode cX5_comesRequest 67 = .ok (.iload_n 1, 1) := by decide +kernel
theorem dX5_comesRequest_68 : decode cX5_comesRequest 68 = .ok (.invokevirtual 107, 3) := by decide +kernel
theorem dX5_comesRequest_71 : decode cX5_comesRequest 71 = .ok (.pop, 1) := by decide +kernel
theorem dX5_comesRequest_72 : decode cX5_comesRequest 72 = .ok (.aload_n 0, 1) := by decide +kernel
theorem dX5_comesRequest_73 : decode cX5_comesRequest 73 = .ok (.getfield 22, 3) := by decide +kernel
theorem dX5_comesRequest_76 : decode cX5_comesRequest 76 = .ok (.iload_n 1, 1) := by decide +kernel
theorem dX5_comesRequest_77 : decode cX5_comesRequest 77 = .ok (.iaload, 1) := by decide +kernel
theorem dX5_comesRequest_78 : decode cX5_comesRequest 78 = .ok (.ifCond .eq 11, 3) := by decide +kernel
theorem dX5_comesRequest_81 : decode cX5_comesRequest 81 = .ok (.aload_n 0, 1) := by decide +kernel
theorem dX5_comesRequest_82 : decode cX5_comesRequest 82 = .ok (.iload_n 1, 1) := by decide +kernel
theorem dX5_comesRequest_83 : decode cX5_comesRequest 83 = .ok (.iload_n 2, 1) := by decide +kernel
theorem dX5_comesRequest_84 : decode cX5_comesRequest 84 = .ok (.iload 4, 2) := by decide +kernel
theorem dX5_comesRequest_86 : decode cX5_comesRequest 86 = .ok (.invokevirtual 110, 3) := by decide +kernel
theorem dX5_comesRequest_89 : decode cX5_comesRequest 89 = .ok (.return_, 1) := by decide +kernel
theorem dX5_comesAnswer_0 : decode cX5_comesAnswer 0 = .ok (.iload_n 2, 1) := by decide +kernel
theorem dX5_comesAnswer_1 : decode cX5_comesAnswer 1 = .ok (.iconst 1, 1) := by decide +kernel
theorem dX5_comesAnswer_2 : decode cX5_comesAnswer 2 = .ok (.if_icmp .ne 25, 3) := by decide +kernel
theorem dX5_comesAnswer_5 : decode cX5_comesAnswer 5 = .ok (.aload_n 0, 1) := by decide +kernel
theorem dX5_comesAnswer_6 : decode cX5_comesAnswer 6 = .ok (.getfield 22, 3) := by decide +kernel
theorem dX5_comesAnswer_9 : decode cX5_comesAnswer 9 = .ok (.iload_n 1, 1) := by decide +kernel
theorem dX5_comesAnswer_10 : decode cX5_comesAnswer 10 = .ok (.aload_n 0, 1) := by decide +kernel
theorem dX5_comesAnswer_11 : decode cX5_comesAnswer 11 = .ok (.getfield 22, 3) := by decide +kernel
theorem dX5_comesAnswer_14 : decode cX5_comesAnswer 14 = .ok (.iload_n 1, 1) := by decide +kernel
theorem dX5_comesAnswer_15 : decode cX5_comesAnswer 15 = .ok (.iaload, 1) := by decide +kernel
theorem dX5_comesAnswer_16 : decode cX5_comesAnswer 16 = .ok (.iconst 1, 1) := by decide +kernel
theorem dX5_comesAnswer_17 : decode cX5_comesAnswer 17 = .ok (.if_icmp .ne 7, 3) := by decide +kernel
theorem dX5_comesAnswer_20 : decode cX5_comesAnswer 20 = .ok (.iconst 2, 1) := by decide +kernel
theorem dX5_comesAnswer_21 : decode cX5_comesAnswer 21 = .ok (.goto 4, 3) := by decide +kernel
theorem dX5_comesAnswer_24 : decode cX5_comesAnswer 24 = .ok (.iconst 4, 1) := by decide +kernel
theorem dX5_comesAnswer_25 : decode cX5_comesAnswer 25 = .ok (.iastore, 1) := by decide +kernel
theorem dX5_comesAnswer_26 : decode cX5_comesAnswer 26 = .ok (.return_, 1) := by decide +kernel
theorem dX5_comesAnswer_27 : decode cX5_comesAnswer 27 = .ok (.iconst 0, 1) := by decide +kernel
theorem dX5_comesAnswer_28 : decode cX5_comesAnswer 28 = .ok (.istore 4, 2) := by decide +kernel
theorem dX5_comesAnswer_30 : decode cX5_comesAnswer 30 = .ok (.iload 4, 2) := by decide +kernel
theorem dX5_comesAnswer_32 : decode cX5_comesAnswer 32 = .ok (.bipush 6, 2) := by decide +kernel
theorem dX5_comesAnswer_34 : decode cX5_comesAnswer 34 = .ok (.if_icmp .ge 46, 3) := by decide +kernel
theorem dX5_comesAnswer_37 : decode cX5_comesAnswer 37 = .ok (.iload_n 3, 1) := by decide +kernel
theorem dX5_comesAnswer_38 : decode cX5_comesAnswer 38 = .ok (.iload 4, 2) := by decide +kernel
theorem dX5_comesAnswer_40 : decode cX5_comesAnswer 40 = .ok (.invokestatic 100, 3) := by decide +kernel
theorem dX5_comesAnswer_43 : decode cX5_comesAnswer 43 = .ok (.istore 5, 2) := by decide +kernel
theorem dX5_comesAnswer_45 : decode cX5_comesAnswer 45 = .ok (.iload 5, 2) := by decide +kernel
theorem dX5_comesAnswer_47 : decode cX5_comesAnswer 47 = .ok (.iconst (-1), 1) := by decide +kernel
theorem dX5_comesAnswer_48 : decode cX5_comesAnswer 48 = .ok (.if_icmp .eq 26, 3) := by decide +kernel
theorem dX5_comesAnswer_51 : decode cX5_comesAnswer 51 = .ok (.aload_n 0, 1) := by decide +kernel
theorem dX5_comesAnswer_52 : decode cX5_comesAnswer 52 = .ok (.getfield 16, 3) := by decide +kernel
theorem dX5_comesAnswer_55 : decode cX5_comesAnswer 55 = .ok (.bipush 6, 2) := by decide +kernel
theorem dX5_comesAnswer_57 : decode cX5_comesAnswer 57 = .ok (.iload_n 1, 1) := by decide +kernel
theorem dX5_comesAnswer_58 : decode cX5_comesAnswer 58 = .ok (.imul, 1) := by decide +kernel
theorem dX5_comesAnswer_59 : decode cX5_comesAnswer 59 = .ok (.iload 4, 2) := by decide +kernel
theorem dX5_comesAnswer_61 : decode cX5_comesAnswer 61 = .ok (.iadd, 1) := by decide +kernel
theorem dX5_comesAnswer_62 : decode cX5_comesAnswer 62 = .ok (.iload_n 2, 1) := by decide +kernel
theorem dX5_comesAnswer_63 : decode cX5_comesAnswer 63 = .ok (.iconst 2, 1) := by decide +kernel
theorem dX5_comesAnswer_64 : decode cX5_comesAnswer 64 = .ok (.if_icmp .ne 8, 3) := by decide +kernel
theorem dX5_comesAnswer_67 : decode cX5_comesAnswer 67 = .ok (.iload 5, 2) := by decide +kernel
theorem dX5_comesAnswer_69 : decode cX5_comesAnswer 69 = .ok (.goto 4, 3) := by decide +kernel
theorem dX5_comesAnswer_72 : decode cX5_comesAnswer 72 = .ok (.iconst (-1), 1) := by decide +kernel
theorem dX5_comesAnswer_73 : decode cX5_comesAnswer 73 = .ok (.iastore, 1) := by decide +kernel
theorem dX5_comesAnswer_74 : decode cX5_comesAnswer 74 = .ok (.iinc 4 1, 3) := by decide +kernel
theorem dX5_comesAnswer_77 : decode cX5_comesAnswer 77 = .ok (.goto (-47), 3) := by decide +kernel
theorem dX5_comesAnswer_80 : decode cX5_comesAnswer 80 = .ok (.aload_n 0, 1) := by decide +kernel
theorem dX5_comesAnswer_81 : decode cX5_comesAnswer 81 = .ok (.iload_n 1, 1) := by decide +kernel
theorem dX5_comesAnswer_82 : decode cX5_comesAnswer 82 = .ok (.invokevirtual 107, 3) := by decide +kernel
theorem dX5_comesAnswer_85 : decode cX5_comesAnswer 85 = .ok (.pop, 1) := by decide +kernel
theorem dX5_comesAnswer_86 : decode cX5_comesAnswer 86 = .ok (.return_, 1) := by decide +kernel
theorem dX5_comes_0 : decode cX5_comes 0 = .ok (.aload_n 0, 1) := by decide +kernel
theorem dX5_comes_1 : decode cX5_comes 1 = .ok (.getfield 47, 3) := by decide +kernel
theorem dX5_comes_4 : decode cX5_comes 4 = .ok (.iload_n 2, 1) := by decide +kernel
theorem dX5_comes_5 : decode cX5_comes 5 = .ok (.iaload, 1) := by decide +kernel
theorem dX5_comes_6 : decode cX5_comes 6 = .ok (.ifCond .ne 29, 3) := by decide +kernel
theorem dX5_comes_9 : decode cX5_comes 9 = .ok (.aload_n 0, 1) := by decide +kernel
theorem dX5_comes_10 : decode cX5_comes 10 = .ok (.iload_n 1, 1) := by decide +kernel
theorem dX5_comes_11 : decode cX5_comes 11 = .ok (.aload_n 0, 1) := by decide +kernel
theorem dX5_comes_12 : decode cX5_comes 12 = .ok (.getfield 50, 3) := by decide +kernel
theorem dX5_comes_15 : decode cX5_comes 15 = .ok (.iload_n 2, 1) := by decide +kernel
theorem dX5_comes_16 : decode cX5_comes 16 = .ok (.iaload, 1) := by decide +kernel
theorem dX5_comes_17 : decode cX5_comes 17 = .ok (.aload_n 0, 1) := by decide +kernel
theorem dX5_comes_18 : decode cX5_comes 18 = .ok (.getfield 53, 3) := by decide +kernel
theorem dX5_comes_21 : decode cX5_comes 21 = .ok (.iload_n 2, 1) := by decide +kernel
theorem dX5_comes_22 : decode cX5_comes 22 = .ok (.iaload, 1) := by decide +kernel
theorem dX5_comes_23 : decode cX5_comes 23 = .ok (.aload_n 0, 1) := by decide +kernel
theorem dX5_comes_24 : decode cX5_comes 24 = .ok (.getfield 56, 3) := by decide +kernel
theorem dX5_comes_27 : decode cX5_comes 27 = .ok (.iload_n 2, 1) := by decide +kernel
theorem dX5_comes_28 : decode cX5_comes 28 = .ok (.iaload, 1) := by decide +kernel
theorem dX5_comes_29 : decode cX5_comes 29 = .ok (.invokevirtual 114, 3) := by decide +kernel
theorem dX5_comes_32 : decode cX5_comes 32 = .ok (.goto 75, 3) := by decide +kernel
theorem dX5_comes_35 : decode cX5_comes 35 = .ok (.aload_n 0, 1) := by decide +kernel
theorem dX5_comes_36 : decode cX5_comes 36 = .ok (.getfield 47, 3) := by decide +kernel
theorem dX5_comes_39 : decode cX5_comes 39 = .ok (.iload_n 2, 1) := by decide +kernel
theorem dX5_comes_40 : decode cX5_comes 40 = .ok (.iaload, 1) := by decide +kernel
theorem dX5_comes_41 : decode cX5_comes 41 = .ok (.iconst 4, 1) := by decide +kernel
theorem dX5_comes_42 : decode cX5_comes 42 = .ok (.if_icmp .ne 13, 3) := by decide +kernel
theorem dX5_comes_45 : decode cX5_comes 45 = .ok (.aload_n 0, 1) := by decide +kernel
theorem dX5_comes_46 : decode cX5_comes 46 = .ok (.getfield 22, 3) := by decide +kernel
theorem dX5_comes_49 : decode cX5_comes 49 = .ok (.iload_n 1, 1) := by decide +kernel
theorem dX5_comes_50 : decode cX5_comes 50 = .ok (.iconst 0, 1) := by decide +kernel
theorem dX5_comes_51 : decode cX5_comes 51 = .ok (.iastore, 1) := by decide +kernel
theorem dX5_comes_52 : decode cX5_comes 52 = .ok (.goto 55, 3) := by decide +kernel
theorem dX5_comes_55 : decode cX5_comes 55 = .ok (.aload_n 0, 1) := by decide +kernel
theorem dX5_comes_56 : decode cX5_comes 56 = .ok (.getfield 22, 3) := by decide +kernel
theorem dX5_comes_59 : decode cX5_comes 59 = .ok (.iload_n 1, 1) := by decide +kernel
theorem dX5_comes_60 : decode cX5_comes 60 = .ok (.iaload, 1) := by decide +kernel
theorem dX5_comes_61 : decode cX5_comes 61 = .ok (.iconst 1, 1) := by decide +kernel
theorem dX5_comes_62 : decode cX5_comes 62 = .ok (.if_icmp .eq 13, 3) := by decide +kernel
theorem dX5_comes_65 : decode cX5_comes 65 = .ok (.aload_n 0, 1) := by decide +kernel
theorem dX5_comes_66 : decode cX5_comes 66 = .ok (.getfield 22, 3) := by decide +kernel
theorem dX5_comes_69 : decode cX5_comes 69 = .ok (.iload_n 1, 1) := by decide +kernel
theorem dX5_comes_70 : decode cX5_comes 70 = .ok (.iaload, 1) := by decide +kernel
theorem dX5_comes_71 : decode cX5_comes 71 = .ok (.iconst 3, 1) := by decide +kernel
theorem dX5_comes_72 : decode cX5_comes 72 = .ok (.if_icmp .ne 35, 3) := by decide +kernel
theorem dX5_comes_75 : decode cX5_comes 75 = .ok (.aload_n 0, 1) := by decide +kernel
theorem dX5_comes_76 : decode cX5_comes 76 = .ok (.getfield 50, 3) := by decide +kernel
theorem dX5_comes_79 : decode cX5_comes 79 = .ok (.iload_n 2, 1) := by decide +kernel
theorem dX5_comes_80 : decode cX5_comes 80 = .ok (.iaload, 1) := by decide +kernel
theorem dX5_comes_81 : decode cX5_comes 81 = .ok (.aload_n 0, 1) := by decide +kernel
theorem dX5_comes_82 : decode cX5_comes 82 = .ok (.getfield 25, 3) := by decide +kernel
theorem dX5_comes_85 : decode cX5_comes 85 = .ok (.iload_n 1, 1) := by decide +kernel
theorem dX5_comes_86 : decode cX5_comes 86 = .ok (.iaload, 1) := by decide +kernel
theorem dX5_comes_87 : decode cX5_comes 87 = .ok (.if_icmp .ne 20, 3) := by decide +kernel
theorem dX5_comes_90 : decode cX5_comes 90 = .ok (.aload_n 0, 1) := by decide +kernel
theorem dX5_comes_91 : decode cX5_comes 91 = .ok (.iload_n 1, 1) := by decide +kernel
theorem dX5_comes_92 : decode cX5_comes 92 = .ok (.aload_n 0, 1) := by decide +kernel
theorem dX5_comes_93 : decode cX5_comes 93 = .ok (.getfield 47, 3) := by decide +kernel
theorem dX5_comes_96 : decode cX5_comes 96 = .ok (.iload_n 2, 1) := by decide +kernel
theorem dX5_comes_97 : decode cX5_comes 97 = .ok (.iaload, 1) := by decide +kernel
theorem dX5_comes_98 : decode cX5_comes 98 = .ok (.aload_n 0, 1) := by decide +kernel
theorem dX5_comes_99 : decode cX5_comes 99 = .ok (.getfield 56, 3) := by decide +kernel
theorem dX5_comes_102 : decode cX5_comes 102 = .ok (.iload_n 2, 1) := by decide +kernel
theorem dX5_comes_103 : decode cX5_comes 103 = .ok (.iaload, 1) := by decide +kernel
theorem dX5_comes_104 : decode cX5_comes 104 = .ok (.invokevirtual 117, 3) := by decide +kernel
theorem dX5_comes_107 : decode cX5_comes 107 = .ok (.return_, 1) := by decide +kernel
theorem dX5_takes_0 : decode cX5_takes 0 = .ok (.sipush 1024, 3) := by decide +kernel
theorem dX5_takes_3 : decode cX5_takes 3 = .ok (.iload_n 1, 1) := by decide +kernel
theorem dX5_takes_4 : decode cX5_takes 4 = .ok (.imul, 1) := by decide +kernel
theorem dX5_takes_5 : decode cX5_takes 5 = .ok (.aload_n 0, 1) := by decide +kernel
theorem dX5_takes_6 : decode cX5_takes 6 = .ok (.getfield 41, 3) := by decide +kernel
theorem dX5_takes_9 : decode cX5_takes 9 = .ok (.iload_n 1, 1) := by decide +kernel
theorem dX5_takes_10 : decode cX5_takes 10 = .ok (.iaload, 1) := by decide +kernel
theorem dX5_takes_11 : decode cX5_takes 11 = .ok (.iadd, 1) := by decide +kernel
theorem dX5_takes_12 : decode cX5_takes 12 = .ok (.istore_n 2, 1) := by decide +kernel
theorem dX5_takes_13 : decode cX5_takes 13 = .ok (.aload_n 0, 1) := by decide +kernel
theorem dX5_takes_14 : decode cX5_takes 14 = .ok (.getfield 41, 3) := by decide +kernel
theorem dX5_takes_17 : decode cX5_takes 17 = .ok (.iload_n 1, 1) := by decide +kernel
theorem dX5_takes_18 : decode cX5_takes 18 = .ok (.aload_n 0, 1) := by decide +kernel
theorem dX5_takes_19 : decode cX5_takes 19 = .ok (.getfield 41, 3) := by decide +kernel
theorem dX5_takes_22 : decode cX5_takes 22 = .ok (.iload_n 1, 1) := by decide +kernel
theorem dX5_takes_23 : decode cX5_takes 23 = .ok (.iaload, 1) := by decide +kernel
theorem dX5_takes_24 : decode cX5_takes 24 = .ok (.iconst 1, 1) := by decide +kernel
theorem dX5_takes_25 : decode cX5_takes 25 = .ok (.iadd, 1) := by decide +kernel
theorem dX5_takes_26 : decode cX5_takes 26 = .ok (.sipush 1024, 3) := by decide +kernel
theorem dX5_takes_29 : decode cX5_takes 29 = .ok (.irem, 1) := by decide +kernel
theorem dX5_takes_30 : decode cX5_takes 30 = .ok (.iastore, 1) := by decide +kernel
theorem dX5_takes_31 : decode cX5_takes 31 = .ok (.aload_n 0, 1) := by decide +kernel
theorem dX5_takes_32 : decode cX5_takes 32 = .ok (.getfield 44, 3) := by decide +kernel
theorem dX5_takes_35 : decode cX5_takes 35 = .ok (.iload_n 1, 1) := by decide +kernel
theorem dX5_takes_36 : decode cX5_takes 36 = .ok (.dup2, 1) := by decide +kernel
theorem dX5_takes_37 : decode cX5_takes 37 = .ok (.iaload, 1) := by decide +kernel
theorem dX5_takes_38 : decode cX5_takes 38 = .ok (.iconst 1, 1) := by decide +kernel
theorem dX5_takes_39 : decode cX5_takes 39 = .ok (.isub, 1) := by decide +kernel
theorem dX5_takes_40 : decode cX5_takes 40 = .ok (.iastore, 1) := by decide +kernel
theorem dX5_takes_41 : decode cX5_takes 41 = .ok (.iload_n 2, 1) := by decide +kernel
theorem dX5_takes_42 : decode cX5_takes 42 = .ok (.ireturn, 1) := by decide +kernel
theorem dX5_open_0 : decode cX5_open 0 = .ok (.aload_n 0, 1) := by decide +kernel
theorem dX5_open_1 : decode cX5_open 1 = .ok (.iload_n 1, 1) := by decide +kernel
theorem dX5_open_2 : decode cX5_open 2 = .ok (.invokestatic 85, 3) := by decide +kernel
theorem dX5_open_5 : decode cX5_open 5 = .ok (.ifCond .ne 7, 3) := by decide +kernel
theorem dX5_open_8 : decode cX5_open 8 = .ok (.iconst 1, 1) := by decide +kernel
theorem dX5_open_9 : decode cX5_open 9 = .ok (.goto 17, 3) := by decide +kernel
theorem dX5_open_12 : decode cX5_open 12 = .ok (.aload_n 0, 1) := by decide +kernel
theorem dX5_open_13 : decode cX5_open 13 = .ok (.getfield 22, 3) := by decide +kernel
theorem dX5_open_16 : decode cX5_open 16 = .ok (.iload_n 1, 1) := by decide +kernel
theorem dX5_open_17 : decode cX5_open 17 = .ok (.iaload, 1) := by decide +kernel
theorem dX5_open_18 : decode cX5_open 18 = .ok (.ifCond .eq 7, 3) := by decide +kernel
theorem dX5_open_21 : decode cX5_open 21 = .ok (.iconst 2, 1) := by decide +kernel
theorem dX5_open_22 : decode cX5_open 22 = .ok (.goto 4, 3) := by decide +kernel
theorem dX5_open_25 : decode cX5_open 25 = .ok (.iconst 0, 1) := by decide +kernel
theorem dX5_open_26 : decode cX5_open 26 = .ok (.putfield 77, 3) := by decide +kernel
theorem dX5_open_29 : decode cX5_open 29 = .ok (.aload_n 0, 1) := by decide +kernel
theorem dX5_open_30 : decode cX5_open 30 = .ok (.getfield 77, 3) := by decide +kernel
theorem dX5_open_33 : decode cX5_open 33 = .ok (.ifCond .le 5, 3) := by decide +kernel
theorem dX5_open_36 : decode cX5_open 36 = .ok (.iconst 0, 1) := by decide +kernel
theorem dX5_open_37 : decode cX5_open 37 = .ok (.ireturn, 1) := by decide +kernel
theorem dX5_open_38 : decode cX5_open 38 = .ok (.bipush 6, 2) := by decide +kernel
theorem dX5_open_40 : decode cX5_open 40 = .ok (.iload_n 1, 1) := by decide +kernel
theorem dX5_open_41 : decode cX5_open 41 = .ok (.imul, 1) := by decide +kernel
theorem dX5_open_42 : decode cX5_open 42 = .ok (.istore_n 2, 1) := by decide +kernel
theorem dX5_open_43 : decode cX5_open 43 = .ok (.iload_n 2, 1) := by decide +kernel
theorem dX5_open_44 : decode cX5_open 44 = .ok (.bipush 6, 2) := by decide +kernel
theorem dX5_open_46 : decode cX5_open 46 = .ok (.iload_n 1, 1) := by decide +kernel
theorem dX5_open_47 : decode cX5_open 47 = .ok (.imul, 1) := by decide +kernel
theorem dX5_open_48 : decode cX5_open 48 = .ok (.bipush 6, 2) := by decide +kernel
theorem dX5_open_50 : decode cX5_open 50 = .ok (.iadd, 1) := by decide +kernel
theorem dX5_open_51 : decode cX5_open 51 = .ok (.if_icmp .ge 21, 3) := by decide +kernel
theorem dX5_open_54 : decode cX5_open 54 = .ok (.aload_n 0, 1) := by decide +kernel
theorem dX5_open_55 : decode cX5_open 55 = .ok (.getfield 16, 3) := by decide +kernel
theorem dX5_open_58 : decode cX5_open 58 = .ok (.iload_n 2, 1) := by decide +kernel
theorem dX5_open_59 : decode cX5_open 59 = .ok (.aload_n 0, 1) := by decide +kernel
theorem dX5_open_60 : decode cX5_open 60 = .ok (.getfield 9, 3) := by decide +kernel
theorem dX5_open_63 : decode cX5_open 63 = .ok (.iload_n 2, 1) := by decide +kernel
theorem dX5_open_64 : decode cX5_open 64 = .ok (.iaload, 1) := by decide +kernel
theorem dX5_open_65 : decode cX5_open 65 = .ok (.iastore, 1) := by decide +kernel
theorem dX5_open_66 : decode cX5_open 66 = .ok (.iinc 2 1, 3) := by decide +kernel
theorem dX5_open_69 : decode cX5_open 69 = .ok (.goto (-26), 3) := by decide +kernel
theorem dX5_open_72 : decode cX5_open 72 = .ok (.aload_n 0, 1) := by decide +kernel
theorem dX5_open_73 : decode cX5_open 73 = .ok (.getfield 22, 3) := by decide +kernel
theorem dX5_open_76 : decode cX5_open 76 = .ok (.iload_n 1, 1) := by decide +kernel
theorem dX5_open_77 : decode cX5_open 77 = .ok (.iconst 1, 1) := by decide +kernel
theorem dX5_open_78 : decode cX5_open 78 = .ok (.iastore, 1) := by decide +kernel
theorem dX5_open_79 : decode cX5_open 79 = .ok (.aload_n 0, 1) := by decide +kernel
theorem dX5_open_80 : decode cX5_open 80 = .ok (.getfield 28, 3) := by decide +kernel
theorem dX5_open_83 : decode cX5_open 83 = .ok (.iload_n 1, 1) := by decide +kernel
theorem dX5_open_84 : decode cX5_open 84 = .ok (.iconst 0, 1) := by decide +kernel
theorem dX5_open_85 : decode cX5_open 85 = .ok (.iastore, 1) := by decide +kernel
theorem dX5_open_86 : decode cX5_open 86 = .ok (.aload_n 0, 1) := by decide +kernel
theorem dX5_open_87 : decode cX5_open 87 = .ok (.iload_n 1, 1) := by decide +kernel
theorem dX5_open_88 : decode cX5_open 88 = .ok (.invokevirtual 107, 3) := by decide +kernel
theorem dX5_open_91 : decode cX5_open 91 = .ok (.pop, 1) := by decide +kernel
theorem dX5_open_92 : decode cX5_open 92 = .ok (.aload_n 0, 1) := by decide +kernel
theorem dX5_open_93 : decode cX5_open 93 = .ok (.getfield 25, 3) := by decide +kernel
theorem dX5_open_96 : decode cX5_open 96 = .ok (.iload_n 1, 1) := by decide +kernel
theorem dX5_open_97 : decode cX5_open 97 = .ok (.iaload, 1) := by decide +kernel
theorem dX5_open_98 : decode cX5_open 98 = .ok (.ireturn, 1) := by decide +kernel
theorem dX5_close_0 : decode cX5_close 0 = .ok (.aload_n 0, 1) := by decide +kernel
theorem dX5_close_1 : decode cX5_close 1 = .ok (.iload_n 1, 1) := by decide +kernel
theorem dX5_close_2 : decode cX5_close 2 = .ok (.invokestatic 85, 3) := by decide +kernel
theorem dX5_close_5 : decode cX5_close 5 = .ok (.ifCond .ne 7, 3) := by decide +kernel
theorem dX5_close_8 : decode cX5_close 8 = .ok (.iconst 1, 1) := by decide +kernel
theorem dX5_close_9 : decode cX5_close 9 = .ok (.goto 17, 3) := by decide +kernel
theorem dX5_close_12 : decode cX5_close 12 = .ok (.aload_n 0, 1) := by decide +kernel
theorem dX5_close_13 : decode cX5_close 13 = .ok (.getfield 22, 3) := by decide +kernel
theorem dX5_close_16 : decode cX5_close 16 = .ok (.iload_n 1, 1) := by decide +kernel
theorem dX5_close_17 : decode cX5_close 17 = .ok (.iaload, 1) := by decide +kernel
theorem dX5_close_18 : decode cX5_close 18 = .ok (.ifCond .ne 7, 3) := by decide +kernel
theorem dX5_close_21 : decode cX5_close 21 = .ok (.iconst 2, 1) := by decide +kernel
theorem dX5_close_22 : decode cX5_close 22 = .ok (.goto 4, 3) := by decide +kernel
theorem dX5_close_25 : decode cX5_close 25 = .ok (.iconst 0, 1) := by decide +kernel
theorem dX5_close_26 : decode cX5_close 26 = .ok (.putfield 77, 3) := by decide +kernel
theorem dX5_close_29 : decode cX5_close 29 = .ok (.aload_n 0, 1) := by decide +kernel
theorem dX5_close_30 : decode cX5_close 30 = .ok (.getfield 77, 3) := by decide +kernel
theorem dX5_close_33 : decode cX5_close 33 = .ok (.ifCond .le 5, 3) := by decide +kernel
theorem dX5_close_36 : decode cX5_close 36 = .ok (.iconst 0, 1) := by decide +kernel
theorem dX5_close_37 : decode cX5_close 37 = .ok (.ireturn, 1) := by decide +kernel
theorem dX5_close_38 : decode cX5_close 38 = .ok (.aload_n 0, 1) := by decide +kernel
theorem dX5_close_39 : decode cX5_close 39 = .ok (.getfield 22, 3) := by decide +kernel
theorem dX5_close_42 : decode cX5_close 42 = .ok (.iload_n 1, 1) := by decide +kernel
theorem dX5_close_43 : decode cX5_close 43 = .ok (.iaload, 1) := by decide +kernel
theorem dX5_close_44 : decode cX5_close 44 = .ok (.istore_n 2, 1) := by decide +kernel
theorem dX5_close_45 : decode cX5_close 45 = .ok (.aload_n 0, 1) := by decide +kernel
theorem dX5_close_46 : decode cX5_close 46 = .ok (.iload_n 1, 1) := by decide +kernel
theorem dX5_close_47 : decode cX5_close 47 = .ok (.iconst 4, 1) := by decide +kernel
theorem dX5_close_48 : decode cX5_close 48 = .ok (.iconst 0, 1) := by decide +kernel
theorem dX5_close_49 : decode cX5_close 49 = .ok (.iconst 0, 1) := by decide +kernel
theorem dX5_close_50 : decode cX5_close 50 = .ok (.invokevirtual 96, 3) := by decide +kernel
theorem dX5_close_53 : decode cX5_close 53 = .ok (.aload_n 0, 1) := by decide +kernel
theorem dX5_close_54 : decode cX5_close 54 = .ok (.getfield 22, 3) := by decide +kernel
theorem dX5_close_57 : decode cX5_close 57 = .ok (.iload_n 1, 1) := by decide +kernel
theorem dX5_close_58 : decode cX5_close 58 = .ok (.iconst 0, 1) := by decide +kernel
theorem dX5_close_59 : decode cX5_close 59 = .ok (.iastore, 1) := by decide +kernel
theorem dX5_close_60 : decode cX5_close 60 = .ok (.iload_n 2, 1) := by decide +kernel
theorem dX5_close_61 : decode cX5_close 61 = .ok (.ireturn, 1) := by decide +kernel
theorem dX5_asksFrame_0 : decode cX5_asksFrame 0 = .ok (.aload_n 0, 1) := by decide +kernel
theorem dX5_asksFrame_1 : decode cX5_asksFrame 1 = .ok (.iload_n 1, 1) := by decide +kernel
theorem dX5_asksFrame_2 : decode cX5_asksFrame 2 = .ok (.invokestatic 85, 3) := by decide +kernel
theorem dX5_asksFrame_5 : decode cX5_asksFrame 5 = .ok (.ifCond .ne 7, 3) := by decide +kernel
theorem dX5_asksFrame_8 : decode cX5_asksFrame 8 = .ok (.iconst 1, 1) := by decide +kernel
theorem dX5_asksFrame_9 : decode cX5_asksFrame 9 = .ok (.goto 17, 3) := by decide +kernel
theorem dX5_asksFrame_12 : decode cX5_asksFrame 12 = .ok (.aload_n 0, 1) := by decide +kernel
theorem dX5_asksFrame_13 : decode cX5_asksFrame 13 = .ok (.getfield 44, 3) := by decide +kernel
theorem dX5_asksFrame_16 : decode cX5_asksFrame 16 = .ok (.iload_n 1, 1) := by decide +kernel
theorem dX5_asksFrame_17 : decode cX5_asksFrame 17 = .ok (.iaload, 1) := by decide +kernel
theorem dX5_asksFrame_18 : decode cX5_asksFrame 18 = .ok (.ifCond .ne 7, 3) := by decide +kernel
theorem dX5_asksFrame_21 : decode cX5_asksFrame 21 = .ok (.iconst 2, 1) := by decide +kernel
theorem dX5_asksFrame_22 : decode cX5_asksFrame 22 = .ok (.goto 4, 3) := by decide +kernel
theorem dX5_asksFrame_25 : decode cX5_asksFrame 25 = .ok (.iconst 0, 1) := by decide +kernel
theorem dX5_asksFrame_26 : decode cX5_asksFrame 26 = .ok (.putfield 77, 3) := by decide +kernel
theorem dX5_asksFrame_29 : decode cX5_asksFrame 29 = .ok (.aload_n 0, 1) := by decide +kernel
theorem dX5_asksFrame_30 : decode cX5_asksFrame 30 = .ok (.getfield 77, 3) := by decide +kernel
theorem dX5_asksFrame_33 : decode cX5_asksFrame 33 = .ok (.ifCond .ne 7, 3) := by decide +kernel
theorem dX5_asksFrame_36 : decode cX5_asksFrame 36 = .ok (.iconst 1, 1) := by decide +kernel
theorem dX5_asksFrame_37 : decode cX5_asksFrame 37 = .ok (.goto 4, 3) := by decide +kernel
theorem dX5_asksFrame_40 : decode cX5_asksFrame 40 = .ok (.iconst 0, 1) := by decide +kernel
theorem dX5_asksFrame_41 : decode cX5_asksFrame 41 = .ok (.ireturn, 1) := by decide +kernel
theorem dX5_deliver_0 : decode cX5_deliver 0 = .ok (.aload_n 0, 1) := by decide +kernel
theorem dX5_deliver_1 : decode cX5_deliver 1 = .ok (.iload_n 1, 1) := by decide +kernel
theorem dX5_deliver_2 : decode cX5_deliver 2 = .ok (.invokevirtual 120, 3) := by decide +kernel
theorem dX5_deliver_5 : decode cX5_deliver 5 = .ok (.ifCond .ne 5, 3) := by decide +kernel
theorem dX5_deliver_8 : decode cX5_deliver 8 = .ok (.iconst 0, 1) := by decide +kernel
theorem dX5_deliver_9 : decode cX5_deliver 9 = .ok (.ireturn, 1) := by decide +kernel
theorem dX5_deliver_10 : decode cX5_deliver 10 = .ok (.aload_n 0, 1) := by decide +kernel
theorem dX5_deliver_11 : decode cX5_deliver 11 = .ok (.iload_n 1, 1) := by decide +kernel
theorem dX5_deliver_12 : decode cX5_deliver 12 = .ok (.invokevirtual 123, 3) := by decide +kernel
theorem dX5_deliver_15 : decode cX5_deliver 15 = .ok (.istore_n 2, 1) := by decide +kernel
theorem dX5_deliver_16 : decode cX5_deliver 16 = .ok (.aload_n 0, 1) := by decide +kernel
theorem dX5_deliver_17 : decode cX5_deliver 17 = .ok (.iconst 1, 1) := by decide +kernel
theorem dX5_deliver_18 : decode cX5_deliver 18 = .ok (.iload_n 1, 1) := by decide +kernel
theorem dX5_deliver_19 : decode cX5_deliver 19 = .ok (.isub, 1) := by decide +kernel
theorem dX5_deliver_20 : decode cX5_deliver 20 = .ok (.iload_n 2, 1) := by decide +kernel
theorem dX5_deliver_21 : decode cX5_deliver 21 = .ok (.invokevirtual 126, 3) := by decide +kernel
theorem dX5_deliver_24 : decode cX5_deliver 24 = .ok (.aload_n 0, 1) := by decide +kernel
theorem dX5_deliver_25 : decode cX5_deliver 25 = .ok (.getfield 47, 3) := by decide +kernel
theorem dX5_deliver_28 : decode cX5_deliver 28 = .ok (.iload_n 2, 1) := by decide +kernel
theorem dX5_deliver_29 : decode cX5_deliver 29 = .ok (.iaload, 1) := by decide +kernel
theorem dX5_deliver_30 : decode cX5_deliver 30 = .ok (.ireturn, 1) := by decide +kernel
theorem dX5_lose_0 : decode cX5_lose 0 = .ok (.aload_n 0, 1) := by decide +kernel
theorem dX5_lose_1 : decode cX5_lose 1 = .ok (.iload_n 1, 1) := by decide +kernel
theorem dX5_lose_2 : decode cX5_lose 2 = .ok (.invokevirtual 120, 3) := by decide +kernel
theorem dX5_lose_5 : decode cX5_lose 5 = .ok (.ifCond .ne 5, 3) := by decide +kernel
theorem dX5_lose_8 : decode cX5_lose 8 = .ok (.iconst 0, 1) := by decide +kernel
theorem dX5_lose_9 : decode cX5_lose 9 = .ok (.ireturn, 1) := by decide +kernel
theorem dX5_lose_10 : decode cX5_lose 10 = .ok (.aload_n 0, 1) := by decide +kernel
theorem dX5_lose_11 : decode cX5_lose 11 = .ok (.getfield 38, 3) := by decide +kernel
theorem dX5_lose_14 : decode cX5_lose 14 = .ok (.iload_n 1, 1) := by decide +kernel
theorem dX5_lose_15 : decode cX5_lose 15 = .ok (.dup2, 1) := by decide +kernel
theorem dX5_lose_16 : decode cX5_lose 16 = .ok (.iaload, 1) := by decide +kernel
theorem dX5_lose_17 : decode cX5_lose 17 = .ok (.iconst 1, 1) := by decide +kernel
theorem dX5_lose_18 : decode cX5_lose 18 = .ok (.iadd, 1) := by decide +kernel
theorem dX5_lose_19 : decode cX5_lose 19 = .ok (.iastore, 1) := by decide +kernel
theorem dX5_lose_20 : decode cX5_lose 20 = .ok (.aload_n 0, 1) := by decide +kernel
theorem dX5_lose_21 : decode cX5_lose 21 = .ok (.getfield 47, 3) := by decide +kernel
theorem dX5_lose_24 : decode cX5_lose 24 = .ok (.aload_n 0, 1) := by decide +kernel
theorem dX5_lose_25 : decode cX5_lose 25 = .ok (.iload_n 1, 1) := by decide +kernel
theorem dX5_lose_26 : decode cX5_lose 26 = .ok (.invokevirtual 123, 3) := by decide +kernel
theorem dX5_lose_29 : decode cX5_lose 29 = .ok (.iaload, 1) := by decide +kernel
theorem dX5_lose_30 : decode cX5_lose 30 = .ok (.ireturn, 1) := by decide +kernel
theorem dX5_loop_0 : decode cX5_loop 0 = .ok (.aload_n 0, 1) := by decide +kernel
theorem dX5_loop_1 : decode cX5_loop 1 = .ok (.iload_n 1, 1) := by decide +kernel
theorem dX5_loop_2 : decode cX5_loop 2 = .ok (.invokevirtual 120, 3) := by decide +kernel
theorem dX5_loop_5 : decode cX5_loop 5 = .ok (.ifCond .ne 5, 3) := by decide +kernel
theorem dX5_loop_8 : decode cX5_loop 8 = .ok (.iconst 0, 1) := by decide +kernel
theorem dX5_loop_9 : decode cX5_loop 9 = .ok (.ireturn, 1) := by decide +kernel
theorem dX5_loop_10 : decode cX5_loop 10 = .ok (.aload_n 0, 1) := by decide +kernel
theorem dX5_loop_11 : decode cX5_loop 11 = .ok (.getfield 38, 3) := by decide +kernel
theorem dX5_loop_14 : decode cX5_loop 14 = .ok (.iload_n 1, 1) := by decide +kernel
theorem dX5_loop_15 : decode cX5_loop 15 = .ok (.dup2, 1) := by decide +kernel
theorem dX5_loop_16 : decode cX5_loop 16 = .ok (.iaload, 1) := by decide +kernel
theorem dX5_loop_17 : decode cX5_loop 17 = .ok (.iconst 1, 1) := by decide +kernel
theorem dX5_loop_18 : decode cX5_loop 18 = .ok (.iadd, 1) := by decide +kernel
theorem dX5_loop_19 : decode cX5_loop 19 = .ok (.iastore, 1) := by decide +kernel
theorem dX5_loop_20 : decode cX5_loop 20 = .ok (.aload_n 0, 1) := by decide +kernel
theorem dX5_loop_21 : decode cX5_loop 21 = .ok (.iload_n 1, 1) := by decide +kernel
theorem dX5_loop_22 : decode cX5_loop 22 = .ok (.invokevirtual 123, 3) := by decide +kernel
theorem dX5_loop_25 : decode cX5_loop 25 = .ok (.istore_n 2, 1) := by decide +kernel
theorem dX5_loop_26 : decode cX5_loop 26 = .ok (.aload_n 0, 1) := by decide +kernel
theorem dX5_loop_27 : decode cX5_loop 27 = .ok (.iload_n 1, 1) := by decide +kernel
theorem dX5_loop_28 : decode cX5_loop 28 = .ok (.iload_n 2, 1) := by decide +kernel
theorem dX5_loop_29 : decode cX5_loop 29 = .ok (.invokevirtual 126, 3) := by decide +kernel
theorem dX5_loop_32 : decode cX5_loop 32 = .ok (.aload_n 0, 1) := by decide +kernel
theorem dX5_loop_33 : decode cX5_loop 33 = .ok (.getfield 47, 3) := by decide +kernel
theorem dX5_loop_36 : decode cX5_loop 36 = .ok (.iload_n 2, 1) := by decide +kernel
theorem dX5_loop_37 : decode cX5_loop 37 = .ok (.iaload, 1) := by decide +kernel
theorem dX5_loop_38 : decode cX5_loop 38 = .ok (.ireturn, 1) := by decide +kernel
theorem dX5_goesBy_0 : decode cX5_goesBy 0 = .ok (.aload_n 0, 1) := by decide +kernel
theorem dX5_goesBy_1 : decode cX5_goesBy 1 = .ok (.getfield 22, 3) := by decide +kernel
theorem dX5_goesBy_4 : decode cX5_goesBy 4 = .ok (.iload_n 1, 1) := by decide +kernel
theorem dX5_goesBy_5 : decode cX5_goesBy 5 = .ok (.iaload, 1) := by decide +kernel
theorem dX5_goesBy_6 : decode cX5_goesBy 6 = .ok (.ifCond .eq 13, 3) := by decide +kernel
theorem dX5_goesBy_9 : decode cX5_goesBy 9 = .ok (.aload_n 0, 1) := by decide +kernel
theorem dX5_goesBy_10 : decode cX5_goesBy 10 = .ok (.getfield 22, 3) := by decide +kernel
theorem dX5_goesBy_13 : decode cX5_goesBy 13 = .ok (.iload_n 1, 1) := by decide +kernel
theorem dX5_goesBy_14 : decode cX5_goesBy 14 = .ok (.iaload, 1) := by decide +kernel
theorem dX5_goesBy_15 : decode cX5_goesBy 15 = .ok (.iconst 4, 1) := by decide +kernel
theorem dX5_goesBy_16 : decode cX5_goesBy 16 = .ok (.if_icmp .ne 5, 3) := by decide +kernel
theorem dX5_goesBy_19 : decode cX5_goesBy 19 = .ok (.iconst 0, 1) := by decide +kernel
theorem dX5_goesBy_20 : decode cX5_goesBy 20 = .ok (.ireturn, 1) := by decide +kernel
theorem dX5_goesBy_21 : decode cX5_goesBy 21 = .ok (.aload_n 0, 1) := by decide +kernel
theorem dX5_goesBy_22 : decode cX5_goesBy 22 = .ok (.getfield 31, 3) := by decide +kernel
theorem dX5_goesBy_25 : decode cX5_goesBy 25 = .ok (.iload_n 1, 1) := by decide +kernel
theorem dX5_goesBy_26 : decode cX5_goesBy 26 = .ok (.dup2, 1) := by decide +kernel
theorem dX5_goesBy_27 : decode cX5_goesBy 27 = .ok (.iaload, 1) := by decide +kernel
theorem dX5_goesBy_28 : decode cX5_goesBy 28 = .ok (.iconst 1, 1) := by decide +kernel
theorem dX5_goesBy_29 : decode cX5_goesBy 29 = .ok (.isub, 1) := by decide +kernel
theorem dX5_goesBy_30 : decode cX5_goesBy 30 = .ok (.iastore, 1) := by decide +kernel
theorem dX5_goesBy_31 : decode cX5_goesBy 31 = .ok (.aload_n 0, 1) := by decide +kernel
theorem dX5_goesBy_32 : decode cX5_goesBy 32 = .ok (.getfield 31, 3) := by decide +kernel
theorem dX5_goesBy_35 : decode cX5_goesBy 35 = .ok (.iload_n 1, 1) := by decide +kernel
theorem dX5_goesBy_36 : decode cX5_goesBy 36 = .ok (.iaload, 1) := by decide +kernel
theorem dX5_goesBy_37 : decode cX5_goesBy 37 = .ok (.ifCond .le 5, 3) := by decide +kernel
theorem dX5_goesBy_40 : decode cX5_goesBy 40 = .ok (.iconst 0, 1) := by decide +kernel
theorem dX5_goesBy_41 : decode cX5_goesBy 41 = .ok (.ireturn, 1) := by decide +kernel
theorem dX5_goesBy_42 : decode cX5_goesBy 42 = .ok (.aload_n 0, 1) := by decide +kernel
theorem dX5_goesBy_43 : decode cX5_goesBy 43 = .ok (.getfield 22, 3) := by decide +kernel
theorem dX5_goesBy_46 : decode cX5_goesBy 46 = .ok (.iload_n 1, 1) := by decide +kernel
theorem dX5_goesBy_47 : decode cX5_goesBy 47 = .ok (.aload_n 0, 1) := by decide +kernel
theorem dX5_goesBy_48 : decode cX5_goesBy 48 = .ok (.getfield 22, 3) := by decide +kernel
theorem dX5_goesBy_51 : decode cX5_goesBy 51 = .ok (.iload_n 1, 1) := by decide +kernel
theorem dX5_goesBy_52 : decode cX5_goesBy 52 = .ok (.iaload, 1) := by decide +kernel
theorem dX5_goesBy_53 : decode cX5_goesBy 53 = .ok (.iconst 2, 1) := by decide +kernel
theorem dX5_goesBy_54 : decode cX5_goesBy 54 = .ok (.if_icmp .ne 7, 3) := by decide +kernel
theorem dX5_goesBy_57 : decode cX5_goesBy 57 = .ok (.iconst 1, 1) := by decide +kernel
theorem dX5_goesBy_58 : decode cX5_goesBy 58 = .ok (.goto 9, 3) := by decide +kernel
theorem dX5_goesBy_61 : decode cX5_goesBy 61 = .ok (.aload_n 0, 1) := by decide +kernel
theorem dX5_goesBy_62 : decode cX5_goesBy 62 = .ok (.getfield 22, 3) := by decide +kernel
theorem dX5_goesBy_65 : decode cX5_goesBy 65 = .ok (.iload_n 1, 1) := by decide +kernel
theorem dX5_goesBy_66 : decode cX5_goesBy 66 = .ok (.iaload, 1) := by decide +kernel
theorem dX5_goesBy_67 : decode cX5_goesBy 67 = .ok (.iastore, 1) := by decide +kernel
theorem dX5_goesBy_68 : decode cX5_goesBy 68 = .ok (.aload_n 0, 1) := by decide +kernel
theorem dX5_goesBy_69 : decode cX5_goesBy 69 = .ok (.iload_n 1, 1) := by decide +kernel
theorem dX5_goesBy_70 : decode cX5_goesBy 70 = .ok (.invokevirtual 107, 3) := by decide +kernel
theorem dX5_goesBy_73 : decode cX5_goesBy 73 = .ok (.ifCond .eq 7, 3) := by decide +kernel
theorem dX5_goesBy_76 : decode cX5_goesBy 76 = .ok (.iconst 1, 1) := by decide +kernel
theorem dX5_goesBy_77 : decode cX5_goesBy 77 = .ok (.goto 4, 3) := by decide +kernel
theorem dX5_goesBy_80 : decode cX5_goesBy 80 = .ok (.iconst 0, 1) := by decide +kernel
theorem dX5_goesBy_81 : decode cX5_goesBy 81 = .ok (.ireturn, 1) := by decide +kernel
theorem dX5_pass_0 : decode cX5_pass 0 = .ok (.aload_n 0, 1) := by decide +kernel
theorem dX5_pass_1 : decode cX5_pass 1 = .ok (.iload_n 1, 1) := by decide +kernel
theorem dX5_pass_2 : decode cX5_pass 2 = .ok (.iconst 1, 1) := by decide +kernel
theorem dX5_pass_3 : decode cX5_pass 3 = .ok (.bipush 50, 2) := by decide +kernel
theorem dX5_pass_5 : decode cX5_pass 5 = .ok (.invokestatic 81, 3) := by decide +kernel
theorem dX5_pass_8 : decode cX5_pass 8 = .ok (.ifCond .eq 7, 3) := by decide +kernel
theorem dX5_pass_11 : decode cX5_pass 11 = .ok (.iconst 0, 1) := by decide +kernel
theorem dX5_pass_12 : decode cX5_pass 12 = .ok (.goto 4, 3) := by decide +kernel
theorem dX5_pass_15 : decode cX5_pass 15 = .ok (.iconst 1, 1) := by decide +kernel
theorem dX5_pass_16 : decode cX5_pass 16 = .ok (.putfield 77, 3) := by decide +kernel
theorem dX5_pass_19 : decode cX5_pass 19 = .ok (.iconst 0, 1) := by decide +kernel
theorem dX5_pass_20 : decode cX5_pass 20 = .ok (.istore_n 2, 1) := by decide +kernel
theorem dX5_pass_21 : decode cX5_pass 21 = .ok (.iconst 0, 1) := by decide +kernel
theorem dX5_pass_22 : decode cX5_pass 22 = .ok (.istore_n 3, 1) := by decide +kernel
theorem dX5_pass_23 : decode cX5_pass 23 = .ok (.iload_n 3, 1) := by decide +kernel
theorem dX5_pass_24 : decode cX5_pass 24 = .ok (.iload_n 1, 1) := by decide +kernel
theorem dX5_pass_25 : decode cX5_pass 25 = .ok (.if_icmp .ge 32, 3) := by decide +kernel
theorem dX5_pass_28 : decode cX5_pass 28 = .ok (.aload_n 0, 1) := by decide +kernel
theorem dX5_pass_29 : decode cX5_pass 29 = .ok (.getfield 77, 3) := by decide +kernel
theorem dX5_pass_32 : decode cX5_pass 32 = .ok (.ifCond .ne 25, 3) := by decide +kernel
theorem dX5_pass_35 : decode cX5_pass 35 = .ok (.iload_n 2, 1) := by decide +kernel
theorem dX5_pass_36 : decode cX5_pass 36 = .ok (.aload_n 0, 1) := by decide +kernel
theorem dX5_pass_37 : decode cX5_pass 37 = .ok (.iconst 0, 1) := by decide +kernel
theorem dX5_pass_38 : decode cX5_pass 38 = .ok (.invokevirtual 130, 3) := by decide +kernel
theorem dX5_pass_41 : decode cX5_pass 41 = .ok (.iadd, 1) := by decide +kernel
theorem dX5_pass_42 : decode cX5_pass 42 = .ok (.istore_n 2, 1) := by decide +kernel
theorem dX5_pass_43 : decode cX5_pass 43 = .ok (.iload_n 2, 1) := by decide +kernel
theorem dX5_pass_44 : decode cX5_pass 44 = .ok (.aload_n 0, 1) := by decide +kernel
theorem dX5_pass_45 : decode cX5_pass 45 = .ok (.iconst 1, 1) := by decide +kernel
theorem dX5_pass_46 : decode cX5_pass 46 = .ok (.invokevirtual 130, 3) := by decide +kernel
theorem dX5_pass_49 : decode cX5_pass 49 = .ok (.iadd, 1) := by decide +kernel
theorem dX5_pass_50 : decode cX5_pass 50 = .ok (.istore_n 2, 1) := by decide +kernel
theorem dX5_pass_51 : decode cX5_pass 51 = .ok (.iinc 3 1, 3) := by decide +kernel
theorem dX5_pass_54 : decode cX5_pass 54 = .ok (.goto (-31), 3) := by decide +kernel
theorem dX5_pass_57 : decode cX5_pass 57 = .ok (.iload_n 2, 1) := by decide +kernel
theorem dX5_pass_58 : decode cX5_pass 58 = .ok (.ireturn, 1) := by decide +kernel
theorem dX5_asksEnd_0 : decode cX5_asksEnd 0 = .ok (.aload_n 0, 1) := by decide +kernel
theorem dX5_asksEnd_1 : decode cX5_asksEnd 1 = .ok (.iload_n 1, 1) := by decide +kernel
theorem dX5_asksEnd_2 : decode cX5_asksEnd 2 = .ok (.invokestatic 85, 3) := by decide +kernel
theorem dX5_asksEnd_5 : decode cX5_asksEnd 5 = .ok (.ifCond .eq 7, 3) := by decide +kernel
theorem dX5_asksEnd_8 : decode cX5_asksEnd 8 = .ok (.iconst 0, 1) := by decide +kernel
theorem dX5_asksEnd_9 : decode cX5_asksEnd 9 = .ok (.goto 4, 3) := by decide +kernel
theorem dX5_asksEnd_12 : decode cX5_asksEnd 12 = .ok (.iconst 1, 1) := by decide +kernel
theorem dX5_asksEnd_13 : decode cX5_asksEnd 13 = .ok (.putfield 77, 3) := by decide +kernel
theorem dX5_asksEnd_16 : decode cX5_asksEnd 16 = .ok (.aload_n 0, 1) := by decide +kernel
theorem dX5_asksEnd_17 : decode cX5_asksEnd 17 = .ok (.getfield 77, 3) := by decide +kernel
theorem dX5_asksEnd_20 : decode cX5_asksEnd 20 = .ok (.ifCond .ne 7, 3) := by decide +kernel
theorem dX5_asksEnd_23 : decode cX5_asksEnd 23 = .ok (.iconst 1, 1) := by decide +kernel
theorem dX5_asksEnd_24 : decode cX5_asksEnd 24 = .ok (.goto 4, 3) := by decide +kernel
theorem dX5_asksEnd_27 : decode cX5_asksEnd 27 = .ok (.iconst 0, 1) := by decide +kernel
theorem dX5_asksEnd_28 : decode cX5_asksEnd 28 = .ok (.ireturn, 1) := by decide +kernel
theorem dX5_stateOf_0 : decode cX5_stateOf 0 = .ok (.aload_n 0, 1) := by decide +kernel
theorem dX5_stateOf_1 : decode cX5_stateOf 1 = .ok (.iload_n 1, 1) := by decide +kernel
theorem dX5_stateOf_2 : decode cX5_stateOf 2 = .ok (.invokevirtual 133, 3) := by decide +kernel
theorem dX5_stateOf_5 : decode cX5_stateOf 5 = .ok (.ifCond .eq 12, 3) := by decide +kernel
theorem dX5_stateOf_8 : decode cX5_stateOf 8 = .ok (.aload_n 0, 1) := by decide +kernel
theorem dX5_stateOf_9 : decode cX5_stateOf 9 = .ok (.getfield 22, 3) := by decide +kernel
theorem dX5_stateOf_12 : decode cX5_stateOf 12 = .ok (.iload_n 1, 1) := by decide +kernel
theorem dX5_stateOf_13 : decode cX5_stateOf 13 = .ok (.iaload, 1) := by decide +kernel
theorem dX5_stateOf_14 : decode cX5_stateOf 14 = .ok (.goto 4, 3) := by decide +kernel
theorem dX5_stateOf_17 : decode cX5_stateOf 17 = .ok (.iconst 0, 1) := by decide +kernel
theorem dX5_stateOf_18 : decode cX5_stateOf 18 = .ok (.ireturn, 1) := by decide +kernel
theorem dX5_asked_0 : decode cX5_asked 0 = .ok (.aload_n 0, 1) := by decide +kernel
theorem dX5_asked_1 : decode cX5_asked 1 = .ok (.iload_n 1, 1) := by decide +kernel
theorem dX5_asked_2 : decode cX5_asked 2 = .ok (.invokestatic 85, 3) := by decide +kernel
theorem dX5_asked_5 : decode cX5_asked 5 = .ok (.ifCond .eq 14, 3) := by decide +kernel
theorem dX5_asked_8 : decode cX5_asked 8 = .ok (.iload_n 2, 1) := by decide +kernel
theorem dX5_asked_9 : decode cX5_asked 9 = .ok (.invokestatic 89, 3) := by decide +kernel
theorem dX5_asked_12 : decode cX5_asked 12 = .ok (.ifCond .eq 7, 3) := by decide +kernel
theorem dX5_asked_15 : decode cX5_asked 15 = .ok (.iconst 0, 1) := by decide +kernel
theorem dX5_asked_16 : decode cX5_asked 16 = .ok (.goto 4, 3) := by decide +kernel
theorem dX5_asked_19 : decode cX5_asked 19 = .ok (.iconst 1, 1) := by decide +kernel
theorem dX5_asked_20 : decode cX5_asked 20 = .ok (.putfield 77, 3) := by decide +kernel
theorem dX5_asked_23 : decode cX5_asked 23 = .ok (.aload_n 0, 1) := by decide +kernel
theorem dX5_asked_24 : decode cX5_asked 24 = .ok (.getfield 77, 3) := by decide +kernel
theorem dX5_asked_27 : decode cX5_asked 27 = .ok (.ifCond .le 7, 3) := by decide +kernel
theorem dX5_asked_30 : decode cX5_asked 30 = .ok (.iconst 0, 1) := by decide +kernel
theorem dX5_asked_31 : decode cX5_asked 31 = .ok (.goto 14, 3) := by decide +kernel
theorem dX5_asked_34 : decode cX5_asked 34 = .ok (.aload_n 0, 1) := by decide +kernel
theorem dX5_asked_35 : decode cX5_asked 35 = .ok (.getfield 16, 3) := by decide +kernel
theorem dX5_asked_38 : decode cX5_asked 38 = .ok (.bipush 6, 2) := by decide +kernel
theorem dX5_asked_40 : decode cX5_asked 40 = .ok (.iload_n 1, 1) := by decide +kernel
theorem dX5_asked_41 : decode cX5_asked 41 = .ok (.imul, 1) := by decide +kernel
theorem dX5_asked_42 : decode cX5_asked 42 = .ok (.iload_n 2, 1) := by decide +kernel
theorem dX5_asked_43 : decode cX5_asked 43 = .ok (.iadd, 1) := by decide +kernel
theorem dX5_asked_44 : decode cX5_asked 44 = .ok (.iaload, 1) := by decide +kernel
theorem dX5_asked_45 : decode cX5_asked 45 = .ok (.ireturn, 1) := by decide +kernel
theorem dX5_requests_0 : decode cX5_requests 0 = .ok (.aload_n 0, 1) := by decide +kernel
theorem dX5_requests_1 : decode cX5_requests 1 = .ok (.iload_n 1, 1) := by decide +kernel
theorem dX5_requests_2 : decode cX5_requests 2 = .ok (.invokevirtual 133, 3) := by decide +kernel
theorem dX5_requests_5 : decode cX5_requests 5 = .ok (.ifCond .eq 12, 3) := by decide +kernel
theorem dX5_requests_8 : decode cX5_requests 8 = .ok (.aload_n 0, 1) := by decide +kernel
theorem dX5_requests_9 : decode cX5_requests 9 = .ok (.getfield 28, 3) := by decide +kernel
theorem dX5_requests_12 : decode cX5_requests 12 = .ok (.iload_n 1, 1) := by decide +kernel
theorem dX5_requests_13 : decode cX5_requests 13 = .ok (.iaload, 1) := by decide +kernel
theorem dX5_requests_14 : decode cX5_requests 14 = .ok (.goto 4, 3) := by decide +kernel
theorem dX5_requests_17 : decode cX5_requests 17 = .ok (.iconst 0, 1) := by decide +kernel
theorem dX5_requests_18 : decode cX5_requests 18 = .ok (.ireturn, 1) := by decide +kernel
theorem dX5_isLooped_0 : decode cX5_isLooped 0 = .ok (.aload_n 0, 1) := by decide +kernel
theorem dX5_isLooped_1 : decode cX5_isLooped 1 = .ok (.iload_n 1, 1) := by decide +kernel
theorem dX5_isLooped_2 : decode cX5_isLooped 2 = .ok (.invokevirtual 133, 3) := by decide +kernel
theorem dX5_isLooped_5 : decode cX5_isLooped 5 = .ok (.ifCond .eq 16, 3) := by decide +kernel
theorem dX5_isLooped_8 : decode cX5_isLooped 8 = .ok (.aload_n 0, 1) := by decide +kernel
theorem dX5_isLooped_9 : decode cX5_isLooped 9 = .ok (.getfield 34, 3) := by decide +kernel
theorem dX5_isLooped_12 : decode cX5_isLooped 12 = .ok (.iload_n 1, 1) := by decide +kernel
theorem dX5_isLooped_13 : decode cX5_isLooped 13 = .ok (.baload, 1) := by decide +kernel
theorem dX5_isLooped_14 : decode cX5_isLooped 14 = .ok (.ifCond .eq 7, 3) := by decide +kernel
theorem dX5_isLooped_17 : decode cX5_isLooped 17 = .ok (.iconst 1, 1) := by decide +kernel
theorem dX5_isLooped_18 : decode cX5_isLooped 18 = .ok (.goto 4, 3) := by decide +kernel
theorem dX5_isLooped_21 : decode cX5_isLooped 21 = .ok (.iconst 0, 1) := by decide +kernel
theorem dX5_isLooped_22 : decode cX5_isLooped 22 = .ok (.ireturn, 1) := by decide +kernel
theorem dX5_underWay_0 : decode cX5_underWay 0 = .ok (.aload_n 0, 1) := by decide +kernel
theorem dX5_underWay_1 : decode cX5_underWay 1 = .ok (.iload_n 1, 1) := by decide +kernel
theorem dX5_underWay_2 : decode cX5_underWay 2 = .ok (.invokevirtual 133, 3) := by decide +kernel
theorem dX5_underWay_5 : decode cX5_underWay 5 = .ok (.ifCond .eq 12, 3) := by decide +kernel
theorem dX5_underWay_8 : decode cX5_underWay 8 = .ok (.aload_n 0, 1) := by decide +kernel
theorem dX5_underWay_9 : decode cX5_underWay 9 = .ok (.getfield 44, 3) := by decide +kernel
theorem dX5_underWay_12 : decode cX5_underWay 12 = .ok (.iload_n 1, 1) := by decide +kernel
theorem dX5_underWay_13 : decode cX5_underWay 13 = .ok (.iaload, 1) := by decide +kernel
theorem dX5_underWay_14 : decode cX5_underWay 14 = .ok (.goto 4, 3) := by decide +kernel
theorem dX5_underWay_17 : decode cX5_underWay 17 = .ok (.iconst 0, 1) := by decide +kernel
theorem dX5_underWay_18 : decode cX5_underWay 18 = .ok (.ireturn, 1) := by decide +kernel
theorem dX5_missed_0 : decode cX5_missed 0 = .ok (.aload_n 0, 1) := by decide +kernel
theorem dX5_missed_1 : decode cX5_missed 1 = .ok (.iload_n 1, 1) := by decide +kernel
theorem dX5_missed_2 : decode cX5_missed 2 = .ok (.invokevirtual 133, 3) := by decide +kernel
theorem dX5_missed_5 : decode cX5_missed 5 = .ok (.ifCond .eq 12, 3) := by decide +kernel
theorem dX5_missed_8 : decode cX5_missed 8 = .ok (.aload_n 0, 1) := by decide +kernel
theorem dX5_missed_9 : decode cX5_missed 9 = .ok (.getfield 38, 3) := by decide +kernel
theorem dX5_missed_12 : decode cX5_missed 12 = .ok (.iload_n 1, 1) := by decide +kernel
theorem dX5_missed_13 : decode cX5_missed 13 = .ok (.iaload, 1) := by decide +kernel
theorem dX5_missed_14 : decode cX5_missed 14 = .ok (.goto 4, 3) := by decide +kernel
theorem dX5_missed_17 : decode cX5_missed 17 = .ok (.iconst 0, 1) := by decide +kernel
theorem dX5_missed_18 : decode cX5_missed 18 = .ok (.ireturn, 1) := by decide +kernel
theorem dX5_send_0 : decode cX5_send 0 = .ok (.aload_n 0, 1) := by decide +kernel
theorem dX5_send_1 : decode cX5_send 1 = .ok (.iload_n 1, 1) := by decide +kernel
theorem dX5_send_2 : decode cX5_send 2 = .ok (.iconst 1, 1) := by decide +kernel
theorem dX5_send_3 : decode cX5_send 3 = .ok (.iconst 4, 1) := by decide +kernel
theorem dX5_send_4 : decode cX5_send 4 = .ok (.invokestatic 81, 3) := by decide +kernel
theorem dX5_send_7 : decode cX5_send 7 = .ok (.ifCond .ne 7, 3) := by decide +kernel
theorem dX5_send_10 : decode cX5_send 10 = .ok (.iconst 1, 1) := by decide +kernel
theorem dX5_send_11 : decode cX5_send 11 = .ok (.goto 17, 3) := by decide +kernel
theorem dX5_send_14 : decode cX5_send 14 = .ok (.aload_n 0, 1) := by decide +kernel
theorem dX5_send_15 : decode cX5_send 15 = .ok (.getfield 136, 3) := by decide +kernel
theorem dX5_send_18 : decode cX5_send 18 = .ok (.bipush 60, 2) := by decide +kernel
theorem dX5_send_20 : decode cX5_send 20 = .ok (.if_icmp .ne 7, 3) := by decide +kernel
theorem dX5_send_23 : decode cX5_send 23 = .ok (.iconst 2, 1) := by decide +kernel
theorem dX5_send_24 : decode cX5_send 24 = .ok (.goto 4, 3) := by decide +kernel
theorem dX5_send_27 : decode cX5_send 27 = .ok (.iconst 0, 1) := by decide +kernel
theorem dX5_send_28 : decode cX5_send 28 = .ok (.putfield 77, 3) := by decide +kernel
theorem dX5_send_31 : decode cX5_send 31 = .ok (.aload_n 0, 1) := by decide +kernel
theorem dX5_send_32 : decode cX5_send 32 = .ok (.getfield 77, 3) := by decide +kernel
theorem dX5_send_35 : decode cX5_send 35 = .ok (.ifCond .le 5, 3) := by decide +kernel
theorem dX5_send_38 : decode cX5_send 38 = .ok (.iconst 0, 1) := by decide +kernel
theorem dX5_send_39 : decode cX5_send 39 = .ok (.ireturn, 1) := by decide +kernel
theorem dX5_send_40 : decode cX5_send 40 = .ok (.aload_n 0, 1) := by decide +kernel
theorem dX5_send_41 : decode cX5_send 41 = .ok (.getfield 139, 3) := by decide +kernel
theorem dX5_send_44 : decode cX5_send 44 = .ok (.istore_n 2, 1) := by decide +kernel
theorem dX5_send_45 : decode cX5_send 45 = .ok (.aload_n 0, 1) := by decide +kernel
theorem dX5_send_46 : decode cX5_send 46 = .ok (.getfield 59, 3) := by decide +kernel
theorem dX5_send_49 : decode cX5_send 49 = .ok (.aload_n 0, 1) := by decide +kernel
theorem dX5_send_50 : decode cX5_send 50 = .ok (.getfield 136, 3) := by decide +kernel
theorem dX5_send_53 : decode cX5_send 53 = .ok (.iload_n 2, 1) := by decide +kernel
theorem dX5_send_54 : decode cX5_send 54 = .ok (.iastore, 1) := by decide +kernel
theorem dX5_send_55 : decode cX5_send 55 = .ok (.iconst 0, 1) := by decide +kernel
theorem dX5_send_56 : decode cX5_send 56 = .ok (.istore_n 3, 1) := by decide +kernel
theorem dX5_send_57 : decode cX5_send 57 = .ok (.iload_n 3, 1) := by decide +kernel
theorem dX5_send_58 : decode cX5_send 58 = .ok (.iload_n 1, 1) := by decide +kernel
theorem dX5_send_59 : decode cX5_send 59 = .ok (.if_icmp .ge 21, 3) := by decide +kernel
theorem dX5_send_62 : decode cX5_send 62 = .ok (.aload_n 0, 1) := by decide +kernel
theorem dX5_send_63 : decode cX5_send 63 = .ok (.getfield 62, 3) := by decide +kernel
theorem dX5_send_66 : decode cX5_send 66 = .ok (.iload_n 2, 1) := by decide +kernel
theorem dX5_send_67 : decode cX5_send 67 = .ok (.iload_n 3, 1) := by decide +kernel
theorem dX5_send_68 : decode cX5_send 68 = .ok (.iadd, 1) := by decide +kernel
theorem dX5_send_69 : decode cX5_send 69 = .ok (.aload_n 0, 1) := by decide +kernel
theorem dX5_send_70 : decode cX5_send 70 = .ok (.getfield 136, 3) := by decide +kernel
theorem dX5_send_73 : decode cX5_send 73 = .ok (.iastore, 1) := by decide +kernel
theorem dX5_send_74 : decode cX5_send 74 = .ok (.iinc 3 1, 3) := by decide +kernel
theorem dX5_send_77 : decode cX5_send 77 = .ok (.goto (-20), 3) := by decide +kernel
theorem dX5_send_80 : decode cX5_send 80 = .ok (.aload_n 0, 1) := by decide +kernel
theorem dX5_send_81 : decode cX5_send 81 = .ok (.dup, 1) := by decide +kernel
theorem dX5_send_82 : decode cX5_send 82 = .ok (.getfield 139, 3) := by decide +kernel
theorem dX5_send_85 : decode cX5_send 85 = .ok (.iload_n 1, 1) := by decide +kernel
theorem dX5_send_86 : decode cX5_send 86 = .ok (.iadd, 1) := by decide +kernel
theorem dX5_send_87 : decode cX5_send 87 = .ok (.putfield 139, 3) := by decide +kernel
theorem dX5_send_90 : decode cX5_send 90 = .ok (.aload_n 0, 1) := by decide +kernel
theorem dX5_send_91 : decode cX5_send 91 = .ok (.dup, 1) := by decide +kernel
theorem dX5_send_92 : decode cX5_send 92 = .ok (.getfield 136, 3) := by decide +kernel
theorem dX5_send_95 : decode cX5_send 95 = .ok (.iconst 1, 1) := by decide +kernel
theorem dX5_send_96 : decode cX5_send 96 = .ok (.iadd, 1) := by decide +kernel
theorem dX5_send_97 : decode cX5_send 97 = .ok (.putfield 136, 3) := by decide +kernel
theorem dX5_send_100 : decode cX5_send 100 = .ok (.aload_n 0, 1) := by decide +kernel
theorem dX5_send_101 : decode cX5_send 101 = .ok (.getfield 59, 3) := by decide +kernel
theorem dX5_send_104 : decode cX5_send 104 = .ok (.aload_n 0, 1) := by decide +kernel
theorem dX5_send_105 : decode cX5_send 105 = .ok (.getfield 136, 3) := by decide +kernel
theorem dX5_send_108 : decode cX5_send 108 = .ok (.aload_n 0, 1) := by decide +kernel
theorem dX5_send_109 : decode cX5_send 109 = .ok (.getfield 139, 3) := by decide +kernel
theorem dX5_send_112 : decode cX5_send 112 = .ok (.iastore, 1) := by decide +kernel
theorem dX5_send_113 : decode cX5_send 113 = .ok (.iload_n 2, 1) := by decide +kernel
theorem dX5_send_114 : decode cX5_send 114 = .ok (.ireturn, 1) := by decide +kernel
theorem dX5_bound_0 : decode cX5_bound 0 = .ok (.aload_n 0, 1) := by decide +kernel
theorem dX5_bound_1 : decode cX5_bound 1 = .ok (.getfield 71, 3) := by decide +kernel
theorem dX5_bound_4 : decode cX5_bound 4 = .ok (.iconst 0, 1) := by decide +kernel
theorem dX5_bound_5 : decode cX5_bound 5 = .ok (.iaload, 1) := by decide +kernel
theorem dX5_bound_6 : decode cX5_bound 6 = .ok (.istore_n 1, 1) := by decide +kernel
theorem dX5_bound_7 : decode cX5_bound 7 = .ok (.iconst 1, 1) := by decide +kernel
theorem dX5_bound_8 : decode cX5_bound 8 = .ok (.istore_n 2, 1) := by decide +kernel
theorem dX5_bound_9 : decode cX5_bound 9 = .ok (.iload_n 2, 1) := by decide +kernel
theorem dX5_bound_10 : decode cX5_bound 10 = .ok (.iconst 3, 1) := by decide +kernel
theorem dX5_bound_11 : decode cX5_bound 11 = .ok (.if_icmp .ge 30, 3) := by decide +kernel
theorem dX5_bound_14 : decode cX5_bound 14 = .ok (.aload_n 0, 1) := by decide +kernel
theorem dX5_bound_15 : decode cX5_bound 15 = .ok (.getfield 71, 3) := by decide +kernel
theorem dX5_bound_18 : decode cX5_bound 18 = .ok (.iload_n 2, 1) := by decide +kernel
theorem dX5_bound_19 : decode cX5_bound 19 = .ok (.iaload, 1) := by decide +kernel
theorem dX5_bound_20 : decode cX5_bound 20 = .ok (.iload_n 1, 1) := by decide +kernel
theorem dX5_bound_21 : decode cX5_bound 21 = .ok (.if_icmp .ge 12, 3) := by decide +kernel
theorem dX5_bound_24 : decode cX5_bound 24 = .ok (.aload_n 0, 1) := by decide +kernel
theorem dX5_bound_25 : decode cX5_bound 25 = .ok (.getfield 71, 3) := by decide +kernel
theorem dX5_bound_28 : decode cX5_bound 28 = .ok (.iload_n 2, 1) := by decide +kernel
theorem dX5_bound_29 : decode cX5_bound 29 = .ok (.iaload, 1) := by decide +kernel
theorem dX5_bound_30 : decode cX5_bound 30 = .ok (.goto 4, 3) := by decide +kernel
theorem dX5_bound_33 : decode cX5_bound 33 = .ok (.iload_n 1, 1) := by decide +kernel
theorem dX5_bound_34 : decode cX5_bound 34 = .ok (.istore_n 1, 1) := by decide +kernel
theorem dX5_bound_35 : decode cX5_bound 35 = .ok (.iinc 2 1, 3) := by decide +kernel
theorem dX5_bound_38 : decode cX5_bound 38 = .ok (.goto (-29), 3) := by decide +kernel
theorem dX5_bound_41 : decode cX5_bound 41 = .ok (.iload_n 1, 1) := by decide +kernel
theorem dX5_bound_42 : decode cX5_bound 42 = .ok (.ireturn, 1) := by decide +kernel
theorem dX5_missing_0 : decode cX5_missing 0 = .ok (.aload_n 0, 1) := by decide +kernel
theorem dX5_missing_1 : decode cX5_missing 1 = .ok (.getfield 59, 3) := by decide +kernel
theorem dX5_missing_4 : decode cX5_missing 4 = .ok (.iload_n 1, 1) := by decide +kernel
theorem dX5_missing_5 : decode cX5_missing 5 = .ok (.iaload, 1) := by decide +kernel
theorem dX5_missing_6 : decode cX5_missing 6 = .ok (.istore_n 2, 1) := by decide +kernel
theorem dX5_missing_7 : decode cX5_missing 7 = .ok (.iload_n 2, 1) := by decide +kernel
theorem dX5_missing_8 : decode cX5_missing 8 = .ok (.aload_n 0, 1) := by decide +kernel
theorem dX5_missing_9 : decode cX5_missing 9 = .ok (.getfield 59, 3) := by decide +kernel
theorem dX5_missing_12 : decode cX5_missing 12 = .ok (.iload_n 1, 1) := by decide +kernel
theorem dX5_missing_13 : decode cX5_missing 13 = .ok (.iconst 1, 1) := by decide +kernel
theorem dX5_missing_14 : decode cX5_missing 14 = .ok (.iadd, 1) := by decide +kernel
theorem dX5_missing_15 : decode cX5_missing 15 = .ok (.iaload, 1) := by decide +kernel
theorem dX5_missing_16 : decode cX5_missing 16 = .ok (.if_icmp .ge 18, 3) := by decide +kernel
theorem dX5_missing_19 : decode cX5_missing 19 = .ok (.aload_n 0, 1) := by decide +kernel
theorem dX5_missing_20 : decode cX5_missing 20 = .ok (.getfield 65, 3) := by decide +kernel
theorem dX5_missing_23 : decode cX5_missing 23 = .ok (.iload_n 2, 1) := by decide +kernel
theorem dX5_missing_24 : decode cX5_missing 24 = .ok (.baload, 1) := by decide +kernel
theorem dX5_missing_25 : decode cX5_missing 25 = .ok (.ifCond .eq 9, 3) := by decide +kernel
theorem dX5_missing_28 : decode cX5_missing 28 = .ok (.iinc 2 1, 3) := by decide +kernel
theorem dX5_missing_31 : decode cX5_missing 31 = .ok (.goto (-24), 3) := by decide +kernel
theorem dX5_missing_34 : decode cX5_missing 34 = .ok (.iload_n 2, 1) := by decide +kernel
theorem dX5_missing_35 : decode cX5_missing 35 = .ok (.ireturn, 1) := by decide +kernel
theorem dX5_goesOn_0 : decode cX5_goesOn 0 = .ok (.aload_n 0, 1) := by decide +kernel
theorem dX5_goesOn_1 : decode cX5_goesOn 1 = .ok (.getfield 142, 3) := by decide +kernel
theorem dX5_goesOn_4 : decode cX5_goesOn 4 = .ok (.aload_n 0, 1) := by decide +kernel
theorem dX5_goesOn_5 : decode cX5_goesOn 5 = .ok (.getfield 139, 3) := by decide +kernel
theorem dX5_goesOn_8 : decode cX5_goesOn 8 = .ok (.if_icmp .lt 5, 3) := by decide +kernel
theorem dX5_goesOn_11 : decode cX5_goesOn 11 = .ok (.iconst 0, 1) := by decide +kernel
theorem dX5_goesOn_12 : decode cX5_goesOn 12 = .ok (.ireturn, 1) := by decide +kernel
theorem dX5_goesOn_13 : decode cX5_goesOn 13 = .ok (.aload_n 0, 1) := by decide +kernel
theorem dX5_goesOn_14 : decode cX5_goesOn 14 = .ok (.getfield 62, 3) := by decide +kernel
theorem dX5_goesOn_17 : decode cX5_goesOn 17 = .ok (.aload_n 0, 1) := by decide +kernel
theorem dX5_goesOn_18 : decode cX5_goesOn 18 = .ok (.getfield 142, 3) := by decide +kernel
theorem dX5_goesOn_21 : decode cX5_goesOn 21 = .ok (.iaload, 1) := by decide +kernel
theorem dX5_goesOn_22 : decode cX5_goesOn 22 = .ok (.istore_n 1, 1) := by decide +kernel
theorem dX5_goesOn_23 : decode cX5_goesOn 23 = .ok (.aload_n 0, 1) := by decide +kernel
theorem dX5_goesOn_24 : decode cX5_goesOn 24 = .ok (.getfield 59, 3) := by decide +kernel
theorem dX5_goesOn_27 : decode cX5_goesOn 27 = .ok (.iload_n 1, 1) := by decide +kernel
theorem dX5_goesOn_28 : decode cX5_goesOn 28 = .ok (.iaload, 1) := by decide +kernel
theorem dX5_goesOn_29 : decode cX5_goesOn 29 = .ok (.aload_n 0, 1) := by decide +kernel
theorem dX5_goesOn_30 : decode cX5_goesOn 30 = .ok (.getfield 142, 3) := by decide +kernel
theorem dX5_goesOn_33 : decode cX5_goesOn 33 = .ok (.if_icmp .ne 7, 3) := by decide +kernel
theorem dX5_goesOn_36 : decode cX5_goesOn 36 = .ok (.iconst 1, 1) := by decide +kernel
theorem dX5_goesOn_37 : decode cX5_goesOn 37 = .ok (.goto 4, 3) := by decide +kernel
theorem dX5_goesOn_40 : decode cX5_goesOn 40 = .ok (.iconst 0, 1) := by decide +kernel
theorem dX5_goesOn_41 : decode cX5_goesOn 41 = .ok (.istore_n 2, 1) := by decide +kernel
theorem dX5_goesOn_42 : decode cX5_goesOn 42 = .ok (.aload_n 0, 1) := by decide +kernel
theorem dX5_goesOn_43 : decode cX5_goesOn 43 = .ok (.invokevirtual 145, 3) := by decide +kernel
theorem dX5_goesOn_46 : decode cX5_goesOn 46 = .ok (.istore_n 3, 1) := by decide +kernel
theorem dX5_goesOn_47 : decode cX5_goesOn 47 = .ok (.aload_n 0, 1) := by decide +kernel
theorem dX5_goesOn_48 : decode cX5_goesOn 48 = .ok (.getfield 65, 3) := by decide +kernel
theorem dX5_goesOn_51 : decode cX5_goesOn 51 = .ok (.aload_n 0, 1) := by decide +kernel
theorem dX5_goesOn_52 : decode cX5_goesOn 52 = .ok (.getfield 142, 3) := by decide +kernel
theorem dX5_goesOn_55 : decode cX5_goesOn 55 = .ok (.baload, 1) := by decide +kernel
theorem dX5_goesOn_56 : decode cX5_goesOn 56 = .ok (.ifCond .eq 7, 3) := by decide +kernel
theorem dX5_goesOn_59 : decode cX5_goesOn 59 = .ok (.iload_n 2, 1) := by decide +kernel
theorem dX5_goesOn_60 : decode cX5_goesOn 60 = .ok (.ifCond .ne 52, 3) := by decide +kernel
theorem dX5_goesOn_63 : decode cX5_goesOn 63 = .ok (.aload_n 0, 1) := by decide +kernel
theorem dX5_goesOn_64 : decode cX5_goesOn 64 = .ok (.getfield 65, 3) := by decide +kernel
theorem dX5_goesOn_67 : decode cX5_goesOn 67 = .ok (.aload_n 0, 1) := by decide +kernel
theorem dX5_goesOn_68 : decode cX5_goesOn 68 = .ok (.getfield 142, 3) := by decide +kernel
theorem dX5_goesOn_71 : decode cX5_goesOn 71 = .ok (.baload, 1) := by decide +kernel
theorem dX5_goesOn_72 : decode cX5_goesOn 72 = .ok (.ifCond .ne 11, 3) := by decide +kernel
theorem dX5_goesOn_75 : decode cX5_goesOn 75 = .ok (.aload_n 0, 1) := by decide +kernel
theorem dX5_goesOn_76 : decode cX5_goesOn 76 = .ok (.getfield 142, 3) := by decide +kernel
theorem dX5_goesOn_79 : decode cX5_goesOn 79 = .ok (.iload_n 3, 1) := by decide +kernel
theorem dX5_goesOn_80 : decode cX5_goesOn 80 = .ok (.if_icmp .ge 7, 3) := by decide +kernel
theorem dX5_goesOn_83 : decode cX5_goesOn 83 = .ok (.iconst 1, 1) := by decide +kernel
theorem dX5_goesOn_84 : decode cX5_goesOn 84 = .ok (.goto 4, 3) := by decide +kernel
theorem dX5_goesOn_87 : decode cX5_goesOn 87 = .ok (.iconst 0, 1) := by decide +kernel
theorem dX5_goesOn_88 : decode cX5_goesOn 88 = .ok (.istore 4, 2) := by decide +kernel
theorem dX5_goesOn_90 : decode cX5_goesOn 90 = .ok (.aload_n 0, 1) := by decide +kernel
theorem dX5_goesOn_91 : decode cX5_goesOn 91 = .ok (.dup, 1) := by decide +kernel
theorem dX5_goesOn_92 : decode cX5_goesOn 92 = .ok (.getfield 142, 3) := by decide +kernel
theorem dX5_goesOn_95 : decode cX5_goesOn 95 = .ok (.iload 4, 2) := by decide +kernel
theorem dX5_goesOn_97 : decode cX5_goesOn 97 = .ok (.ifCond .eq 7, 3) := by decide +kernel
theorem dX5_goesOn_100 : decode cX5_goesOn 100 = .ok (.iconst 1, 1) := by decide +kernel
theorem dX5_goesOn_101 : decode cX5_goesOn 101 = .ok (.goto 4, 3) := by decide +kernel
theorem dX5_goesOn_104 : decode cX5_goesOn 104 = .ok (.iconst 0, 1) := by decide +kernel
theorem dX5_goesOn_105 : decode cX5_goesOn 105 = .ok (.iadd, 1) := by decide +kernel
theorem dX5_goesOn_106 : decode cX5_goesOn 106 = .ok (.putfield 142, 3) := by decide +kernel
theorem dX5_goesOn_109 : decode cX5_goesOn 109 = .ok (.iload 4, 2) := by decide +kernel
theorem dX5_goesOn_111 : decode cX5_goesOn 111 = .ok (.ireturn, 1) := by decide +kernel
theorem dX5_goesOn_112 : decode cX5_goesOn 112 = .ok (.aload_n 0, 1) := by decide +kernel
theorem dX5_goesOn_113 : decode cX5_goesOn 113 = .ok (.iload_n 1, 1) := by decide +kernel
theorem dX5_goesOn_114 : decode cX5_goesOn 114 = .ok (.invokevirtual 149, 3) := by decide +kernel
theorem dX5_goesOn_117 : decode cX5_goesOn 117 = .ok (.istore 4, 2) := by decide +kernel
theorem dX5_goesOn_119 : decode cX5_goesOn 119 = .ok (.iload 4, 2) := by decide +kernel
theorem dX5_goesOn_121 : decode cX5_goesOn 121 = .ok (.aload_n 0, 1) := by decide +kernel
theorem dX5_goesOn_122 : decode cX5_goesOn 122 = .ok (.getfield 59, 3) := by decide +kernel
theorem dX5_goesOn_125 : decode cX5_goesOn 125 = .ok (.iload_n 1, 1) := by decide +kernel
theorem dX5_goesOn_126 : decode cX5_goesOn 126 = .ok (.iconst 1, 1) := by decide +kernel
theorem dX5_goesOn_127 : decode cX5_goesOn 127 = .ok (.iadd, 1) := by decide +kernel
theorem dX5_goesOn_128 : decode cX5_goesOn 128 = .ok (.iaload, 1) := by decide +kernel
theorem dX5_goesOn_129 : decode cX5_goesOn 129 = .ok (.if_icmp .ne 31, 3) := by decide +kernel
theorem dX5_goesOn_132 : decode cX5_goesOn 132 = .ok (.aload_n 0, 1) := by decide +kernel
theorem dX5_goesOn_133 : decode cX5_goesOn 133 = .ok (.getfield 74, 3) := by decide +kernel
theorem dX5_goesOn_136 : decode cX5_goesOn 136 = .ok (.aload_n 0, 1) := by decide +kernel
theorem dX5_goesOn_137 : decode cX5_goesOn 137 = .ok (.getfield 152, 3) := by decide +kernel
theorem dX5_goesOn_140 : decode cX5_goesOn 140 = .ok (.iload_n 1, 1) := by decide +kernel
theorem dX5_goesOn_141 : decode cX5_goesOn 141 = .ok (.iastore, 1) := by decide +kernel
theorem dX5_goesOn_142 : decode cX5_goesOn 142 = .ok (.aload_n 0, 1) := by decide +kernel
theorem dX5_goesOn_143 : decode cX5_goesOn 143 = .ok (.dup, 1) := by decide +kernel
theorem dX5_goesOn_144 : decode cX5_goesOn 144 = .ok (.getfield 152, 3) := by decide +kernel
theorem dX5_goesOn_147 : decode cX5_goesOn 147 = .ok (.iconst 1, 1) := by decide +kernel
theorem dX5_goesOn_148 : decode cX5_goesOn 148 = .ok (.iadd, 1) := by decide +kernel
theorem dX5_goesOn_149 : decode cX5_goesOn 149 = .ok (.putfield 152, 3) := by decide +kernel
theorem dX5_goesOn_152 : decode cX5_goesOn 152 = .ok (.aload_n 0, 1) := by decide +kernel
theorem dX5_goesOn_153 : decode cX5_goesOn 153 = .ok (.iload 4, 2) := by decide +kernel
theorem dX5_goesOn_155 : decode cX5_goesOn 155 = .ok (.putfield 142, 3) := by decide +kernel
theorem dX5_goesOn_158 : decode cX5_goesOn 158 = .ok (.iconst 1, 1) := by decide +kernel
theorem dX5_goesOn_159 : decode cX5_goesOn 159 = .ok (.ireturn, 1) := by decide +kernel
theorem dX5_goesOn_160 : decode cX5_goesOn 160 = .ok (.aload_n 0, 1) := by decide +kernel
theorem dX5_goesOn_161 : decode cX5_goesOn 161 = .ok (.iload 4, 2) := by decide +kernel
theorem dX5_goesOn_163 : decode cX5_goesOn 163 = .ok (.iload_n 3, 1) := by decide +kernel
theorem dX5_goesOn_164 : decode cX5_goesOn 164 = .ok (.if_icmp .ge 10, 3) := by decide +kernel
theorem dX5_goesOn_167 : decode cX5_goesOn 167 = .ok (.iload 4, 2) := by decide +kernel
theorem dX5_goesOn_169 : decode cX5_goesOn 169 = .ok (.iconst 1, 1) := by decide +kernel
theorem dX5_goesOn_170 : decode cX5_goesOn 170 = .ok (.iadd, 1) := by decide +kernel
theorem dX5_goesOn_171 : decode cX5_goesOn 171 = .ok (.goto 7, 3) := by decide +kernel
theorem dX5_goesOn_174 : decode cX5_goesOn 174 = .ok (.aload_n 0, 1) := by decide +kernel
theorem dX5_goesOn_175 : decode cX5_goesOn 175 = .ok (.getfield 142, 3) := by decide +kernel
theorem dX5_goesOn_178 : decode cX5_goesOn 178 = .ok (.putfield 142, 3) := by decide +kernel
theorem dX5_goesOn_181 : decode cX5_goesOn 181 = .ok (.iload 4, 2) := by decide +kernel
theorem dX5_goesOn_183 : decode cX5_goesOn 183 = .ok (.iload_n 3, 1) := by decide +kernel
theorem dX5_goesOn_184 : decode cX5_goesOn 184 = .ok (.if_icmp .ge 7, 3) := by decide +kernel
theorem dX5_goesOn_187 : decode cX5_goesOn 187 = .ok (.iconst 1, 1) := by decide +kernel
theorem dX5_goesOn_188 : decode cX5_goesOn 188 = .ok (.goto 4, 3) := by decide +kernel
theorem dX5_goesOn_191 : decode cX5_goesOn 191 = .ok (.iconst 0, 1) := by decide +kernel
theorem dX5_goesOn_192 : decode cX5_goesOn 192 = .ok (.ireturn, 1) := by decide +kernel
theorem dX5_asksLine_0 : decode cX5_asksLine 0 = .ok (.aload_n 0, 1) := by decide +kernel
theorem dX5_asksLine_1 : decode cX5_asksLine 1 = .ok (.iload_n 1, 1) := by decide +kernel
theorem dX5_asksLine_2 : decode cX5_asksLine 2 = .ok (.iconst 0, 1) := by decide +kernel
theorem dX5_asksLine_3 : decode cX5_asksLine 3 = .ok (.iconst 2, 1) := by decide +kernel
theorem dX5_asksLine_4 : decode cX5_asksLine 4 = .ok (.invokestatic 81, 3) := by decide +kernel
theorem dX5_asksLine_7 : decode cX5_asksLine 7 = .ok (.ifCond .ne 7, 3) := by decide +kernel
theorem dX5_asksLine_10 : decode cX5_asksLine 10 = .ok (.iconst 1, 1) := by decide +kernel
theorem dX5_asksLine_11 : decode cX5_asksLine 11 = .ok (.goto 21, 3) := by decide +kernel
theorem dX5_asksLine_14 : decode cX5_asksLine 14 = .ok (.aload_n 0, 1) := by decide +kernel
theorem dX5_asksLine_15 : decode cX5_asksLine 15 = .ok (.getfield 68, 3) := by decide +kernel
theorem dX5_asksLine_18 : decode cX5_asksLine 18 = .ok (.iload_n 1, 1) := by decide +kernel
theorem dX5_asksLine_19 : decode cX5_asksLine 19 = .ok (.iaload, 1) := by decide +kernel
theorem dX5_asksLine_20 : decode cX5_asksLine 20 = .ok (.aload_n 0, 1) := by decide +kernel
theorem dX5_asksLine_21 : decode cX5_asksLine 21 = .ok (.getfield 139, 3) := by decide +kernel
theorem dX5_asksLine_24 : decode cX5_asksLine 24 = .ok (.if_icmp .lt 7, 3) := by decide +kernel
theorem dX5_asksLine_27 : decode cX5_asksLine 27 = .ok (.iconst 2, 1) := by decide +kernel
theorem dX5_asksLine_28 : decode cX5_asksLine 28 = .ok (.goto 4, 3) := by decide +kernel
theorem dX5_asksLine_31 : decode cX5_asksLine 31 = .ok (.iconst 0, 1) := by decide +kernel
theorem dX5_asksLine_32 : decode cX5_asksLine 32 = .ok (.putfield 77, 3) := by decide +kernel
theorem dX5_asksLine_35 : decode cX5_asksLine 35 = .ok (.aload_n 0, 1) := by decide +kernel
theorem dX5_asksLine_36 : decode cX5_asksLine 36 = .ok (.getfield 77, 3) := by decide +kernel
theorem dX5_asksLine_39 : decode cX5_asksLine 39 = .ok (.ifCond .ne 7, 3) := by decide +kernel
theorem dX5_asksLine_42 : decode cX5_asksLine 42 = .ok (.iconst 1, 1) := by decide +kernel
theorem dX5_asksLine_43 : decode cX5_asksLine 43 = .ok (.goto 4, 3) := by decide +kernel
theorem dX5_asksLine_46 : decode cX5_asksLine 46 = .ok (.iconst 0, 1) := by decide +kernel
theorem dX5_asksLine_47 : decode cX5_asksLine 47 = .ok (.ireturn, 1) := by decide +kernel
theorem dX5_come_0 : decode cX5_come 0 = .ok (.aload_n 0, 1) := by decide +kernel
theorem dX5_come_1 : decode cX5_come 1 = .ok (.iload_n 1, 1) := by decide +kernel
theorem dX5_come_2 : decode cX5_come 2 = .ok (.invokevirtual 155, 3) := by decide +kernel
theorem dX5_come_5 : decode cX5_come 5 = .ok (.ifCond .ne 5, 3) := by decide +kernel
theorem dX5_come_8 : decode cX5_come 8 = .ok (.iconst 0, 1) := by decide +kernel
theorem dX5_come_9 : decode cX5_come 9 = .ok (.ireturn, 1) := by decide +kernel
theorem dX5_come_10 : decode cX5_come 10 = .ok (.aload_n 0, 1) := by decide +kernel
theorem dX5_come_11 : decode cX5_come 11 = .ok (.getfield 152, 3) := by decide +kernel
theorem dX5_come_14 : decode cX5_come 14 = .ok (.istore_n 2, 1) := by decide +kernel
theorem dX5_come_15 : decode cX5_come 15 = .ok (.aload_n 0, 1) := by decide +kernel
theorem dX5_come_16 : decode cX5_come 16 = .ok (.getfield 65, 3) := by decide +kernel
theorem dX5_come_19 : decode cX5_come 19 = .ok (.aload_n 0, 1) := by decide +kernel
theorem dX5_come_20 : decode cX5_come 20 = .ok (.getfield 68, 3) := by decide +kernel
theorem dX5_come_23 : decode cX5_come 23 = .ok (.iload_n 1, 1) := by decide +kernel
theorem dX5_come_24 : decode cX5_come 24 = .ok (.iaload, 1) := by decide +kernel
theorem dX5_come_25 : decode cX5_come 25 = .ok (.iconst 1, 1) := by decide +kernel
theorem dX5_come_26 : decode cX5_come 26 = .ok (.bastore, 1) := by decide +kernel
theorem dX5_come_27 : decode cX5_come 27 = .ok (.aload_n 0, 1) := by decide +kernel
theorem dX5_come_28 : decode cX5_come 28 = .ok (.getfield 71, 3) := by decide +kernel
theorem dX5_come_31 : decode cX5_come 31 = .ok (.iload_n 1, 1) := by decide +kernel
theorem dX5_come_32 : decode cX5_come 32 = .ok (.aload_n 0, 1) := by decide +kernel
theorem dX5_come_33 : decode cX5_come 33 = .ok (.getfield 68, 3) := by decide +kernel
theorem dX5_come_36 : decode cX5_come 36 = .ok (.iload_n 1, 1) := by decide +kernel
theorem dX5_come_37 : decode cX5_come 37 = .ok (.iaload, 1) := by decide +kernel
theorem dX5_come_38 : decode cX5_come 38 = .ok (.iastore, 1) := by decide +kernel
theorem dX5_come_39 : decode cX5_come 39 = .ok (.aload_n 0, 1) := by decide +kernel
theorem dX5_come_40 : decode cX5_come 40 = .ok (.getfield 68, 3) := by decide +kernel
theorem dX5_come_43 : decode cX5_come 43 = .ok (.iload_n 1, 1) := by decide +kernel
theorem dX5_come_44 : decode cX5_come 44 = .ok (.dup2, 1) := by decide +kernel
theorem dX5_come_45 : decode cX5_come 45 = .ok (.iaload, 1) := by decide +kernel
theorem dX5_come_46 : decode cX5_come 46 = .ok (.iconst 3, 1) := by decide +kernel
theorem dX5_come_47 : decode cX5_come 47 = .ok (.iadd, 1) := by decide +kernel
theorem dX5_come_48 : decode cX5_come 48 = .ok (.iastore, 1) := by decide +kernel
theorem dX5_come_49 : decode cX5_come 49 = .ok (.iconst 1, 1) := by decide +kernel
theorem dX5_come_50 : decode cX5_come 50 = .ok (.istore_n 3, 1) := by decide +kernel
theorem dX5_come_51 : decode cX5_come 51 = .ok (.iload_n 3, 1) := by decide +kernel
theorem dX5_come_52 : decode cX5_come 52 = .ok (.ifCond .eq 11, 3) := by decide +kernel
theorem dX5_come_55 : decode cX5_come 55 = .ok (.aload_n 0, 1) := by decide +kernel
theorem dX5_come_56 : decode cX5_come 56 = .ok (.invokevirtual 158, 3) := by decide +kernel
theorem dX5_come_59 : decode cX5_come 59 = .ok (.istore_n 3, 1) := by decide +kernel
theorem dX5_come_60 : decode cX5_come 60 = .ok (.goto (-9), 3) := by decide +kernel
theorem dX5_come_63 : decode cX5_come 63 = .ok (.aload_n 0, 1) := by decide +kernel
theorem dX5_come_64 : decode cX5_come 64 = .ok (.getfield 152, 3) := by decide +kernel
theorem dX5_come_67 : decode cX5_come 67 = .ok (.iload_n 2, 1) := by decide +kernel
theorem dX5_come_68 : decode cX5_come 68 = .ok (.isub, 1) := by decide +kernel
theorem dX5_come_69 : decode cX5_come 69 = .ok (.ireturn, 1) := by decide +kernel
theorem dX5_drop_0 : decode cX5_drop 0 = .ok (.aload_n 0, 1) := by decide +kernel
theorem dX5_drop_1 : decode cX5_drop 1 = .ok (.iload_n 1, 1) := by decide +kernel
theorem dX5_drop_2 : decode cX5_drop 2 = .ok (.invokevirtual 155, 3) := by decide +kernel
theorem dX5_drop_5 : decode cX5_drop 5 = .ok (.ifCond .ne 5, 3) := by decide +kernel
theorem dX5_drop_8 : decode cX5_drop 8 = .ok (.iconst 0, 1) := by decide +kernel
theorem dX5_drop_9 : decode cX5_drop 9 = .ok (.ireturn, 1) := by decide +kernel
theorem dX5_drop_10 : decode cX5_drop 10 = .ok (.aload_n 0, 1) := by decide +kernel
theorem dX5_drop_11 : decode cX5_drop 11 = .ok (.getfield 68, 3) := by decide +kernel
theorem dX5_drop_14 : decode cX5_drop 14 = .ok (.iload_n 1, 1) := by decide +kernel
theorem dX5_drop_15 : decode cX5_drop 15 = .ok (.dup2, 1) := by decide +kernel
theorem dX5_drop_16 : decode cX5_drop 16 = .ok (.iaload, 1) := by decide +kernel
theorem dX5_drop_17 : decode cX5_drop 17 = .ok (.iconst 3, 1) := by decide +kernel
theorem dX5_drop_18 : decode cX5_drop 18 = .ok (.iadd, 1) := by decide +kernel
theorem dX5_drop_19 : decode cX5_drop 19 = .ok (.iastore, 1) := by decide +kernel
theorem dX5_drop_20 : decode cX5_drop 20 = .ok (.aload_n 0, 1) := by decide +kernel
theorem dX5_drop_21 : decode cX5_drop 21 = .ok (.getfield 68, 3) := by decide +kernel
theorem dX5_drop_24 : decode cX5_drop 24 = .ok (.iload_n 1, 1) := by decide +kernel
theorem dX5_drop_25 : decode cX5_drop 25 = .ok (.iaload, 1) := by decide +kernel
theorem dX5_drop_26 : decode cX5_drop 26 = .ok (.iconst 3, 1) := by decide +kernel
theorem dX5_drop_27 : decode cX5_drop 27 = .ok (.isub, 1) := by decide +kernel
theorem dX5_drop_28 : decode cX5_drop 28 = .ok (.ireturn, 1) := by decide +kernel
theorem dX5_given_0 : decode cX5_given 0 = .ok (.aload_n 0, 1) := by decide +kernel
theorem dX5_given_1 : decode cX5_given 1 = .ok (.iconst 0, 1) := by decide +kernel
theorem dX5_given_2 : decode cX5_given 2 = .ok (.putfield 77, 3) := by decide +kernel
theorem dX5_given_5 : decode cX5_given 5 = .ok (.aload_n 0, 1) := by decide +kernel
theorem dX5_given_6 : decode cX5_given 6 = .ok (.getfield 152, 3) := by decide +kernel
theorem dX5_given_9 : decode cX5_given 9 = .ok (.ireturn, 1) := by decide +kernel
theorem dX5_givenAt_0 : decode cX5_givenAt 0 = .ok (.aload_n 0, 1) := by decide +kernel
theorem dX5_givenAt_1 : decode cX5_givenAt 1 = .ok (.iload_n 1, 1) := by decide +kernel
theorem dX5_givenAt_2 : decode cX5_givenAt 2 = .ok (.iconst 0, 1) := by decide +kernel
theorem dX5_givenAt_3 : decode cX5_givenAt 3 = .ok (.aload_n 0, 1) := by decide +kernel
theorem dX5_givenAt_4 : decode cX5_givenAt 4 = .ok (.getfield 152, 3) := by decide +kernel
theorem dX5_givenAt_7 : decode cX5_givenAt 7 = .ok (.iconst 1, 1) := by decide +kernel
theorem dX5_givenAt_8 : decode cX5_givenAt 8 = .ok (.isub, 1) := by decide +kernel
theorem dX5_givenAt_9 : decode cX5_givenAt 9 = .ok (.invokestatic 81, 3) := by decide +kernel
theorem dX5_givenAt_12 : decode cX5_givenAt 12 = .ok (.ifCond .eq 7, 3) := by decide +kernel
theorem dX5_givenAt_15 : decode cX5_givenAt 15 = .ok (.iconst 0, 1) := by decide +kernel
theorem dX5_givenAt_16 : decode cX5_givenAt 16 = .ok (.goto 4, 3) := by decide +kernel
theorem dX5_givenAt_19 : decode cX5_givenAt 19 = .ok (.iconst 1, 1) := by decide +kernel
theorem dX5_givenAt_20 : decode cX5_givenAt 20 = .ok (.putfield 77, 3) := by decide +kernel
theorem dX5_givenAt_23 : decode cX5_givenAt 23 = .ok (.aload_n 0, 1) := by decide +kernel
theorem dX5_givenAt_24 : decode cX5_givenAt 24 = .ok (.getfield 77, 3) := by decide +kernel
theorem dX5_givenAt_27 : decode cX5_givenAt 27 = .ok (.ifCond .le 7, 3) := by decide +kernel
theorem dX5_givenAt_30 : decode cX5_givenAt 30 = .ok (.iconst 0, 1) := by decide +kernel
theorem dX5_givenAt_31 : decode cX5_givenAt 31 = .ok (.goto 9, 3) := by decide +kernel
theorem dX5_givenAt_34 : decode cX5_givenAt 34 = .ok (.aload_n 0, 1) := by decide +kernel
theorem dX5_givenAt_35 : decode cX5_givenAt 35 = .ok (.getfield 74, 3) := by decide +kernel
theorem dX5_givenAt_38 : decode cX5_givenAt 38 = .ok (.iload_n 1, 1) := by decide +kernel
theorem dX5_givenAt_39 : decode cX5_givenAt 39 = .ok (.iaload, 1) := by decide +kernel
theorem dX5_givenAt_40 : decode cX5_givenAt 40 = .ok (.ireturn, 1) := by decide +kernel
theorem dX5_next_0 : decode cX5_next 0 = .ok (.aload_n 0, 1) := by decide +kernel
theorem dX5_next_1 : decode cX5_next 1 = .ok (.iconst 0, 1) := by decide +kernel
theorem dX5_next_2 : decode cX5_next 2 = .ok (.putfield 77, 3) := by decide +kernel
theorem dX5_next_5 : decode cX5_next 5 = .ok (.aload_n 0, 1) := by decide +kernel
theorem dX5_next_6 : decode cX5_next 6 = .ok (.getfield 142, 3) := by decide +kernel
theorem dX5_next_9 : decode cX5_next 9 = .ok (.ireturn, 1) := by decide +kernel
end
section
theorem dL_wish_0 : decode cL_wish 0 = .ok (.aload 4, 2) := by decide +kernel
theorem dL_wish_2 : decode cL_wish 2 = .ok (.iconst 0, 1) := by decide +kernel
theorem dL_wish_3 : decode cL_wish 3 = .ok (.aload_n 0, 1) := by decide +kernel
theorem dL_wish_4 : decode cL_wish 4 = .ok (.iload_n 1, 1) := by decide +kernel
theorem dL_wish_5 : decode cL_wish 5 = .ok (.iload_n 2, 1) := by decide +kernel
theorem dL_wish_6 : decode cL_wish 6 = .ok (.iload_n 3, 1) := by decide +kernel
theorem dL_wish_7 : decode cL_wish 7 = .ok (.invokevirtual 7, 3) := by decide +kernel
theorem dL_wish_10 : decode cL_wish 10 = .ok (.i2l, 1) := by decide +kernel
theorem dL_wish_11 : decode cL_wish 11 = .ok (.lastore, 1) := by decide +kernel
theorem dL_wish_12 : decode cL_wish 12 = .ok (.goto 11, 3) := by decide +kernel
theorem dL_wish_15 : decode cL_wish 15 = .ok (.astore 5, 2) := by decide +kernel
theorem dL_wish_17 : decode cL_wish 17 = .ok (.iconst 1, 1) := by decide +kernel
theorem dL_wish_18 : decode cL_wish 18 = .ok (.ireturn, 1) := by decide +kernel
theorem dL_wish_19 : decode cL_wish 19 = .ok (.astore 5, 2) := by decide +kernel
theorem dL_wish_21 : decode cL_wish 21 = .ok (.iconst 2, 1) := by decide +kernel
theorem dL_wish_22 : decode cL_wish 22 = .ok (.ireturn, 1) := by decide +kernel
theorem dL_wish_23 : decode cL_wish 23 = .ok (.iconst 0, 1) := by decide +kernel
theorem dL_wish_24 : decode cL_wish 24 = .ok (.ireturn, 1) := by decide +kernel
theorem dL_allow_0 : decode cL_allow 0 = .ok (.aload 4, 2) := by decide +kernel
theorem dL_allow_2 : decode cL_allow 2 = .ok (.iconst 0, 1) := by decide +kernel
theorem dL_allow_3 : decode cL_allow 3 = .ok (.aload_n 0, 1) := by decide +kernel
theorem dL_allow_4 : decode cL_allow 4 = .ok (.iload_n 1, 1) := by decide +kernel
theorem dL_allow_5 : decode cL_allow 5 = .ok (.iload_n 2, 1) := by decide +kernel
theorem dL_allow_6 : decode cL_allow 6 = .ok (.iload_n 3, 1) := by decide +kernel
theorem dL_allow_7 : decode cL_allow 7 = .ok (.invokevirtual 17, 3) := by decide +kernel
theorem dL_allow_10 : decode cL_allow 10 = .ok (.i2l, 1) := by decide +kernel
theorem dL_allow_11 : decode cL_allow 11 = .ok (.lastore, 1) := by decide +kernel
theorem dL_allow_12 : decode cL_allow 12 = .ok (.goto 11, 3) := by decide +kernel
theorem dL_allow_15 : decode cL_allow 15 = .ok (.astore 5, 2) := by decide +kernel
theorem dL_allow_17 : decode cL_allow 17 = .ok (.iconst 1, 1) := by decide +kernel
theorem dL_allow_18 : decode cL_allow 18 = .ok (.ireturn, 1) := by decide +kernel
theorem dL_allow_19 : decode cL_allow 19 = .ok (.astore 5, 2) := by decide +kernel
theorem dL_allow_21 : decode cL_allow 21 = .ok (.iconst 2, 1) := by decide +kernel
theorem dL_allow_22 : decode cL_allow 22 = .ok (.ireturn, 1) := by decide +kernel
theorem dL_allow_23 : decode cL_allow 23 = .ok (.iconst 0, 1) := by decide +kernel
theorem dL_allow_24 : decode cL_allow 24 = .ok (.ireturn, 1) := by decide +kernel
theorem dL_setMagic_0 : decode cL_setMagic 0 = .ok (.aload_n 3, 1) := by decide +kernel
theorem dL_setMagic_1 : decode cL_setMagic 1 = .ok (.iconst 0, 1) := by decide +kernel
theorem dL_setMagic_2 : decode cL_setMagic 2 = .ok (.aload_n 0, 1) := by decide +kernel
theorem dL_setMagic_3 : decode cL_setMagic 3 = .ok (.iload_n 1, 1) := by decide +kernel
theorem dL_setMagic_4 : decode cL_setMagic 4 = .ok (.iload_n 2, 1) := by decide +kernel
theorem dL_setMagic_5 : decode cL_setMagic 5 = .ok (.invokevirtual 20, 3) := by decide +kernel
theorem dL_setMagic_8 : decode cL_setMagic 8 = .ok (.i2l, 1) := by decide +kernel
theorem dL_setMagic_9 : decode cL_setMagic 9 = .ok (.lastore, 1) := by decide +kernel
theorem dL_setMagic_10 : decode cL_setMagic 10 = .ok (.goto 7, 3) := by decide +kernel
theorem dL_setMagic_13 : decode cL_setMagic 13 = .ok (.astore 4, 2) := by decide +kernel
theorem dL_setMagic_15 : decode cL_setMagic 15 = .ok (.iconst 1, 1) := by decide +kernel
theorem dL_setMagic_16 : decode cL_setMagic 16 = .ok (.ireturn, 1) := by decide +kernel
theorem dL_setMagic_17 : decode cL_setMagic 17 = .ok (.iconst 0, 1) := by decide +kernel
theorem dL_setMagic_18 : decode cL_setMagic 18 = .ok (.ireturn, 1) := by decide +kernel
theorem dL_open_0 : decode cL_open 0 = .ok (.aload_n 2, 1) := by decide +kernel
theorem dL_open_1 : decode cL_open 1 = .ok (.iconst 0, 1) := by decide +kernel
theorem dL_open_2 : decode cL_open 2 = .ok (.aload_n 0, 1) := by decide +kernel
theorem dL_open_3 : decode cL_open 3 = .ok (.iload_n 1, 1) := by decide +kernel
theorem dL_open_4 : decode cL_open 4 = .ok (.invokevirtual 24, 3) := by decide +kernel
theorem dL_open_7 : decode cL_open 7 = .ok (.i2l, 1) := by decide +kernel
theorem dL_open_8 : decode cL_open 8 = .ok (.lastore, 1) := by decide +kernel
theorem dL_open_9 : decode cL_open 9 = .ok (.goto 9, 3) := by decide +kernel
theorem dL_open_12 : decode cL_open 12 = .ok (.astore_n 3, 1) := by decide +kernel
theorem dL_open_13 : decode cL_open 13 = .ok (.iconst 1, 1) := by decide +kernel
theorem dL_open_14 : decode cL_open 14 = .ok (.ireturn, 1) := by decide +kernel
theorem dL_open_15 : decode cL_open 15 = .ok (.astore_n 3, 1) := by decide +kernel
theorem dL_open_16 : decode cL_open 16 = .ok (.iconst 2, 1) := by decide +kernel
theorem dL_open_17 : decode cL_open 17 = .ok (.ireturn, 1) := by decide +kernel
theorem dL_open_18 : decode cL_open 18 = .ok (.iconst 0, 1) := by decide +kernel
theorem dL_open_19 : decode cL_open 19 = .ok (.ireturn, 1) := by decide +kernel
theorem dL_close_0 : decode cL_close 0 = .ok (.aload_n 2, 1) := by decide +kernel
theorem dL_close_1 : decode cL_close 1 = .ok (.iconst 0, 1) := by decide +kernel
theorem dL_close_2 : decode cL_close 2 = .ok (.aload_n 0, 1) := by decide +kernel
theorem dL_close_3 : decode cL_close 3 = .ok (.iload_n 1, 1) := by decide +kernel
theorem dL_close_4 : decode cL_close 4 = .ok (.invokevirtual 30, 3) := by decide +kernel
theorem dL_close_7 : decode cL_close 7 = .ok (.i2l, 1) := by decide +kernel
theorem dL_close_8 : decode cL_close 8 = .ok (.lastore, 1) := by decide +kernel
theorem dL_close_9 : decode cL_close 9 = .ok (.goto 9, 3) := by decide +kernel
theorem dL_close_12 : decode cL_close 12 = .ok (.astore_n 3, 1) := by decide +kernel
theorem dL_close_13 : decode cL_close 13 = .ok (.iconst 1, 1) := by decide +kernel
theorem dL_close_14 : decode cL_close 14 = .ok (.ireturn, 1) := by decide +kernel
theorem dL_close_15 : decode cL_close 15 = .ok (.astore_n 3, 1) := by decide +kernel
theorem dL_close_16 : decode cL_close 16 = .ok (.iconst 2, 1) := by decide +kernel
theorem dL_close_17 : decode cL_close 17 = .ok (.ireturn, 1) := by decide +kernel
theorem dL_close_18 : decode cL_close 18 = .ok (.iconst 0, 1) := by decide +kernel
theorem dL_close_19 : decode cL_close 19 = .ok (.ireturn, 1) := by decide +kernel
theorem dL_deliver_0 : decode cL_deliver 0 = .ok (.aload_n 2, 1) := by decide +kernel
theorem dL_deliver_1 : decode cL_deliver 1 = .ok (.iconst 0, 1) := by decide +kernel
theorem dL_deliver_2 : decode cL_deliver 2 = .ok (.aload_n 0, 1) := by decide +kernel
theorem dL_deliver_3 : decode cL_deliver 3 = .ok (.iload_n 1, 1) := by decide +kernel
theorem dL_deliver_4 : decode cL_deliver 4 = .ok (.invokevirtual 33, 3) := by decide +kernel
theorem dL_deliver_7 : decode cL_deliver 7 = .ok (.i2l, 1) := by decide +kernel
theorem dL_deliver_8 : decode cL_deliver 8 = .ok (.lastore, 1) := by decide +kernel
theorem dL_deliver_9 : decode cL_deliver 9 = .ok (.goto 9, 3) := by decide +kernel
theorem dL_deliver_12 : decode cL_deliver 12 = .ok (.astore_n 3, 1) := by decide +kernel
theorem dL_deliver_13 : decode cL_deliver 13 = .ok (.iconst 1, 1) := by decide +kernel
theorem dL_deliver_14 : decode cL_deliver 14 = .ok (.ireturn, 1) := by decide +kernel
theorem dL_deliver_15 : decode cL_deliver 15 = .ok (.astore_n 3, 1) := by decide +kernel
theorem dL_deliver_16 : decode cL_deliver 16 = .ok (.iconst 2, 1) := by decide +kernel
theorem dL_deliver_17 : decode cL_deliver 17 = .ok (.ireturn, 1) := by decide +kernel
theorem dL_deliver_18 : decode cL_deliver 18 = .ok (.iconst 0, 1) := by decide +kernel
theorem dL_deliver_19 : decode cL_deliver 19 = .ok (.ireturn, 1) := by decide +kernel
theorem dL_lose_0 : decode cL_lose 0 = .ok (.aload_n 2, 1) := by decide +kernel
theorem dL_lose_1 : decode cL_lose 1 = .ok (.iconst 0, 1) := by decide +kernel
theorem dL_lose_2 : decode cL_lose 2 = .ok (.aload_n 0, 1) := by decide +kernel
theorem dL_lose_3 : decode cL_lose 3 = .ok (.iload_n 1, 1) := by decide +kernel
theorem dL_lose_4 : decode cL_lose 4 = .ok (.invokevirtual 36, 3) := by decide +kernel
theorem dL_lose_7 : decode cL_lose 7 = .ok (.i2l, 1) := by decide +kernel
theorem dL_lose_8 : decode cL_lose 8 = .ok (.lastore, 1) := by decide +kernel
theorem dL_lose_9 : decode cL_lose 9 = .ok (.goto 9, 3) := by decide +kernel
theorem dL_lose_12 : decode cL_lose 12 = .ok (.astore_n 3, 1) := by decide +kernel
theorem dL_lose_13 : decode cL_lose 13 = .ok (.iconst 1, 1) := by decide +kernel
theorem dL_lose_14 : decode cL_lose 14 = .ok (.ireturn, 1) := by decide +kernel
theorem dL_lose_15 : decode cL_lose 15 = .ok (.astore_n 3, 1) := by decide +kernel
theorem dL_lose_16 : decode cL_lose 16 = .ok (.iconst 2, 1) := by decide +kernel
theorem dL_lose_17 : decode cL_lose 17 = .ok (.ireturn, 1) := by decide +kernel
theorem dL_lose_18 : decode cL_lose 18 = .ok (.iconst 0, 1) := by decide +kernel
theorem dL_lose_19 : decode cL_lose 19 = .ok (.ireturn, 1) := by decide +kernel
theorem dL_loop_0 : decode cL_loop 0 = .ok (.aload_n 2, 1) := by decide +kernel
theorem dL_loop_1 : decode cL_loop 1 = .ok (.iconst 0, 1) := by decide +kernel
theorem dL_loop_2 : decode cL_loop 2 = .ok (.aload_n 0, 1) := by decide +kernel
theorem dL_loop_3 : decode cL_loop 3 = .ok (.iload_n 1, 1) := by decide +kernel
theorem dL_loop_4 : decode cL_loop 4 = .ok (.invokevirtual 39, 3) := by decide +kernel
theorem dL_loop_7 : decode cL_loop 7 = .ok (.i2l, 1) := by decide +kernel
theorem dL_loop_8 : decode cL_loop 8 = .ok (.lastore, 1) := by decide +kernel
theorem dL_loop_9 : decode cL_loop 9 = .ok (.goto 9, 3) := by decide +kernel
theorem dL_loop_12 : decode cL_loop 12 = .ok (.astore_n 3, 1) := by decide +kernel
theorem dL_loop_13 : decode cL_loop 13 = .ok (.iconst 1, 1) := by decide +kernel
theorem dL_loop_14 : decode cL_loop 14 = .ok (.ireturn, 1) := by decide +kernel
theorem dL_loop_15 : decode cL_loop 15 = .ok (.astore_n 3, 1) := by decide +kernel
theorem dL_loop_16 : decode cL_loop 16 = .ok (.iconst 2, 1) := by decide +kernel
theorem dL_loop_17 : decode cL_loop 17 = .ok (.ireturn, 1) := by decide +kernel
theorem dL_loop_18 : decode cL_loop 18 = .ok (.iconst 0, 1) := by decide +kernel
theorem dL_loop_19 : decode cL_loop 19 = .ok (.ireturn, 1) := by decide +kernel
theorem dL_pass_0 : decode cL_pass 0 = .ok (.aload_n 2, 1) := by decide +kernel
theorem dL_pass_1 : decode cL_pass 1 = .ok (.iconst 0, 1) := by decide +kernel
theorem dL_pass_2 : decode cL_pass 2 = .ok (.aload_n 0, 1) := by decide +kernel
theorem dL_pass_3 : decode cL_pass 3 = .ok (.iload_n 1, 1) := by decide +kernel
theorem dL_pass_4 : decode cL_pass 4 = .ok (.invokevirtual 42, 3) := by decide +kernel
theorem dL_pass_7 : decode cL_pass 7 = .ok (.i2l, 1) := by decide +kernel
theorem dL_pass_8 : decode cL_pass 8 = .ok (.lastore, 1) := by decide +kernel
theorem dL_pass_9 : decode cL_pass 9 = .ok (.goto 6, 3) := by decide +kernel
theorem dL_pass_12 : decode cL_pass 12 = .ok (.astore_n 3, 1) := by decide +kernel
theorem dL_pass_13 : decode cL_pass 13 = .ok (.iconst 1, 1) := by decide +kernel
theorem dL_pass_14 : decode cL_pass 14 = .ok (.ireturn, 1) := by decide +kernel
theorem dL_pass_15 : decode cL_pass 15 = .ok (.iconst 0, 1) := by decide +kernel
theorem dL_pass_16 : decode cL_pass 16 = .ok (.ireturn, 1) := by decide +kernel
theorem dL_stateOf_0 : decode cL_stateOf 0 = .ok (.aload_n 2, 1) := by decide +kernel
theorem dL_stateOf_1 : decode cL_stateOf 1 = .ok (.iconst 0, 1) := by decide +kernel
theorem dL_stateOf_2 : decode cL_stateOf 2 = .ok (.aload_n 0, 1) := by decide +kernel
theorem dL_stateOf_3 : decode cL_stateOf 3 = .ok (.iload_n 1, 1) := by decide +kernel
theorem dL_stateOf_4 : decode cL_stateOf 4 = .ok (.invokevirtual 45, 3) := by decide +kernel
theorem dL_stateOf_7 : decode cL_stateOf 7 = .ok (.i2l, 1) := by decide +kernel
theorem dL_stateOf_8 : decode cL_stateOf 8 = .ok (.lastore, 1) := by decide +kernel
theorem dL_stateOf_9 : decode cL_stateOf 9 = .ok (.goto 6, 3) := by decide +kernel
theorem dL_stateOf_12 : decode cL_stateOf 12 = .ok (.astore_n 3, 1) := by decide +kernel
theorem dL_stateOf_13 : decode cL_stateOf 13 = .ok (.iconst 1, 1) := by decide +kernel
theorem dL_stateOf_14 : decode cL_stateOf 14 = .ok (.ireturn, 1) := by decide +kernel
theorem dL_stateOf_15 : decode cL_stateOf 15 = .ok (.iconst 0, 1) := by decide +kernel
theorem dL_stateOf_16 : decode cL_stateOf 16 = .ok (.ireturn, 1) := by decide +kernel
theorem dL_asked_0 : decode cL_asked 0 = .ok (.aload_n 3, 1) := by decide +kernel
theorem dL_asked_1 : decode cL_asked 1 = .ok (.iconst 0, 1) := by decide +kernel
theorem dL_asked_2 : decode cL_asked 2 = .ok (.aload_n 0, 1) := by decide +kernel
theorem dL_asked_3 : decode cL_asked 3 = .ok (.iload_n 1, 1) := by decide +kernel
theorem dL_asked_4 : decode cL_asked 4 = .ok (.iload_n 2, 1) := by decide +kernel
theorem dL_asked_5 : decode cL_asked 5 = .ok (.invokevirtual 48, 3) := by decide +kernel
theorem dL_asked_8 : decode cL_asked 8 = .ok (.i2l, 1) := by decide +kernel
theorem dL_asked_9 : decode cL_asked 9 = .ok (.lastore, 1) := by decide +kernel
theorem dL_asked_10 : decode cL_asked 10 = .ok (.goto 7, 3) := by decide +kernel
theorem dL_asked_13 : decode cL_asked 13 = .ok (.astore 4, 2) := by decide +kernel
theorem dL_asked_15 : decode cL_asked 15 = .ok (.iconst 1, 1) := by decide +kernel
theorem dL_asked_16 : decode cL_asked 16 = .ok (.ireturn, 1) := by decide +kernel
theorem dL_asked_17 : decode cL_asked 17 = .ok (.iconst 0, 1) := by decide +kernel
theorem dL_asked_18 : decode cL_asked 18 = .ok (.ireturn, 1) := by decide +kernel
theorem dL_requests_0 : decode cL_requests 0 = .ok (.aload_n 2, 1) := by decide +kernel
theorem dL_requests_1 : decode cL_requests 1 = .ok (.iconst 0, 1) := by decide +kernel
theorem dL_requests_2 : decode cL_requests 2 = .ok (.aload_n 0, 1) := by decide +kernel
theorem dL_requests_3 : decode cL_requests 3 = .ok (.iload_n 1, 1) := by decide +kernel
theorem dL_requests_4 : decode cL_requests 4 = .ok (.invokevirtual 51, 3) := by decide +kernel
theorem dL_requests_7 : decode cL_requests 7 = .ok (.i2l, 1) := by decide +kernel
theorem dL_requests_8 : decode cL_requests 8 = .ok (.lastore, 1) := by decide +kernel
theorem dL_requests_9 : decode cL_requests 9 = .ok (.goto 6, 3) := by decide +kernel
theorem dL_requests_12 : decode cL_requests 12 = .ok (.astore_n 3, 1) := by decide +kernel
theorem dL_requests_13 : decode cL_requests 13 = .ok (.iconst 1, 1) := by decide +kernel
theorem dL_requests_14 : decode cL_requests 14 = .ok (.ireturn, 1) := by decide +kernel
theorem dL_requests_15 : decode cL_requests 15 = .ok (.iconst 0, 1) := by decide +kernel
theorem dL_requests_16 : decode cL_requests 16 = .ok (.ireturn, 1) := by decide +kernel
theorem dL_isLooped_0 : decode cL_isLooped 0 = .ok (.aload_n 2, 1) := by decide +kernel
theorem dL_isLooped_1 : decode cL_isLooped 1 = .ok (.iconst 0, 1) := by decide +kernel
theorem dL_isLooped_2 : decode cL_isLooped 2 = .ok (.aload_n 0, 1) := by decide +kernel
theorem dL_isLooped_3 : decode cL_isLooped 3 = .ok (.iload_n 1, 1) := by decide +kernel
theorem dL_isLooped_4 : decode cL_isLooped 4 = .ok (.invokevirtual 54, 3) := by decide +kernel
theorem dL_isLooped_7 : decode cL_isLooped 7 = .ok (.ifCond .eq 7, 3) := by decide +kernel
theorem dL_isLooped_10 : decode cL_isLooped 10 = .ok (.lconst 1, 1) := by decide +kernel
theorem dL_isLooped_11 : decode cL_isLooped 11 = .ok (.goto 4, 3) := by decide +kernel
theorem dL_isLooped_14 : decode cL_isLooped 14 = .ok (.lconst 0, 1) := by decide +kernel
theorem dL_isLooped_15 : decode cL_isLooped 15 = .ok (.lastore, 1) := by decide +kernel
theorem dL_isLooped_16 : decode cL_isLooped 16 = .ok (.goto 6, 3) := by decide +kernel
theorem dL_isLooped_19 : decode cL_isLooped 19 = .ok (.astore_n 3, 1) := by decide +kernel
theorem dL_isLooped_20 : decode cL_isLooped 20 = .ok (.iconst 1, 1) := by decide +kernel
theorem dL_isLooped_21 : decode cL_isLooped 21 = .ok (.ireturn, 1) := by decide +kernel
theorem dL_isLooped_22 : decode cL_isLooped 22 = .ok (.iconst 0, 1) := by decide +kernel
theorem dL_isLooped_23 : decode cL_isLooped 23 = .ok (.ireturn, 1) := by decide +kernel
theorem dL_underWay_0 : decode cL_underWay 0 = .ok (.aload_n 2, 1) := by decide +kernel
theorem dL_underWay_1 : decode cL_underWay 1 = .ok (.iconst 0, 1) := by decide +kernel
theorem dL_underWay_2 : decode cL_underWay 2 = .ok (.aload_n 0, 1) := by decide +kernel
theorem dL_underWay_3 : decode cL_underWay 3 = .ok (.iload_n 1, 1) := by decide +kernel
theorem dL_underWay_4 : decode cL_underWay 4 = .ok (.invokevirtual 58, 3) := by decide +kernel
theorem dL_underWay_7 : decode cL_underWay 7 = .ok (.i2l, 1) := by decide +kernel
theorem dL_underWay_8 : decode cL_underWay 8 = .ok (.lastore, 1) := by decide +kernel
theorem dL_underWay_9 : decode cL_underWay 9 = .ok (.goto 6, 3) := by decide +kernel
theorem dL_underWay_12 : decode cL_underWay 12 = .ok (.astore_n 3, 1) := by decide +kernel
theorem dL_underWay_13 : decode cL_underWay 13 = .ok (.iconst 1, 1) := by decide +kernel
theorem dL_underWay_14 : decode cL_underWay 14 = .ok (.ireturn, 1) := by decide +kernel
theorem dL_underWay_15 : decode cL_underWay 15 = .ok (.iconst 0, 1) := by decide +kernel
theorem dL_underWay_16 : decode cL_underWay 16 = .ok (.ireturn, 1) := by decide +kernel
theorem dL_missed_0 : decode cL_missed 0 = .ok (.aload_n 2, 1) := by decide +kernel
theorem dL_missed_1 : decode cL_missed 1 = .ok (.iconst 0, 1) := by decide +kernel
theorem dL_missed_2 : decode cL_missed 2 = .ok (.aload_n 0, 1) := by decide +kernel
theorem dL_missed_3 : decode cL_missed 3 = .ok (.iload_n 1, 1) := by decide +kernel
theorem dL_missed_4 : decode cL_missed 4 = .ok (.invokevirtual 61, 3) := by decide +kernel
theorem dL_missed_7 : decode cL_missed 7 = .ok (.i2l, 1) := by decide +kernel
theorem dL_missed_8 : decode cL_missed 8 = .ok (.lastore, 1) := by decide +kernel
theorem dL_missed_9 : decode cL_missed 9 = .ok (.goto 6, 3) := by decide +kernel
theorem dL_missed_12 : decode cL_missed 12 = .ok (.astore_n 3, 1) := by decide +kernel
theorem dL_missed_13 : decode cL_missed 13 = .ok (.iconst 1, 1) := by decide +kernel
theorem dL_missed_14 : decode cL_missed 14 = .ok (.ireturn, 1) := by decide +kernel
theorem dL_missed_15 : decode cL_missed 15 = .ok (.iconst 0, 1) := by decide +kernel
theorem dL_missed_16 : decode cL_missed 16 = .ok (.ireturn, 1) := by decide +kernel
theorem dL_send_0 : decode cL_send 0 = .ok (.aload_n 2, 1) := by decide +kernel
theorem dL_send_1 : decode cL_send 1 = .ok (.iconst 0, 1) := by decide +kernel
theorem dL_send_2 : decode cL_send 2 = .ok (.aload_n 0, 1) := by decide +kernel
theorem dL_send_3 : decode cL_send 3 = .ok (.iload_n 1, 1) := by decide +kernel
theorem dL_send_4 : decode cL_send 4 = .ok (.invokevirtual 64, 3) := by decide +kernel
theorem dL_send_7 : decode cL_send 7 = .ok (.i2l, 1) := by decide +kernel
theorem dL_send_8 : decode cL_send 8 = .ok (.lastore, 1) := by decide +kernel
theorem dL_send_9 : decode cL_send 9 = .ok (.goto 9, 3) := by decide +kernel
theorem dL_send_12 : decode cL_send 12 = .ok (.astore_n 3, 1) := by decide +kernel
theorem dL_send_13 : decode cL_send 13 = .ok (.iconst 1, 1) := by decide +kernel
theorem dL_send_14 : decode cL_send 14 = .ok (.ireturn, 1) := by decide +kernel
theorem dL_send_15 : decode cL_send 15 = .ok (.astore_n 3, 1) := by decide +kernel
theorem dL_send_16 : decode cL_send 16 = .ok (.iconst 2, 1) := by decide +kernel
theorem dL_send_17 : decode cL_send 17 = .ok (.ireturn, 1) := by decide +kernel
theorem dL_send_18 : decode cL_send 18 = .ok (.iconst 0, 1) := by decide +kernel
theorem dL_send_19 : decode cL_send 19 = .ok (.ireturn, 1) := by decide +kernel
theorem dL_come_0 : decode cL_come 0 = .ok (.aload_n 2, 1) := by decide +kernel
theorem dL_come_1 : decode cL_come 1 = .ok (.iconst 0, 1) := by decide +kernel
theorem dL_come_2 : decode cL_come 2 = .ok (.aload_n 0, 1) := by decide +kernel
theorem dL_come_3 : decode cL_come 3 = .ok (.iload_n 1, 1) := by decide +kernel
theorem dL_come_4 : decode cL_come 4 = .ok (.invokevirtual 67, 3) := by decide +kernel
theorem dL_come_7 : decode cL_come 7 = .ok (.i2l, 1) := by decide +kernel
theorem dL_come_8 : decode cL_come 8 = .ok (.lastore, 1) := by decide +kernel
theorem dL_come_9 : decode cL_come 9 = .ok (.goto 9, 3) := by decide +kernel
theorem dL_come_12 : decode cL_come 12 = .ok (.astore_n 3, 1) := by decide +kernel
theorem dL_come_13 : decode cL_come 13 = .ok (.iconst 1, 1) := by decide +kernel
theorem dL_come_14 : decode cL_come 14 = .ok (.ireturn, 1) := by decide +kernel
theorem dL_come_15 : decode cL_come 15 = .ok (.astore_n 3, 1) := by decide +kernel
theorem dL_come_16 : decode cL_come 16 = .ok (.iconst 2, 1) := by decide +kernel
theorem dL_come_17 : decode cL_come 17 = .ok (.ireturn, 1) := by decide +kernel
theorem dL_come_18 : decode cL_come 18 = .ok (.iconst 0, 1) := by decide +kernel
theorem dL_come_19 : decode cL_come 19 = .ok (.ireturn, 1) := by decide +kernel
theorem dL_drop_0 : decode cL_drop 0 = .ok (.aload_n 2, 1) := by decide +kernel
theorem dL_drop_1 : decode cL_drop 1 = .ok (.iconst 0, 1) := by decide +kernel
theorem dL_drop_2 : decode cL_drop 2 = .ok (.aload_n 0, 1) := by decide +kernel
theorem dL_drop_3 : decode cL_drop 3 = .ok (.iload_n 1, 1) := by decide +kernel
theorem dL_drop_4 : decode cL_drop 4 = .ok (.invokevirtual 70, 3) := by decide +kernel
theorem dL_drop_7 : decode cL_drop 7 = .ok (.i2l, 1) := by decide +kernel
theorem dL_drop_8 : decode cL_drop 8 = .ok (.lastore, 1) := by decide +kernel
theorem dL_drop_9 : decode cL_drop 9 = .ok (.goto 9, 3) := by decide +kernel
theorem dL_drop_12 : decode cL_drop 12 = .ok (.astore_n 3, 1) := by decide +kernel
theorem dL_drop_13 : decode cL_drop 13 = .ok (.iconst 1, 1) := by decide +kernel
theorem dL_drop_14 : decode cL_drop 14 = .ok (.ireturn, 1) := by decide +kernel
theorem dL_drop_15 : decode cL_drop 15 = .ok (.astore_n 3, 1) := by decide +kernel
theorem dL_drop_16 : decode cL_drop 16 = .ok (.iconst 2, 1) := by decide +kernel
theorem dL_drop_17 : decode cL_drop 17 = .ok (.ireturn, 1) := by decide +kernel
theorem dL_drop_18 : decode cL_drop 18 = .ok (.iconst 0, 1) := by decide +kernel
theorem dL_drop_19 : decode cL_drop 19 = .ok (.ireturn, 1) := by decide +kernel
theorem dL_givenAt_0 : decode cL_givenAt 0 = .ok (.aload_n 2, 1) := by decide +kernel
theorem dL_givenAt_1 : decode cL_givenAt 1 = .ok (.iconst 0, 1) := by decide +kernel
theorem dL_givenAt_2 : decode cL_givenAt 2 = .ok (.aload_n 0, 1) := by decide +kernel
theorem dL_givenAt_3 : decode cL_givenAt 3 = .ok (.iload_n 1, 1) := by decide +kernel
theorem dL_givenAt_4 : decode cL_givenAt 4 = .ok (.invokevirtual 73, 3) := by decide +kernel
theorem dL_givenAt_7 : decode cL_givenAt 7 = .ok (.i2l, 1) := by decide +kernel
theorem dL_givenAt_8 : decode cL_givenAt 8 = .ok (.lastore, 1) := by decide +kernel
theorem dL_givenAt_9 : decode cL_givenAt 9 = .ok (.goto 6, 3) := by decide +kernel
theorem dL_givenAt_12 : decode cL_givenAt 12 = .ok (.astore_n 3, 1) := by decide +kernel
theorem dL_givenAt_13 : decode cL_givenAt 13 = .ok (.iconst 1, 1) := by decide +kernel
theorem dL_givenAt_14 : decode cL_givenAt 14 = .ok (.ireturn, 1) := by decide +kernel
theorem dL_givenAt_15 : decode cL_givenAt 15 = .ok (.iconst 0, 1) := by decide +kernel
theorem dL_givenAt_16 : decode cL_givenAt 16 = .ok (.ireturn, 1) := by decide +kernel
theorem dL_law_0 : decode cL_law 0 = .ok (.new 8, 3) := by decide +kernel
theorem dL_law_3 : decode cL_law 3 = .ok (.dup, 1) := by decide +kernel
theorem dL_law_4 : decode cL_law 4 = .ok (.invokespecial 76, 3) := by decide +kernel
theorem dL_law_7 : decode cL_law 7 = .ok (.astore_n 1, 1) := by decide +kernel
theorem dL_law_8 : decode cL_law 8 = .ok (.new 77, 3) := by decide +kernel
theorem dL_law_11 : decode cL_law 11 = .ok (.dup, 1) := by decide +kernel
theorem dL_law_12 : decode cL_law 12 = .ok (.invokespecial 79, 3) := by decide +kernel
theorem dL_law_15 : decode cL_law 15 = .ok (.astore_n 2, 1) := by decide +kernel
theorem dL_law_16 : decode cL_law 16 = .ok (.iconst 1, 1) := by decide +kernel
theorem dL_law_17 : decode cL_law 17 = .ok (.newarray .long, 2) := by decide +kernel
theorem dL_law_19 : decode cL_law 19 = .ok (.astore_n 3, 1) := by decide +kernel
theorem dL_law_20 : decode cL_law 20 = .ok (.iconst 0, 1) := by decide +kernel
theorem dL_law_21 : decode cL_law 21 = .ok (.istore 4, 2) := by decide +kernel
theorem dL_law_23 : decode cL_law 23 = .ok (.iload 4, 2) := by decide +kernel
theorem dL_law_25 : decode cL_law 25 = .ok (.aload_n 0, 1) := by decide +kernel
theorem dL_law_26 : decode cL_law 26 = .ok (.arraylength, 1) := by decide +kernel
theorem dL_law_27 : decode cL_law 27 = .ok (.iconst 4, 1) := by decide +kernel
theorem dL_law_28 : decode cL_law 28 = .ok (.isub, 1) := by decide +kernel
theorem dL_law_29 : decode cL_law 29 = .ok (.if_icmp .gt 743, 3) := by decide +kernel
theorem dL_law_32 : decode cL_law 32 = .ok (.aload_n 0, 1) := by decide +kernel
theorem dL_law_33 : decode cL_law 33 = .ok (.iload 4, 2) := by decide +kernel
theorem dL_law_35 : decode cL_law 35 = .ok (.iaload, 1) := by decide +kernel
theorem dL_law_36 : decode cL_law 36 = .ok (.bipush 31, 2) := by decide +kernel
theorem dL_law_38 : decode cL_law 38 = .ok (.iand, 1) := by decide +kernel
theorem dL_law_39 : decode cL_law 39 = .ok (.tableswitch 727 0 20 #[97, 149, 201, 241, 269, 297, 325, 353, 381, 409, 437, 477, 505, 533, 561, 589, 617, 645, 673, 686, 714], 97) := by decide +kernel
theorem dL_law_136 : decode cL_law 136 = .ok (.aload_n 1, 1) := by decide +kernel
theorem dL_law_137 : decode cL_law 137 = .ok (.aload_n 0, 1) := by decide +kernel
theorem dL_law_138 : decode cL_law 138 = .ok (.iload 4, 2) := by decide +kernel
theorem dL_law_140 : decode cL_law 140 = .ok (.iconst 1, 1) := by decide +kernel
theorem dL_law_141 : decode cL_law 141 = .ok (.iadd, 1) := by decide +kernel
theorem dL_law_142 : decode cL_law 142 = .ok (.iaload, 1) := by decide +kernel
theorem dL_law_143 : decode cL_law 143 = .ok (.aload_n 0, 1) := by decide +kernel
theorem dL_law_144 : decode cL_law 144 = .ok (.iload 4, 2) := by decide +kernel
theorem dL_law_146 : decode cL_law 146 = .ok (.iconst 2, 1) := by decide +kernel
theorem dL_law_147 : decode cL_law 147 = .ok (.iadd, 1) := by decide +kernel
theorem dL_law_148 : decode cL_law 148 = .ok (.iaload, 1) := by decide +kernel
theorem dL_law_149 : decode cL_law 149 = .ok (.aload_n 0, 1) := by decide +kernel
theorem dL_law_150 : decode cL_law 150 = .ok (.iload 4, 2) := by decide +kernel
theorem dL_law_152 : decode cL_law 152 = .ok (.iconst 3, 1) := by decide +kernel
theorem dL_law_153 : decode cL_law 153 = .ok (.iadd, 1) := by decide +kernel
theorem dL_law_154 : decode cL_law 154 = .ok (.iaload, 1) := by decide +kernel
theorem dL_law_155 : decode cL_law 155 = .ok (.aload_n 3, 1) := by decide +kernel
theorem dL_law_156 : decode cL_law 156 = .ok (.invokestatic 80, 3) := by decide +kernel
theorem dL_law_159 : decode cL_law 159 = .ok (.istore 5, 2) := by decide +kernel
theorem dL_law_161 : decode cL_law 161 = .ok (.aload_n 2, 1) := by decide +kernel
theorem dL_law_162 : decode cL_law 162 = .ok (.aload_n 0, 1) := by decide +kernel
theorem dL_law_163 : decode cL_law 163 = .ok (.iload 4, 2) := by decide +kernel
theorem dL_law_165 : decode cL_law 165 = .ok (.iconst 1, 1) := by decide +kernel
theorem dL_law_166 : decode cL_law 166 = .ok (.iadd, 1) := by decide +kernel
theorem dL_law_167 : decode cL_law 167 = .ok (.iaload, 1) := by decide +kernel
theorem dL_law_168 : decode cL_law 168 = .ok (.aload_n 0, 1) := by decide +kernel
theorem dL_law_169 : decode cL_law 169 = .ok (.iload 4, 2) := by decide +kernel
theorem dL_law_171 : decode cL_law 171 = .ok (.iconst 2, 1) := by decide +kernel
theorem dL_law_172 : decode cL_law 172 = .ok (.iadd, 1) := by decide +kernel
theorem dL_law_173 : decode cL_law 173 = .ok (.iaload, 1) := by decide +kernel
theorem dL_law_174 : decode cL_law 174 = .ok (.aload_n 0, 1) := by decide +kernel
theorem dL_law_175 : decode cL_law 175 = .ok (.iload 4, 2) := by decide +kernel
theorem dL_law_177 : decode cL_law 177 = .ok (.iconst 3, 1) := by decide +kernel
theorem dL_law_178 : decode cL_law 178 = .ok (.iadd, 1) := by decide +kernel
theorem dL_law_179 : decode cL_law 179 = .ok (.iaload, 1) := by decide +kernel
theorem dL_law_180 : decode cL_law 180 = .ok (.invokevirtual 85, 3) := by decide +kernel
theorem dL_law_183 : decode cL_law 183 = .ok (.istore 6, 2) := by decide +kernel
theorem dL_law_185 : decode cL_law 185 = .ok (.goto 581, 3) := by decide +kernel
theorem dL_law_188 : decode cL_law 188 = .ok (.aload_n 1, 1) := by decide +kernel
theorem dL_law_189 : decode cL_law 189 = .ok (.aload_n 0, 1) := by decide +kernel
theorem dL_law_190 : decode cL_law 190 = .ok (.iload 4, 2) := by decide +kernel
theorem dL_law_192 : decode cL_law 192 = .ok (.iconst 1, 1) := by decide +kernel
theorem dL_law_193 : decode cL_law 193 = .ok (.iadd, 1) := by decide +kernel
theorem dL_law_194 : decode cL_law 194 = .ok (.iaload, 1) := by decide +kernel
theorem dL_law_195 : decode cL_law 195 = .ok (.aload_n 0, 1) := by decide +kernel
theorem dL_law_196 : decode cL_law 196 = .ok (.iload 4, 2) := by decide +kernel
theorem dL_law_198 : decode cL_law 198 = .ok (.iconst 2, 1) := by decide +kernel
theorem dL_law_199 : decode cL_law 199 = .ok (.iadd, 1) := by decide +kernel
theorem dL_law_200 : decode cL_law 200 = .ok (.iaload, 1) := by decide +kernel
theorem dL_law_201 : decode cL_law 201 = .ok (.aload_n 0, 1) := by decide +kernel
theorem dL_law_202 : decode cL_law 202 = .ok (.iload 4, 2) := by decide +kernel
theorem dL_law_204 : decode cL_law 204 = .ok (.iconst 3, 1) := by decide +kernel
theorem dL_law_205 : decode cL_law 205 = .ok (.iadd, 1) := by decide +kernel
theorem dL_law_206 : decode cL_law 206 = .ok (.iaload, 1) := by decide +kernel
theorem dL_law_207 : decode cL_law 207 = .ok (.aload_n 3, 1) := by decide +kernel
theorem dL_law_208 : decode cL_law 208 = .ok (.invokestatic 86, 3) := by decide +kernel
theorem dL_law_211 : decode cL_law 211 = .ok (.istore 5, 2) := by decide +kernel
theorem dL_law_213 : decode cL_law 213 = .ok (.aload_n 2, 1) := by decide +kernel
theorem dL_law_214 : decode cL_law 214 = .ok (.aload_n 0, 1) := by decide +kernel
theorem dL_law_215 : decode cL_law 215 = .ok (.iload 4, 2) := by decide +kernel
theorem dL_law_217 : decode cL_law 217 = .ok (.iconst 1, 1) := by decide +kernel
theorem dL_law_218 : decode cL_law 218 = .ok (.iadd, 1) := by decide +kernel
theorem dL_law_219 : decode cL_law 219 = .ok (.iaload, 1) := by decide +kernel
theorem dL_law_220 : decode cL_law 220 = .ok (.aload_n 0, 1) := by decide +kernel
theorem dL_law_221 : decode cL_law 221 = .ok (.iload 4, 2) := by decide +kernel
theorem dL_law_223 : decode cL_law 223 = .ok (.iconst 2, 1) := by decide +kernel
theorem dL_law_224 : decode cL_law 224 = .ok (.iadd, 1) := by decide +kernel
theorem dL_law_225 : decode cL_law 225 = .ok (.iaload, 1) := by decide +kernel
theorem dL_law_226 : decode cL_law 226 = .ok (.aload_n 0, 1) := by decide +kernel
theorem dL_law_227 : decode cL_law 227 = .ok (.iload 4, 2) := by decide +kernel
theorem dL_law_229 : decode cL_law 229 = .ok (.iconst 3, 1) := by decide +kernel
theorem dL_law_230 : decode cL_law 230 = .ok (.iadd, 1) := by decide +kernel
theorem dL_law_231 : decode cL_law 231 = .ok (.iaload, 1) := by decide +kernel
theorem dL_law_232 : decode cL_law 232 = .ok (.invokevirtual 88, 3) := by decide +kernel
theorem dL_law_235 : decode cL_law 235 = .ok (.istore 6, 2) := by decide +kernel
theorem dL_law_237 : decode cL_law 237 = .ok (.goto 529, 3) := by decide +kernel
theorem dL_law_240 : decode cL_law 240 = .ok (.aload_n 1, 1) := by decide +kernel
theorem dL_law_241 : decode cL_law 241 = .ok (.aload_n 0, 1) := by decide +kernel
theorem dL_law_242 : decode cL_law 242 = .ok (.iload 4, 2) := by decide +kernel
theorem dL_law_244 : decode cL_law 244 = .ok (.iconst 1, 1) := by decide +kernel
theorem dL_law_245 : decode cL_law 245 = .ok (.iadd, 1) := by decide +kernel
theorem dL_law_246 : decode cL_law 246 = .ok (.iaload, 1) := by decide +kernel
theorem dL_law_247 : decode cL_law 247 = .ok (.aload_n 0, 1) := by decide +kernel
theorem dL_law_248 : decode cL_law 248 = .ok (.iload 4, 2) := by decide +kernel
theorem dL_law_250 : decode cL_law 250 = .ok (.iconst 2, 1) := by decide +kernel
theorem dL_law_251 : decode cL_law 251 = .ok (.iadd, 1) := by decide +kernel
theorem dL_law_252 : decode cL_law 252 = .ok (.iaload, 1) := by decide +kernel
theorem dL_law_253 : decode cL_law 253 = .ok (.aload_n 3, 1) := by decide +kernel
theorem dL_law_254 : decode cL_law 254 = .ok (.invokestatic 89, 3) := by decide +kernel
theorem dL_law_257 : decode cL_law 257 = .ok (.istore 5, 2) := by decide +kernel
theorem dL_law_259 : decode cL_law 259 = .ok (.aload_n 2, 1) := by decide +kernel
theorem dL_law_260 : decode cL_law 260 = .ok (.aload_n 0, 1) := by decide +kernel
theorem dL_law_261 : decode cL_law 261 = .ok (.iload 4, 2) := by decide +kernel
theorem dL_law_263 : decode cL_law 263 = .ok (.iconst 1, 1) := by decide +kernel
theorem dL_law_264 : decode cL_law 264 = .ok (.iadd, 1) := by decide +kernel
theorem dL_law_265 : decode cL_law 265 = .ok (.iaload, 1) := by decide +kernel
theorem dL_law_266 : decode cL_law 266 = .ok (.aload_n 0, 1) := by decide +kernel
theorem dL_law_267 : decode cL_law 267 = .ok (.iload 4, 2) := by decide +kernel
theorem dL_law_269 : decode cL_law 269 = .ok (.iconst 2, 1) := by decide +kernel
theorem dL_law_270 : decode cL_law 270 = .ok (.iadd, 1) := by decide +kernel
theorem dL_law_271 : decode cL_law 271 = .ok (.iaload, 1) := by decide +kernel
theorem dL_law_272 : decode cL_law 272 = .ok (.invokevirtual 92, 3) := by decide +kernel
theorem dL_law_275 : decode cL_law 275 = .ok (.istore 6, 2) := by decide +kernel
theorem dL_law_277 : decode cL_law 277 = .ok (.goto 489, 3) := by decide +kernel
theorem dL_law_280 : decode cL_law 280 = .ok (.aload_n 1, 1) := by decide +kernel
theorem dL_law_281 : decode cL_law 281 = .ok (.aload_n 0, 1) := by decide +kernel
theorem dL_law_282 : decode cL_law 282 = .ok (.iload 4, 2) := by decide +kernel
theorem dL_law_284 : decode cL_law 284 = .ok (.iconst 1, 1) := by decide +kernel
theorem dL_law_285 : decode cL_law 285 = .ok (.iadd, 1) := by decide +kernel
theorem dL_law_286 : decode cL_law 286 = .ok (.iaload, 1) := by decide +kernel
theorem dL_law_287 : decode cL_law 287 = .ok (.aload_n 3, 1) := by decide +kernel
theorem dL_law_288 : decode cL_law 288 = .ok (.invokestatic 93, 3) := by decide +kernel
theorem dL_law_291 : decode cL_law 291 = .ok (.istore 5, 2) := by decide +kernel
theorem dL_law_293 : decode cL_law 293 = .ok (.aload_n 2, 1) := by decide +kernel
theorem dL_law_294 : decode cL_law 294 = .ok (.aload_n 0, 1) := by decide +kernel
theorem dL_law_295 : decode cL_law 295 = .ok (.iload 4, 2) := by decide +kernel
theorem dL_law_297 : decode cL_law 297 = .ok (.iconst 1, 1) := by decide +kernel
theorem dL_law_298 : decode cL_law 298 = .ok (.iadd, 1) := by decide +kernel
theorem dL_law_299 : decode cL_law 299 = .ok (.iaload, 1) := by decide +kernel
theorem dL_law_300 : decode cL_law 300 = .ok (.invokevirtual 96, 3) := by decide +kernel
theorem dL_law_303 : decode cL_law 303 = .ok (.istore 6, 2) := by decide +kernel
theorem dL_law_305 : decode cL_law 305 = .ok (.goto 461, 3) := by decide +kernel
theorem dL_law_308 : decode cL_law 308 = .ok (.aload_n 1, 1) := by decide +kernel
theorem dL_law_309 : decode cL_law 309 = .ok (.aload_n 0, 1) := by decide +kernel
theorem dL_law_310 : decode cL_law 310 = .ok (.iload 4, 2) := by decide +kernel
theorem dL_law_312 : decode cL_law 312 = .ok (.iconst 1, 1) := by decide +kernel
theorem dL_law_313 : decode cL_law 313 = .ok (.iadd, 1) := by decide +kernel
theorem dL_law_314 : decode cL_law 314 = .ok (.iaload, 1) := by decide +kernel
theorem dL_law_315 : decode cL_law 315 = .ok (.aload_n 3, 1) := by decide +kernel
theorem dL_law_316 : decode cL_law 316 = .ok (.invokestatic 97, 3) := by decide +kernel
theorem dL_law_319 : decode cL_law 319 = .ok (.istore 5, 2) := by decide +kernel
theorem dL_law_321 : decode cL_law 321 = .ok (.aload_n 2, 1) := by decide +kernel
theorem dL_law_322 : decode cL_law 322 = .ok (.aload_n 0, 1) := by decide +kernel
theorem dL_law_323 : decode cL_law 323 = .ok (.iload 4, 2) := by decide +kernel
theorem dL_law_325 : decode cL_law 325 = .ok (.iconst 1, 1) := by decide +kernel
theorem dL_law_326 : decode cL_law 326 = .ok (.iadd, 1) := by decide +kernel
theorem dL_law_327 : decode cL_law 327 = .ok (.iaload, 1) := by decide +kernel
theorem dL_law_328 : decode cL_law 328 = .ok (.invokevirtual 99, 3) := by decide +kernel
theorem dL_law_331 : decode cL_law 331 = .ok (.istore 6, 2) := by decide +kernel
theorem dL_law_333 : decode cL_law 333 = .ok (.goto 433, 3) := by decide +kernel
theorem dL_law_336 : decode cL_law 336 = .ok (.aload_n 1, 1) := by decide +kernel
theorem dL_law_337 : decode cL_law 337 = .ok (.aload_n 0, 1) := by decide +kernel
theorem dL_law_338 : decode cL_law 338 = .ok (.iload 4, 2) := by decide +kernel
theorem dL_law_340 : decode cL_law 340 = .ok (.iconst 1, 1) := by decide +kernel
theorem dL_law_341 : decode cL_law 341 = .ok (.iadd, 1) := by decide +kernel
theorem dL_law_342 : decode cL_law 342 = .ok (.iaload, 1) := by decide +kernel
theorem dL_law_343 : decode cL_law 343 = .ok (.aload_n 3, 1) := by decide +kernel
theorem dL_law_344 : decode cL_law 344 = .ok (.invokestatic 100, 3) := by decide +kernel
theorem dL_law_347 : decode cL_law 347 = .ok (.istore 5, 2) := by decide +kernel
theorem dL_law_349 : decode cL_law 349 = .ok (.aload_n 2, 1) := by decide +kernel
theorem dL_law_350 : decode cL_law 350 = .ok (.aload_n 0, 1) := by decide +kernel
theorem dL_law_351 : decode cL_law 351 = .ok (.iload 4, 2) := by decide +kernel
theorem dL_law_353 : decode cL_law 353 = .ok (.iconst 1, 1) := by decide +kernel
theorem dL_law_354 : decode cL_law 354 = .ok (.iadd, 1) := by decide +kernel
theorem dL_law_355 : decode cL_law 355 = .ok (.iaload, 1) := by decide +kernel
theorem dL_law_356 : decode cL_law 356 = .ok (.invokevirtual 102, 3) := by decide +kernel
theorem dL_law_359 : decode cL_law 359 = .ok (.istore 6, 2) := by decide +kernel
theorem dL_law_361 : decode cL_law 361 = .ok (.goto 405, 3) := by decide +kernel
theorem dL_law_364 : decode cL_law 364 = .ok (.aload_n 1, 1) := by decide +kernel
theorem dL_law_365 : decode cL_law 365 = .ok (.aload_n 0, 1) := by decide +kernel
theorem dL_law_366 : decode cL_law 366 = .ok (.iload 4, 2) := by decide +kernel
theorem dL_law_368 : decode cL_law 368 = .ok (.iconst 1, 1) := by decide +kernel
theorem dL_law_369 : decode cL_law 369 = .ok (.iadd, 1) := by decide +kernel
theorem dL_law_370 : decode cL_law 370 = .ok (.iaload, 1) := by decide +kernel
theorem dL_law_371 : decode cL_law 371 = .ok (.aload_n 3, 1) := by decide +kernel
theorem dL_law_372 : decode cL_law 372 = .ok (.invokestatic 103, 3) := by decide +kernel
theorem dL_law_375 : decode cL_law 375 = .ok (.istore 5, 2) := by decide +kernel
theorem dL_law_377 : decode cL_law 377 = .ok (.aload_n 2, 1) := by decide +kernel
theorem dL_law_378 : decode cL_law 378 = .ok (.aload_n 0, 1) := by decide +kernel
theorem dL_law_379 : decode cL_law 379 = .ok (.iload 4, 2) := by decide +kernel
theorem dL_law_381 : decode cL_law 381 = .ok (.iconst 1, 1) := by decide +kernel
theorem dL_law_382 : decode cL_law 382 = .ok (.iadd, 1) := by decide +kernel
theorem dL_law_383 : decode cL_law 383 = .ok (.iaload, 1) := by decide +kernel
theorem dL_law_384 : decode cL_law 384 = .ok (.invokevirtual 105, 3) := by decide +kernel
theorem dL_law_387 : decode cL_law 387 = .ok (.istore 6, 2) := by decide +kernel
theorem dL_law_389 : decode cL_law 389 = .ok (.goto 377, 3) := by decide +kernel
theorem dL_law_392 : decode cL_law 392 = .ok (.aload_n 1, 1) := by decide +kernel
theorem dL_law_393 : decode cL_law 393 = .ok (.aload_n 0, 1) := by decide +kernel
theorem dL_law_394 : decode cL_law 394 = .ok (.iload 4, 2) := by decide +kernel
theorem dL_law_396 : decode cL_law 396 = .ok (.iconst 1, 1) := by decide +kernel
theorem dL_law_397 : decode cL_law 397 = .ok (.iadd, 1) := by decide +kernel
theorem dL_law_398 : decode cL_law 398 = .ok (.iaload, 1) := by decide +kernel
theorem dL_law_399 : decode cL_law 399 = .ok (.aload_n 3, 1) := by decide +kernel
theorem dL_law_400 : decode cL_law 400 = .ok (.invokestatic 106, 3) := by decide +kernel
theorem dL_law_403 : decode cL_law 403 = .ok (.istore 5, 2) := by decide +kernel
theorem dL_law_405 : decode cL_law 405 = .ok (.aload_n 2, 1) := by decide +kernel
theorem dL_law_406 : decode cL_law 406 = .ok (.aload_n 0, 1) := by decide +kernel
theorem dL_law_407 : decode cL_law 407 = .ok (.iload 4, 2) := by decide +kernel
theorem dL_law_409 : decode cL_law 409 = .ok (.iconst 1, 1) := by decide +kernel
theorem dL_law_410 : decode cL_law 410 = .ok (.iadd, 1) := by decide +kernel
theorem dL_law_411 : decode cL_law 411 = .ok (.iaload, 1) := by decide +kernel
theorem dL_law_412 : decode cL_law 412 = .ok (.invokevirtual 108, 3) := by decide +kernel
theorem dL_law_415 : decode cL_law 415 = .ok (.istore 6, 2) := by decide +kernel
theorem dL_law_417 : decode cL_law 417 = .ok (.goto 349, 3) := by decide +kernel
theorem dL_law_420 : decode cL_law 420 = .ok (.aload_n 1, 1) := by decide +kernel
theorem dL_law_421 : decode cL_law 421 = .ok (.aload_n 0, 1) := by decide +kernel
theorem dL_law_422 : decode cL_law 422 = .ok (.iload 4, 2) := by decide +kernel
theorem dL_law_424 : decode cL_law 424 = .ok (.iconst 1, 1) := by decide +kernel
theorem dL_law_425 : decode cL_law 425 = .ok (.iadd, 1) := by decide +kernel
theorem dL_law_426 : decode cL_law 426 = .ok (.iaload, 1) := by decide +kernel
theorem dL_law_427 : decode cL_law 427 = .ok (.aload_n 3, 1) := by decide +kernel
theorem dL_law_428 : decode cL_law 428 = .ok (.invokestatic 109, 3) := by decide +kernel
theorem dL_law_431 : decode cL_law 431 = .ok (.istore 5, 2) := by decide +kernel
theorem dL_law_433 : decode cL_law 433 = .ok (.aload_n 2, 1) := by decide +kernel
theorem dL_law_434 : decode cL_law 434 = .ok (.aload_n 0, 1) := by decide +kernel
theorem dL_law_435 : decode cL_law 435 = .ok (.iload 4, 2) := by decide +kernel
theorem dL_law_437 : decode cL_law 437 = .ok (.iconst 1, 1) := by decide +kernel
theorem dL_law_438 : decode cL_law 438 = .ok (.iadd, 1) := by decide +kernel
theorem dL_law_439 : decode cL_law 439 = .ok (.iaload, 1) := by decide +kernel
theorem dL_law_440 : decode cL_law 440 = .ok (.invokevirtual 111, 3) := by decide +kernel
theorem dL_law_443 : decode cL_law 443 = .ok (.istore 6, 2) := by decide +kernel
theorem dL_law_445 : decode cL_law 445 = .ok (.goto 321, 3) := by decide +kernel
theorem dL_law_448 : decode cL_law 448 = .ok (.aload_n 1, 1) := by decide +kernel
theorem dL_law_449 : decode cL_law 449 = .ok (.aload_n 0, 1) := by decide +kernel
theorem dL_law_450 : decode cL_law 450 = .ok (.iload 4, 2) := by decide +kernel
theorem dL_law_452 : decode cL_law 452 = .ok (.iconst 1, 1) := by decide +kernel
theorem dL_law_453 : decode cL_law 453 = .ok (.iadd, 1) := by decide +kernel
theorem dL_law_454 : decode cL_law 454 = .ok (.iaload, 1) := by decide +kernel
theorem dL_law_455 : decode cL_law 455 = .ok (.aload_n 3, 1) := by decide +kernel
theorem dL_law_456 : decode cL_law 456 = .ok (.invokestatic 112, 3) := by decide +kernel
theorem dL_law_459 : decode cL_law 459 = .ok (.istore 5, 2) := by decide +kernel
theorem dL_law_461 : decode cL_law 461 = .ok (.aload_n 2, 1) := by decide +kernel
theorem dL_law_462 : decode cL_law 462 = .ok (.aload_n 0, 1) := by decide +kernel
theorem dL_law_463 : decode cL_law 463 = .ok (.iload 4, 2) := by decide +kernel
theorem dL_law_465 : decode cL_law 465 = .ok (.iconst 1, 1) := by decide +kernel
theorem dL_law_466 : decode cL_law 466 = .ok (.iadd, 1) := by decide +kernel
theorem dL_law_467 : decode cL_law 467 = .ok (.iaload, 1) := by decide +kernel
theorem dL_law_468 : decode cL_law 468 = .ok (.invokevirtual 114, 3) := by decide +kernel
theorem dL_law_471 : decode cL_law 471 = .ok (.istore 6, 2) := by decide +kernel
theorem dL_law_473 : decode cL_law 473 = .ok (.goto 293, 3) := by decide +kernel
theorem dL_law_476 : decode cL_law 476 = .ok (.aload_n 1, 1) := by decide +kernel
theorem dL_law_477 : decode cL_law 477 = .ok (.aload_n 0, 1) := by decide +kernel
theorem dL_law_478 : decode cL_law 478 = .ok (.iload 4, 2) := by decide +kernel
theorem dL_law_480 : decode cL_law 480 = .ok (.iconst 1, 1) := by decide +kernel
theorem dL_law_481 : decode cL_law 481 = .ok (.iadd, 1) := by decide +kernel
theorem dL_law_482 : decode cL_law 482 = .ok (.iaload, 1) := by decide +kernel
theorem dL_law_483 : decode cL_law 483 = .ok (.aload_n 0, 1) := by decide +kernel
theorem dL_law_484 : decode cL_law 484 = .ok (.iload 4, 2) := by decide +kernel
theorem dL_law_486 : decode cL_law 486 = .ok (.iconst 2, 1) := by decide +kernel
theorem dL_law_487 : decode cL_law 487 = .ok (.iadd, 1) := by decide +kernel
theorem dL_law_488 : decode cL_law 488 = .ok (.iaload, 1) := by decide +kernel
theorem dL_law_489 : decode cL_law 489 = .ok (.aload_n 3, 1) := by decide +kernel
theorem dL_law_490 : decode cL_law 490 = .ok (.invokestatic 115, 3) := by decide +kernel
theorem dL_law_493 : decode cL_law 493 = .ok (.istore 5, 2) := by decide +kernel
theorem dL_law_495 : decode cL_law 495 = .ok (.aload_n 2, 1) := by decide +kernel
theorem dL_law_496 : decode cL_law 496 = .ok (.aload_n 0, 1) := by decide +kernel
theorem dL_law_497 : decode cL_law 497 = .ok (.iload 4, 2) := by decide +kernel
theorem dL_law_499 : decode cL_law 499 = .ok (.iconst 1, 1) := by decide +kernel
theorem dL_law_500 : decode cL_law 500 = .ok (.iadd, 1) := by decide +kernel
theorem dL_law_501 : decode cL_law 501 = .ok (.iaload, 1) := by decide +kernel
theorem dL_law_502 : decode cL_law 502 = .ok (.aload_n 0, 1) := by decide +kernel
theorem dL_law_503 : decode cL_law 503 = .ok (.iload 4, 2) := by decide +kernel
theorem dL_law_505 : decode cL_law 505 = .ok (.iconst 2, 1) := by decide +kernel
theorem dL_law_506 : decode cL_law 506 = .ok (.iadd, 1) := by decide +kernel
theorem dL_law_507 : decode cL_law 507 = .ok (.iaload, 1) := by decide +kernel
theorem dL_law_508 : decode cL_law 508 = .ok (.invokevirtual 117, 3) := by decide +kernel
theorem dL_law_511 : decode cL_law 511 = .ok (.istore 6, 2) := by decide +kernel
theorem dL_law_513 : decode cL_law 513 = .ok (.goto 253, 3) := by decide +kernel
theorem dL_law_516 : decode cL_law 516 = .ok (.aload_n 1, 1) := by decide +kernel
theorem dL_law_517 : decode cL_law 517 = .ok (.aload_n 0, 1) := by decide +kernel
theorem dL_law_518 : decode cL_law 518 = .ok (.iload 4, 2) := by decide +kernel
theorem dL_law_520 : decode cL_law 520 = .ok (.iconst 1, 1) := by decide +kernel
theorem dL_law_521 : decode cL_law 521 = .ok (.iadd, 1) := by decide +kernel
theorem dL_law_522 : decode cL_law 522 = .ok (.iaload, 1) := by decide +kernel
theorem dL_law_523 : decode cL_law 523 = .ok (.aload_n 3, 1) := by decide +kernel
theorem dL_law_524 : decode cL_law 524 = .ok (.invokestatic 118, 3) := by decide +kernel
theorem dL_law_527 : decode cL_law 527 = .ok (.istore 5, 2) := by decide +kernel
theorem dL_law_529 : decode cL_law 529 = .ok (.aload_n 2, 1) := by decide +kernel
theorem dL_law_530 : decode cL_law 530 = .ok (.aload_n 0, 1) := by decide +kernel
theorem dL_law_531 : decode cL_law 531 = .ok (.iload 4, 2) := by decide +kernel
theorem dL_law_533 : decode cL_law 533 = .ok (.iconst 1, 1) := by decide +kernel
theorem dL_law_534 : decode cL_law 534 = .ok (.iadd, 1) := by decide +kernel
theorem dL_law_535 : decode cL_law 535 = .ok (.iaload, 1) := by decide +kernel
theorem dL_law_536 : decode cL_law 536 = .ok (.invokevirtual 120, 3) := by decide +kernel
theorem dL_law_539 : decode cL_law 539 = .ok (.istore 6, 2) := by decide +kernel
theorem dL_law_541 : decode cL_law 541 = .ok (.goto 225, 3) := by decide +kernel
theorem dL_law_544 : decode cL_law 544 = .ok (.aload_n 1, 1) := by decide +kernel
theorem dL_law_545 : decode cL_law 545 = .ok (.aload_n 0, 1) := by decide +kernel
theorem dL_law_546 : decode cL_law 546 = .ok (.iload 4, 2) := by decide +kernel
theorem dL_law_548 : decode cL_law 548 = .ok (.iconst 1, 1) := by decide +kernel
theorem dL_law_549 : decode cL_law 549 = .ok (.iadd, 1) := by decide +kernel
theorem dL_law_550 : decode cL_law 550 = .ok (.iaload, 1) := by decide +kernel
theorem dL_law_551 : decode cL_law 551 = .ok (.aload_n 3, 1) := by decide +kernel
theorem dL_law_552 : decode cL_law 552 = .ok (.invokestatic 121, 3) := by decide +kernel
theorem dL_law_555 : decode cL_law 555 = .ok (.istore 5, 2) := by decide +kernel
theorem dL_law_557 : decode cL_law 557 = .ok (.aload_n 2, 1) := by decide +kernel
theorem dL_law_558 : decode cL_law 558 = .ok (.aload_n 0, 1) := by decide +kernel
theorem dL_law_559 : decode cL_law 559 = .ok (.iload 4, 2) := by decide +kernel
theorem dL_law_561 : decode cL_law 561 = .ok (.iconst 1, 1) := by decide +kernel
theorem dL_law_562 : decode cL_law 562 = .ok (.iadd, 1) := by decide +kernel
theorem dL_law_563 : decode cL_law 563 = .ok (.iaload, 1) := by decide +kernel
theorem dL_law_564 : decode cL_law 564 = .ok (.invokevirtual 123, 3) := by decide +kernel
theorem dL_law_567 : decode cL_law 567 = .ok (.istore 6, 2) := by decide +kernel
theorem dL_law_569 : decode cL_law 569 = .ok (.goto 197, 3) := by decide +kernel
theorem dL_law_572 : decode cL_law 572 = .ok (.aload_n 1, 1) := by decide +kernel
theorem dL_law_573 : decode cL_law 573 = .ok (.aload_n 0, 1) := by decide +kernel
theorem dL_law_574 : decode cL_law 574 = .ok (.iload 4, 2) := by decide +kernel
theorem dL_law_576 : decode cL_law 576 = .ok (.iconst 1, 1) := by decide +kernel
theorem dL_law_577 : decode cL_law 577 = .ok (.iadd, 1) := by decide +kernel
theorem dL_law_578 : decode cL_law 578 = .ok (.iaload, 1) := by decide +kernel
theorem dL_law_579 : decode cL_law 579 = .ok (.aload_n 3, 1) := by decide +kernel
theorem dL_law_580 : decode cL_law 580 = .ok (.invokestatic 124, 3) := by decide +kernel
theorem dL_law_583 : decode cL_law 583 = .ok (.istore 5, 2) := by decide +kernel
theorem dL_law_585 : decode cL_law 585 = .ok (.aload_n 2, 1) := by decide +kernel
theorem dL_law_586 : decode cL_law 586 = .ok (.aload_n 0, 1) := by decide +kernel
theorem dL_law_587 : decode cL_law 587 = .ok (.iload 4, 2) := by decide +kernel
theorem dL_law_589 : decode cL_law 589 = .ok (.iconst 1, 1) := by decide +kernel
theorem dL_law_590 : decode cL_law 590 = .ok (.iadd, 1) := by decide +kernel
theorem dL_law_591 : decode cL_law 591 = .ok (.iaload, 1) := by decide +kernel
theorem dL_law_592 : decode cL_law 592 = .ok (.invokevirtual 126, 3) := by decide +kernel
theorem dL_law_595 : decode cL_law 595 = .ok (.istore 6, 2) := by decide +kernel
theorem dL_law_597 : decode cL_law 597 = .ok (.goto 169, 3) := by decide +kernel
theorem dL_law_600 : decode cL_law 600 = .ok (.aload_n 1, 1) := by decide +kernel
theorem dL_law_601 : decode cL_law 601 = .ok (.aload_n 0, 1) := by decide +kernel
theorem dL_law_602 : decode cL_law 602 = .ok (.iload 4, 2) := by decide +kernel
theorem dL_law_604 : decode cL_law 604 = .ok (.iconst 1, 1) := by decide +kernel
theorem dL_law_605 : decode cL_law 605 = .ok (.iadd, 1) := by decide +kernel
theorem dL_law_606 : decode cL_law 606 = .ok (.iaload, 1) := by decide +kernel
theorem dL_law_607 : decode cL_law 607 = .ok (.aload_n 3, 1) := by decide +kernel
theorem dL_law_608 : decode cL_law 608 = .ok (.invokestatic 127, 3) := by decide +kernel
theorem dL_law_611 : decode cL_law 611 = .ok (.istore 5, 2) := by decide +kernel
theorem dL_law_613 : decode cL_law 613 = .ok (.aload_n 2, 1) := by decide +kernel
theorem dL_law_614 : decode cL_law 614 = .ok (.aload_n 0, 1) := by decide +kernel
theorem dL_law_615 : decode cL_law 615 = .ok (.iload 4, 2) := by decide +kernel
theorem dL_law_617 : decode cL_law 617 = .ok (.iconst 1, 1) := by decide +kernel
theorem dL_law_618 : decode cL_law 618 = .ok (.iadd, 1) := by decide +kernel
theorem dL_law_619 : decode cL_law 619 = .ok (.iaload, 1) := by decide +kernel
theorem dL_law_620 : decode cL_law 620 = .ok (.invokevirtual 129, 3) := by decide +kernel
theorem dL_law_623 : decode cL_law 623 = .ok (.istore 6, 2) := by decide +kernel
theorem dL_law_625 : decode cL_law 625 = .ok (.goto 141, 3) := by decide +kernel
theorem dL_law_628 : decode cL_law 628 = .ok (.aload_n 1, 1) := by decide +kernel
theorem dL_law_629 : decode cL_law 629 = .ok (.aload_n 0, 1) := by decide +kernel
theorem dL_law_630 : decode cL_law 630 = .ok (.iload 4, 2) := by decide +kernel
theorem dL_law_632 : decode cL_law 632 = .ok (.iconst 1, 1) := by decide +kernel
theorem dL_law_633 : decode cL_law 633 = .ok (.iadd, 1) := by decide +kernel
theorem dL_law_634 : decode cL_law 634 = .ok (.iaload, 1) := by decide +kernel
theorem dL_law_635 : decode cL_law 635 = .ok (.aload_n 3, 1) := by decide +kernel
theorem dL_law_636 : decode cL_law 636 = .ok (.invokestatic 130, 3) := by decide +kernel
theorem dL_law_639 : decode cL_law 639 = .ok (.istore 5, 2) := by decide +kernel
theorem dL_law_641 : decode cL_law 641 = .ok (.aload_n 2, 1) := by decide +kernel
theorem dL_law_642 : decode cL_law 642 = .ok (.aload_n 0, 1) := by decide +kernel
theorem dL_law_643 : decode cL_law 643 = .ok (.iload 4, 2) := by decide +kernel
theorem dL_law_645 : decode cL_law 645 = .ok (.iconst 1, 1) := by decide +kernel
theorem dL_law_646 : decode cL_law 646 = .ok (.iadd, 1) := by decide +kernel
theorem dL_law_647 : decode cL_law 647 = .ok (.iaload, 1) := by decide +kernel
theorem dL_law_648 : decode cL_law 648 = .ok (.invokevirtual 132, 3) := by decide +kernel
theorem dL_law_651 : decode cL_law 651 = .ok (.istore 6, 2) := by decide +kernel
theorem dL_law_653 : decode cL_law 653 = .ok (.goto 113, 3) := by decide +kernel
theorem dL_law_656 : decode cL_law 656 = .ok (.aload_n 1, 1) := by decide +kernel
theorem dL_law_657 : decode cL_law 657 = .ok (.aload_n 0, 1) := by decide +kernel
theorem dL_law_658 : decode cL_law 658 = .ok (.iload 4, 2) := by decide +kernel
theorem dL_law_660 : decode cL_law 660 = .ok (.iconst 1, 1) := by decide +kernel
theorem dL_law_661 : decode cL_law 661 = .ok (.iadd, 1) := by decide +kernel
theorem dL_law_662 : decode cL_law 662 = .ok (.iaload, 1) := by decide +kernel
theorem dL_law_663 : decode cL_law 663 = .ok (.aload_n 3, 1) := by decide +kernel
theorem dL_law_664 : decode cL_law 664 = .ok (.invokestatic 133, 3) := by decide +kernel
theorem dL_law_667 : decode cL_law 667 = .ok (.istore 5, 2) := by decide +kernel
theorem dL_law_669 : decode cL_law 669 = .ok (.aload_n 2, 1) := by decide +kernel
theorem dL_law_670 : decode cL_law 670 = .ok (.aload_n 0, 1) := by decide +kernel
theorem dL_law_671 : decode cL_law 671 = .ok (.iload 4, 2) := by decide +kernel
theorem dL_law_673 : decode cL_law 673 = .ok (.iconst 1, 1) := by decide +kernel
theorem dL_law_674 : decode cL_law 674 = .ok (.iadd, 1) := by decide +kernel
theorem dL_law_675 : decode cL_law 675 = .ok (.iaload, 1) := by decide +kernel
theorem dL_law_676 : decode cL_law 676 = .ok (.invokevirtual 135, 3) := by decide +kernel
theorem dL_law_679 : decode cL_law 679 = .ok (.istore 6, 2) := by decide +kernel
theorem dL_law_681 : decode cL_law 681 = .ok (.goto 85, 3) := by decide +kernel
theorem dL_law_684 : decode cL_law 684 = .ok (.aload_n 1, 1) := by decide +kernel
theorem dL_law_685 : decode cL_law 685 = .ok (.aload_n 0, 1) := by decide +kernel
theorem dL_law_686 : decode cL_law 686 = .ok (.iload 4, 2) := by decide +kernel
theorem dL_law_688 : decode cL_law 688 = .ok (.iconst 1, 1) := by decide +kernel
theorem dL_law_689 : decode cL_law 689 = .ok (.iadd, 1) := by decide +kernel
theorem dL_law_690 : decode cL_law 690 = .ok (.iaload, 1) := by decide +kernel
theorem dL_law_691 : decode cL_law 691 = .ok (.aload_n 3, 1) := by decide +kernel
theorem dL_law_692 : decode cL_law 692 = .ok (.invokestatic 136, 3) := by decide +kernel
theorem dL_law_695 : decode cL_law 695 = .ok (.istore 5, 2) := by decide +kernel
theorem dL_law_697 : decode cL_law 697 = .ok (.aload_n 2, 1) := by decide +kernel
theorem dL_law_698 : decode cL_law 698 = .ok (.aload_n 0, 1) := by decide +kernel
theorem dL_law_699 : decode cL_law 699 = .ok (.iload 4, 2) := by decide +kernel
theorem dL_law_701 : decode cL_law 701 = .ok (.iconst 1, 1) := by decide +kernel
theorem dL_law_702 : decode cL_law 702 = .ok (.iadd, 1) := by decide +kernel
theorem dL_law_703 : decode cL_law 703 = .ok (.iaload, 1) := by decide +kernel
theorem dL_law_704 : decode cL_law 704 = .ok (.invokevirtual 138, 3) := by decide +kernel
theorem dL_law_707 : decode cL_law 707 = .ok (.istore 6, 2) := by decide +kernel
theorem dL_law_709 : decode cL_law 709 = .ok (.goto 57, 3) := by decide +kernel
theorem dL_law_712 : decode cL_law 712 = .ok (.aload_n 1, 1) := by decide +kernel
theorem dL_law_713 : decode cL_law 713 = .ok (.invokevirtual 139, 3) := by decide +kernel
theorem dL_law_716 : decode cL_law 716 = .ok (.aload_n 2, 1) := by decide +kernel
theorem dL_law_717 : decode cL_law 717 = .ok (.invokevirtual 143, 3) := by decide +kernel
theorem dL_law_720 : decode cL_law 720 = .ok (.if_icmp .eq 46, 3) := by decide +kernel
theorem dL_law_723 : decode cL_law 723 = .ok (.iconst 0, 1) := by decide +kernel
theorem dL_law_724 : decode cL_law 724 = .ok (.ireturn, 1) := by decide +kernel
theorem dL_law_725 : decode cL_law 725 = .ok (.aload_n 1, 1) := by decide +kernel
theorem dL_law_726 : decode cL_law 726 = .ok (.aload_n 0, 1) := by decide +kernel
theorem dL_law_727 : decode cL_law 727 = .ok (.iload 4, 2) := by decide +kernel
theorem dL_law_729 : decode cL_law 729 = .ok (.iconst 1, 1) := by decide +kernel
theorem dL_law_730 : decode cL_law 730 = .ok (.iadd, 1) := by decide +kernel
theorem dL_law_731 : decode cL_law 731 = .ok (.iaload, 1) := by decide +kernel
theorem dL_law_732 : decode cL_law 732 = .ok (.aload_n 3, 1) := by decide +kernel
theorem dL_law_733 : decode cL_law 733 = .ok (.invokestatic 144, 3) := by decide +kernel
theorem dL_law_736 : decode cL_law 736 = .ok (.istore 5, 2) := by decide +kernel
theorem dL_law_738 : decode cL_law 738 = .ok (.aload_n 2, 1) := by decide +kernel
theorem dL_law_739 : decode cL_law 739 = .ok (.aload_n 0, 1) := by decide +kernel
theorem dL_law_740 : decode cL_law 740 = .ok (.iload 4, 2) := by decide +kernel
theorem dL_law_742 : decode cL_law 742 = .ok (.iconst 1, 1) := by decide +kernel
theorem dL_law_743 : decode cL_law 743 = .ok (.iadd, 1) := by decide +kernel
theorem dL_law_744 : decode cL_law 744 = .ok (.iaload, 1) := by decide +kernel
theorem dL_law_745 : decode cL_law 745 = .ok (.invokevirtual 146, 3) := by decide +kernel
theorem dL_law_748 : decode cL_law 748 = .ok (.istore 6, 2) := by decide +kernel
theorem dL_law_750 : decode cL_law 750 = .ok (.goto 16, 3) := by decide +kernel
theorem dL_law_753 : decode cL_law 753 = .ok (.aload_n 1, 1) := by decide +kernel
theorem dL_law_754 : decode cL_law 754 = .ok (.invokevirtual 147, 3) := by decide +kernel
theorem dL_law_757 : decode cL_law 757 = .ok (.pop, 1) := by decide +kernel
theorem dL_law_758 : decode cL_law 758 = .ok (.aload_n 2, 1) := by decide +kernel
theorem dL_law_759 : decode cL_law 759 = .ok (.invokevirtual 150, 3) := by decide +kernel
theorem dL_law_762 : decode cL_law 762 = .ok (.pop, 1) := by decide +kernel
theorem dL_law_763 : decode cL_law 763 = .ok (.goto 3, 3) := by decide +kernel
theorem dL_law_766 : decode cL_law 766 = .ok (.iinc 4 4, 3) := by decide +kernel
theorem dL_law_769 : decode cL_law 769 = .ok (.goto (-746), 3) := by decide +kernel
theorem dL_law_772 : decode cL_law 772 = .ok (.iconst 1, 1) := by decide +kernel
theorem dL_law_773 : decode cL_law 773 = .ok (.ireturn, 1) := by decide +kernel
end
section
abbrev sE (i : Int32) : Prop := i = 0 ∨ i = 1
abbrev sO (o : Int32) : Prop := 0 ≤ o.toInt ∧ o.toInt < 6
abbrev sV (v : Int32) : Prop := -1 ≤ v.toInt ∧ v.toInt ≤ 9
abbrev sA (v : Int32) : Prop := 0 ≤ v.toInt ∧ v.toInt ≤ 1023
abbrev sT (v : Int32) : Prop := 1 ≤ v.toInt ∧ v.toInt ≤ 50
abbrev sP (v : Int32) : Prop := 1 ≤ v.toInt ∧ v.toInt ≤ 4
abbrev sL (v : Int32) : Prop := 0 ≤ v.toInt ∧ v.toInt < 3
theorem jlt {a b : Int32} : a < b ↔ a.toInt < b.toInt := Int32.lt_iff_toInt_lt
theorem jle {a b : Int32} : a ≤ b ↔ a.toInt ≤ b.toInt := Int32.le_iff_toInt_le
theorem tq0 : (0 : Int32).toInt = 0 := rfl
theorem tq1 : (1 : Int32).toInt = 1 := rfl
theorem tq3 : (3 : Int32).toInt = 3 := rfl
theorem tq4 : (4 : Int32).toInt = 4 := rfl
theorem tq5 : (5 : Int32).toInt = 5 := rfl
theorem tq6 : (6 : Int32).toInt = 6 := rfl
theorem tq9 : (9 : Int32).toInt = 9 := rfl
theorem tq50 : (50 : Int32).toInt = 50 := rfl
theorem tq60 : (60 : Int32).toInt = 60 := rfl
theorem tq1023 : (1023 : Int32).toInt = 1023 := rfl
theorem tqm1 : ((-1) : Int32).toInt = (-1) := rfl
theorem tq2 : (2 : Int32).toInt = 2 := rfl
theorem vin6 {o : Int32} (h : sO o) : vp_in o 6 := vp_in_iff.mpr ⟨h.1, h.2⟩

set_option maxHeartbeats 4000000 in
set_option maxRecDepth 100000 in
/-- the end of that number, or a throw -/
theorem c_X4_endAt {l : Launch} (hl : l.stackTraces = false) (G : hG) (f : hM) (xo ez eo bu : Nat) (k_xo : f xo = some (.inr (4, [.ref ez, .ref eo, .ref bu]))) (i : Int32) : CT l yX4_endAt (.code yX4_endAt cX4_endAt 2 (some (.object "OptionLine$End"))) 6 82 1 6 G [.ref xo, .int i] f (fun v f1 => f1 = f ∧ ((i = 0 ∧ v = some (.ref ez)) ∨ (i = 1 ∧ v = some (.ref eo)))) (fun E f1 => f1 = f ∧ E = eI ∧ ¬ sE i) := by
  refine hp_start hl (own := RX4) (by decide) rfl (Nat.le_of_ble_eq_true rfl) ?_
  intro p e s m args below meth c B0 hr hnm hout hw hS ls hl9
  have hx := B0.1
  have hb := B0.2.1
  have hl9 : lv_has ls 2 [(0, .ref xo), (1, .int i)] := hl9
  refine lv_iload_n hx hb dX4_endAt_0 rfl (lv_at hl9 1 rfl) ?_
  refine lv_if_ne (tgt := 9) hx hb dX4_endAt_1 (by decide) (fun c1 => ?_) (fun c1 => ?_)
  · refine lv_iload_n hx hb dX4_endAt_9 rfl (lv_at hl9 1 rfl) ?_
    refine lv_iconst (v := 1) hx hb dX4_endAt_10 (by decide) ?_
    refine lv_icmp_ne (tgt := 19) hx hb dX4_endAt_11 (by decide) (fun c2 => ?_) (fun c2 => ?_)
    · exact hp_throw (cls := eI) (names := tNm) B0 hw hS hout tF_eI qC_X4_137 qN_java_lang_IndexOutOfBoundsException sR_X4_148 tA_eI tB_eI tG_eI hl9.1 dX4_endAt_19 dX4_endAt_22 dX4_endAt_23 dX4_endAt_25 dX4_endAt_28 ⟨⟨Nat.le_of_ble_eq_true rfl, Nat.le_of_ble_eq_true rfl⟩, Nat.le_of_ble_eq_true rfl, Nat.le_of_ble_eq_true rfl⟩ ⟨Nat.le_of_ble_eq_true rfl, Nat.le_of_ble_eq_true rfl⟩ (⟨rfl, rfl, fun h9 => h9.elim c1 c2⟩)
    · refine lv_aload_n hx hb dX4_endAt_14 rfl (lv_at hl9 0 rfl) ?_
      refine hp_get B0 hw 4 rfl in_X4 k_xo 1 (by decide) qF_X4_18 rfl dX4_endAt_15 ?_
      exact hp_aret (v := .ref eo) B0 hw hS hr (Or.inl ⟨_, rfl⟩) (Or.inr ⟨_, rfl⟩) ⟨Nat.le_of_ble_eq_true rfl, Nat.le_of_ble_eq_true rfl⟩ dX4_endAt_18 (⟨rfl, Or.inr ⟨c2, rfl⟩⟩)
  · refine lv_aload_n hx hb dX4_endAt_4 rfl (lv_at hl9 0 rfl) ?_
    refine hp_get B0 hw 4 rfl in_X4 k_xo 0 (by decide) qF_X4_12 rfl dX4_endAt_5 ?_
    exact hp_aret (v := .ref ez) B0 hw hS hr (Or.inl ⟨_, rfl⟩) (Or.inr ⟨_, rfl⟩) ⟨Nat.le_of_ble_eq_true rfl, Nat.le_of_ble_eq_true rfl⟩ dX4_endAt_8 (⟨rfl, Or.inl ⟨c1, rfl⟩⟩)

set_option maxHeartbeats 4000000 in
set_option maxRecDepth 100000 in
theorem c_X4_refuseNoOption {l : Launch} (hl : l.stackTraces = false) (G : hG) (f : hM) (o : Int32) : CT l yX4_refuseNoOption (.code yX4_refuseNoOption cX4_refuseNoOption 1 none) 6 82 1 6 G [.int o] f (fun v f1 => f1 = f ∧ v = none ∧ sO o) (fun E f1 => f1 = f ∧ E = eI ∧ ¬ sO o) := by
  refine hp_start hl (own := RX4) (by decide) rfl (Nat.le_of_ble_eq_true rfl) ?_
  intro p e s m args below meth c B0 hr hnm hout hw hS ls hl9
  have hx := B0.1
  have hb := B0.2.1
  have hl9 : lv_has ls 1 [(0, .int o)] := hl9
  refine lv_iload_n hx hb dX4_refuseNoOption_0 rfl (lv_at hl9 0 rfl) ?_
  refine lv_if_lt (tgt := 10) hx hb dX4_refuseNoOption_1 (by decide) (fun c1 => ?_) (fun c1 => ?_)
  · exact hp_throw (cls := eI) (names := tNm) B0 hw hS hout tF_eI qC_X4_137 qN_java_lang_IndexOutOfBoundsException sR_X4_150 tA_eI tB_eI tG_eI hl9.1 dX4_refuseNoOption_10 dX4_refuseNoOption_13 dX4_refuseNoOption_14 dX4_refuseNoOption_16 dX4_refuseNoOption_19 ⟨⟨Nat.le_of_ble_eq_true rfl, Nat.le_of_ble_eq_true rfl⟩, Nat.le_of_ble_eq_true rfl, Nat.le_of_ble_eq_true rfl⟩ ⟨Nat.le_of_ble_eq_true rfl, Nat.le_of_ble_eq_true rfl⟩ (⟨rfl, rfl, fun h9 => by have h1 := c1; simp only [jlt, jle, tq0, tq6] at h1; omega⟩)
  · refine lv_iload_n hx hb dX4_refuseNoOption_4 rfl (lv_at hl9 0 rfl) ?_
    refine lv_bipush (v := 6) hx hb dX4_refuseNoOption_5 (by decide) ?_
    refine lv_icmp_lt (tgt := 20) hx hb dX4_refuseNoOption_7 (by decide) (fun c2 => ?_) (fun c2 => ?_)
    · exact hp_vret B0 hw hS hr ⟨Nat.le_of_ble_eq_true rfl, Nat.le_of_ble_eq_true rfl⟩ dX4_refuseNoOption_20 (⟨rfl, rfl, by have h1 := c1; have h2 := c2; simp only [jlt, jle, tq0, tq1, tq3, tq4, tq6, tq9, tq50, tq1023, tqm1] at h1; simp only [jlt, jle, tq0, tq1, tq3, tq4, tq6, tq9, tq50, tq1023, tqm1] at h2; omega⟩)
    · exact hp_throw (cls := eI) (names := tNm) B0 hw hS hout tF_eI qC_X4_137 qN_java_lang_IndexOutOfBoundsException sR_X4_150 tA_eI tB_eI tG_eI hl9.1 dX4_refuseNoOption_10 dX4_refuseNoOption_13 dX4_refuseNoOption_14 dX4_refuseNoOption_16 dX4_refuseNoOption_19 ⟨⟨Nat.le_of_ble_eq_true rfl, Nat.le_of_ble_eq_true rfl⟩, Nat.le_of_ble_eq_true rfl, Nat.le_of_ble_eq_true rfl⟩ ⟨Nat.le_of_ble_eq_true rfl, Nat.le_of_ble_eq_true rfl⟩ (⟨rfl, rfl, fun h9 => by have h1 := c2; simp only [jlt, jle, tq0, tq6] at h1; omega⟩)

set_option maxHeartbeats 4000000 in
set_option maxRecDepth 100000 in
theorem c_X1_changeWish {l : Launch} (hl : l.stackTraces = false) (G : hG) (f : hM) (en : Nat) (nw na nq nr : Nat) (mg st tm sr li lp mi : Int32) (k_en : f en = some (.inr (1, [.ref nw, .ref na, .ref nq, .ref nr, .int mg, .int st, .int tm, .int sr, .int li, .int lp, .int mi]))) (gw : Nat → Int32) (k_nw : f nw = some (.inl (cI G, 6, .inl gw))) (o x : Int32) (hop : sO o) : CT l yX1_changeWish (.code yX1_changeWish cX1_changeWish 4 (some .int)) 0 0 0 0 G [.ref en, .int o, .int x] f (fun v f1 => sO o ∧ v = some (.int (gw o.toNatClampNeg)) ∧ f1 = va_up f nw (some (.inl (cI G, 6, .inl (upd gw o.toNatClampNeg x)))) ∧ hKeep [nw] f f1) (fun E f1 => False) := by
  refine hp_start hl (own := RX1) (by decide) rfl (Nat.le_of_ble_eq_true rfl) ?_
  intro p e s m args below meth c B0 hr hnm hout hw hS ls hl9
  have hx := B0.1
  have hb := B0.2.1
  have hl9 : lv_has ls 4 [(0, .ref en), (1, .int o), (2, .int x)] := hl9
  refine lv_aload_n hx hb dX1_changeWish_0 rfl (lv_at hl9 0 rfl) ?_
  refine hp_get B0 hw 1 rfl in_X1 k_en 0 (by decide) qF_X1_9 rfl dX1_changeWish_1 ?_
  refine lv_iload_n hx hb dX1_changeWish_4 rfl (lv_at hl9 1 rfl) ?_
  refine hp_iald B0 hw k_nw (vin6 hop) dX1_changeWish_5 ?_
  refine lv_istore_n (lv' := [(3, .int (gw (o : Int32).toNatClampNeg)), (0, .ref en), (1, .int o), (2, .int x)]) hx hb dX1_changeWish_6 rfl hl9 (by decide) rfl (fun ls hl9 => ?_)
  refine lv_aload_n hx hb dX1_changeWish_7 rfl (lv_at hl9 1 rfl) ?_
  refine hp_get B0 hw 1 rfl in_X1 k_en 0 (by decide) qF_X1_9 rfl dX1_changeWish_8 ?_
  refine lv_iload_n hx hb dX1_changeWish_11 rfl (lv_at hl9 2 rfl) ?_
  refine lv_iload_n hx hb dX1_changeWish_12 rfl (lv_at hl9 3 rfl) ?_
  refine hp_iast B0 hw hS k_nw (vin6 hop) dX1_changeWish_13 (fun H locs f1 ef1 hw hS => ?_)
  have h2 : f1 nw = some (.inl (cI G, 6, .inl (upd gw (o : Int32).toNatClampNeg x))) := by rw [ef1, va_up_self]
  refine lv_iload_n hx hb dX1_changeWish_14 rfl (lv_at hl9 0 rfl) ?_
  exact hp_iret (v := (gw (o : Int32).toNatClampNeg)) B0 hw hS hr ⟨Nat.le_of_ble_eq_true rfl, Nat.le_of_ble_eq_true rfl⟩ dX1_changeWish_15 (⟨hop, rfl, ef1, (show hKeep [nw] f f1 from (by rw [ef1]; exact hKeep.up (by simp)))⟩)

set_option maxHeartbeats 4000000 in
set_option maxRecDepth 100000 in
theorem c_X1_changeAllowed {l : Launch} (hl : l.stackTraces = false) (G : hG) (f : hM) (en : Nat) (nw na nq nr : Nat) (mg st tm sr li lp mi : Int32) (k_en : f en = some (.inr (1, [.ref nw, .ref na, .ref nq, .ref nr, .int mg, .int st, .int tm, .int sr, .int li, .int lp, .int mi]))) (ga : Nat → Int32) (k_na : f na = some (.inl (cI G, 6, .inl ga))) (o x : Int32) (hop : sO o) : CT l yX1_changeAllowed (.code yX1_changeAllowed cX1_changeAllowed 4 (some .int)) 0 0 0 0 G [.ref en, .int o, .int x] f (fun v f1 => sO o ∧ v = some (.int (ga o.toNatClampNeg)) ∧ f1 = va_up f na (some (.inl (cI G, 6, .inl (upd ga o.toNatClampNeg x)))) ∧ hKeep [na] f f1) (fun E f1 => False) := by
  refine hp_start hl (own := RX1) (by decide) rfl (Nat.le_of_ble_eq_true rfl) ?_
  intro p e s m args below meth c B0 hr hnm hout hw hS ls hl9
  have hx := B0.1
  have hb := B0.2.1
  have hl9 : lv_has ls 4 [(0, .ref en), (1, .int o), (2, .int x)] := hl9
  refine lv_aload_n hx hb dX1_changeAllowed_0 rfl (lv_at hl9 0 rfl) ?_
  refine hp_get B0 hw 1 rfl in_X1 k_en 1 (by decide) qF_X1_15 rfl dX1_changeAllowed_1 ?_
  refine lv_iload_n hx hb dX1_changeAllowed_4 rfl (lv_at hl9 1 rfl) ?_
  refine hp_iald B0 hw k_na (vin6 hop) dX1_changeAllowed_5 ?_
  refine lv_istore_n (lv' := [(3, .int (ga (o : Int32).toNatClampNeg)), (0, .ref en), (1, .int o), (2, .int x)]) hx hb dX1_changeAllowed_6 rfl hl9 (by decide) rfl (fun ls hl9 => ?_)
  refine lv_aload_n hx hb dX1_changeAllowed_7 rfl (lv_at hl9 1 rfl) ?_
  refine hp_get B0 hw 1 rfl in_X1 k_en 1 (by decide) qF_X1_15 rfl dX1_changeAllowed_8 ?_
  refine lv_iload_n hx hb dX1_changeAllowed_11 rfl (lv_at hl9 2 rfl) ?_
  refine lv_iload_n hx hb dX1_changeAllowed_12 rfl (lv_at hl9 3 rfl) ?_
  refine hp_iast B0 hw hS k_na (vin6 hop) dX1_changeAllowed_13 (fun H locs f1 ef1 hw hS => ?_)
  have h2 : f1 na = some (.inl (cI G, 6, .inl (upd ga (o : Int32).toNatClampNeg x))) := by rw [ef1, va_up_self]
  refine lv_iload_n hx hb dX1_changeAllowed_14 rfl (lv_at hl9 0 rfl) ?_
  exact hp_iret (v := (ga (o : Int32).toNatClampNeg)) B0 hw hS hr ⟨Nat.le_of_ble_eq_true rfl, Nat.le_of_ble_eq_true rfl⟩ dX1_changeAllowed_15 (⟨hop, rfl, ef1, (show hKeep [na] f f1 from (by rw [ef1]; exact hKeep.up (by simp)))⟩)

theorem hKeep.trn {S : List Nat} {f f2 : hM} {q : Nat} (hq : f q = none) (h2 : hKeep (q :: S) f f2) : hKeep S f f2 := fun a e h n => h2 a e h (ninc (fun z => by rw [z, hq] at h; cases h) n)
def spc (A B : Prop) [Decidable A] [Decidable B] : Int32 := if A then (if B then 0 else 2) else 1
theorem spc_0 {A B : Prop} [Decidable A] [Decidable B] (a : A) (b : B) : spc A B = 0 := by unfold spc; rw [if_pos a, if_pos b]
theorem spc_2 {A B : Prop} [Decidable A] [Decidable B] (a : A) (b : ¬ B) : spc A B = 2 := by unfold spc; rw [if_pos a, if_neg b]
theorem spc_1 {A B : Prop} [Decidable A] [Decidable B] (a : ¬ A) : spc A B = 1 := by unfold spc; rw [if_neg a]

set_option maxHeartbeats 4000000 in
set_option maxRecDepth 100000 in
theorem c_X4_wish {l : Launch} (hl : l.stackTraces = false) (G : hG) (f : hM) (xo ez eo bu : Nat) (k_xo : f xo = some (.inr (4, [.ref ez, .ref eo, .ref bu]))) (nw0 na0 nq0 nr0 : Nat) (mg0 st0 tm0 sr0 li0 lp0 mi0 : Int32) (k_ez : f ez = some (.inr (1, [.ref nw0, .ref na0, .ref nq0, .ref nr0, .int mg0, .int st0, .int tm0, .int sr0, .int li0, .int lp0, .int mi0]))) (nw1 na1 nq1 nr1 : Nat) (mg1 st1 tm1 sr1 li1 lp1 mi1 : Int32) (k_eo : f eo = some (.inr (1, [.ref nw1, .ref na1, .ref nq1, .ref nr1, .int mg1, .int st1, .int tm1, .int sr1, .int li1, .int lp1, .int mi1]))) (gw0 gw1 : Nat → Int32) (k_nw0 : f nw0 = some (.inl (cI G, 6, .inl gw0))) (k_nw1 : f nw1 = some (.inl (cI G, 6, .inl gw1))) (i o x : Int32) : CT l yX4_wish (.code yX4_wish cX4_wish 5 (some .int)) 7 103 3 18 G [.ref xo, .int i, .int o, .int x] f (fun v f1 => spc (sE i ∧ sO o) (sV x) = 0 ∧ ((i = 0 ∧ v = some (.int (gw0 o.toNatClampNeg)) ∧ f1 = va_up f nw0 (some (.inl (cI G, 6, .inl (upd gw0 o.toNatClampNeg x)))) ∧ hKeep [nw0] f f1) ∨ (i = 1 ∧ v = some (.int (gw1 o.toNatClampNeg)) ∧ f1 = va_up f nw1 (some (.inl (cI G, 6, .inl (upd gw1 o.toNatClampNeg x)))) ∧ hKeep [nw1] f f1))) (fun E f1 => f1 = f ∧ ((E = eI ∧ spc (sE i ∧ sO o) (sV x) = 1) ∨ (E = eA ∧ spc (sE i ∧ sO o) (sV x) = 2))) := by
  refine hp_start hl (own := RX4) (by decide) rfl (Nat.le_of_ble_eq_true rfl) ?_
  intro p e s m args below meth c B0 hr hnm hout hw hS ls hl9
  have hx := B0.1
  have hb := B0.2.1
  have hl9 : lv_has ls 5 [(0, .ref xo), (1, .int i), (2, .int o), (3, .int x)] := hl9
  refine lv_aload_n hx hb dX4_wish_0 rfl (lv_at hl9 0 rfl) ?_
  refine lv_iload_n hx hb dX4_wish_1 rfl (lv_at hl9 1 rfl) ?_
  refine hp_V (ci := 4) (As := [.int i]) (rest := []) B0 hw hS (c_X4_endAt hl G f xo ez eo bu k_xo i) mV_X4_endAt qM_X4_28 rfl k_xo rfl rfl hl9.1 (Nat.le_of_ble_eq_true rfl) ⟨⟨Nat.le_of_ble_eq_true rfl, Nat.le_of_ble_eq_true rfl⟩, Nat.le_of_ble_eq_true rfl, Nat.le_of_ble_eq_true rfl⟩ dX4_wish_2 (fun E ce q9 f1 H locs hPX hw hS hce hcv hcl => ?_) (fun v f1 H locs hP hw hS => ?_)
  · obtain ⟨ef9, eE9, hE9⟩ := hPX
    rw [ef9] at hw
    subst eE9
    exact hp_out B0 hw hS hout hce hcv hcl ⟨Nat.le_of_ble_eq_true rfl, Nat.le_of_ble_eq_true rfl⟩ (⟨rfl, Or.inl ⟨rfl, spc_1 (fun h9 => hE9 h9.1)⟩⟩)
  · obtain ⟨ef9, hv9⟩ := hP
    rw [ef9] at hw
    rcases hv9 with ⟨k2, ev9⟩ | ⟨k2, ev9⟩
    · subst ev9
      refine W.eq (g2 := F0 m 5 ls [.ref ez]) rfl ?_
      refine lv_astore (lv' := [(4, .ref ez), (0, .ref xo), (1, .int i), (2, .int o), (3, .int x)]) hx hb dX4_wish_5 hl9 (by decide) rfl (fun ls hl9 => ?_)
      refine lv_iload_n hx hb dX4_wish_7 rfl (lv_at hl9 3 rfl) ?_
      refine hp_S (As := [.int o]) (rest := []) B0 hw hS (c_X4_refuseNoOption hl G f o) mS_X4_refuseNoOption qM_X4_32 rfl rfl hl9.1 (Nat.le_of_ble_eq_true rfl) ⟨⟨Nat.le_of_ble_eq_true rfl, Nat.le_of_ble_eq_true rfl⟩, Nat.le_of_ble_eq_true rfl, Nat.le_of_ble_eq_true rfl⟩ dX4_wish_8 (fun E ce q9 f3 H locs hPX hw hS hce hcv hcl => ?_) (fun v f3 H locs hP hw hS => ?_)
      · obtain ⟨ef9, eE9, hE9⟩ := hPX
        rw [ef9] at hw
        subst eE9
        exact hp_out B0 hw hS hout hce hcv hcl ⟨Nat.le_of_ble_eq_true rfl, Nat.le_of_ble_eq_true rfl⟩ (⟨rfl, Or.inl ⟨rfl, spc_1 (fun h9 => hE9 h9.2)⟩⟩)
      · obtain ⟨ef9, ev9, ho4⟩ := hP
        rw [ef9] at hw
        subst ev9
        refine W.eq (g2 := F0 m 11 ls []) rfl ?_
        refine lv_iload_n hx hb dX4_wish_11 rfl (lv_at hl9 4 rfl) ?_
        refine lv_iconst (v := (-1)) hx hb dX4_wish_12 (by decide) ?_
        refine lv_icmp_lt (tgt := 22) hx hb dX4_wish_13 (by decide) (fun c5 => ?_) (fun c5 => ?_)
        · exact hp_throw (cls := eA) (names := tNm) B0 hw hS hout tF_eA qC_X4_35 qN_java_lang_IllegalArgumentException sR_X4_37 tA_eA tB_eA tG_eA hl9.1 dX4_wish_22 dX4_wish_25 dX4_wish_26 dX4_wish_28 dX4_wish_31 ⟨⟨Nat.le_of_ble_eq_true rfl, Nat.le_of_ble_eq_true rfl⟩, Nat.le_of_ble_eq_true rfl, Nat.le_of_ble_eq_true rfl⟩ ⟨Nat.le_of_ble_eq_true rfl, Nat.le_of_ble_eq_true rfl⟩ (⟨rfl, Or.inr ⟨rfl, spc_2 ⟨(Or.inl k2), ho4⟩ (fun h9 => by have h1 := c5; simp only [jlt, jle, tq0, tq1, tq3, tq4, tq6, tq9, tq50, tq1023, tqm1] at h1; obtain ⟨h3, h4⟩ := h9; omega)⟩⟩)
        · refine lv_iload_n hx hb dX4_wish_16 rfl (lv_at hl9 4 rfl) ?_
          refine lv_bipush (v := 9) hx hb dX4_wish_17 (by decide) ?_
          refine lv_icmp_le (tgt := 32) hx hb dX4_wish_19 (by decide) (fun c6 => ?_) (fun c6 => ?_)
          · refine lv_aload hx hb dX4_wish_32 (lv_at hl9 0 rfl) ?_
            refine lv_iload_n hx hb dX4_wish_34 rfl (lv_at hl9 3 rfl) ?_
            refine lv_iload_n hx hb dX4_wish_35 rfl (lv_at hl9 4 rfl) ?_
            refine hp_V (ci := 1) (As := [.int o, .int x]) (rest := []) B0 hw hS (c_X1_changeWish hl G f ez nw0 na0 nq0 nr0 mg0 st0 tm0 sr0 li0 lp0 mi0 k_ez gw0 k_nw0 o x ho4 ) mV_X1_changeWish qM_X4_42 rfl k_ez rfl rfl hl9.1 (Nat.le_of_ble_eq_true rfl) ⟨⟨Nat.le_of_ble_eq_true rfl, Nat.le_of_ble_eq_true rfl⟩, Nat.le_of_ble_eq_true rfl, Nat.le_of_ble_eq_true rfl⟩ dX4_wish_36 (fun E ce q9 f7 H locs hPX hw hS hce hcv hcl => ?_) (fun v f7 H locs hP hw hS => ?_)
            · exact hPX.elim
            · obtain ⟨ho9, ev9, e8, k9⟩ := hP
              subst ev9
              have h10 : f7 nw0 = some (.inl (cI G, 6, .inl (upd gw0 (o : Int32).toNatClampNeg x))) := by rw [e8, va_up_self]
              refine W.eq (g2 := F0 m 39 ls [.int (gw0 (o : Int32).toNatClampNeg)]) rfl ?_
              exact hp_iret (v := (gw0 (o : Int32).toNatClampNeg)) B0 hw hS hr ⟨Nat.le_of_ble_eq_true rfl, Nat.le_of_ble_eq_true rfl⟩ dX4_wish_39 (⟨spc_0 ⟨(Or.inl k2), ho4⟩ (by have h1 := c5; have h2 := c6; simp only [jlt, jle, tq0, tq1, tq3, tq4, tq6, tq9, tq50, tq1023, tqm1] at h1; simp only [jlt, jle, tq0, tq1, tq3, tq4, tq6, tq9, tq50, tq1023, tqm1] at h2; exact ⟨by omega, by omega⟩), Or.inl ⟨k2, rfl, e8, (show hKeep [nw0] f f7 from (by rw [e8]; exact hKeep.up (by simp)))⟩⟩)
          · exact hp_throw (cls := eA) (names := tNm) B0 hw hS hout tF_eA qC_X4_35 qN_java_lang_IllegalArgumentException sR_X4_37 tA_eA tB_eA tG_eA hl9.1 dX4_wish_22 dX4_wish_25 dX4_wish_26 dX4_wish_28 dX4_wish_31 ⟨⟨Nat.le_of_ble_eq_true rfl, Nat.le_of_ble_eq_true rfl⟩, Nat.le_of_ble_eq_true rfl, Nat.le_of_ble_eq_true rfl⟩ ⟨Nat.le_of_ble_eq_true rfl, Nat.le_of_ble_eq_true rfl⟩ (⟨rfl, Or.inr ⟨rfl, spc_2 ⟨(Or.inl k2), ho4⟩ (fun h9 => by have h1 := c6; simp only [jlt, jle, tq0, tq1, tq3, tq4, tq6, tq9, tq50, tq1023, tqm1] at h1; obtain ⟨h3, h4⟩ := h9; omega)⟩⟩)
    · subst ev9
      refine W.eq (g2 := F0 m 5 ls [.ref eo]) rfl ?_
      refine lv_astore (lv' := [(4, .ref eo), (0, .ref xo), (1, .int i), (2, .int o), (3, .int x)]) hx hb dX4_wish_5 hl9 (by decide) rfl (fun ls hl9 => ?_)
      refine lv_iload_n hx hb dX4_wish_7 rfl (lv_at hl9 3 rfl) ?_
      refine hp_S (As := [.int o]) (rest := []) B0 hw hS (c_X4_refuseNoOption hl G f o) mS_X4_refuseNoOption qM_X4_32 rfl rfl hl9.1 (Nat.le_of_ble_eq_true rfl) ⟨⟨Nat.le_of_ble_eq_true rfl, Nat.le_of_ble_eq_true rfl⟩, Nat.le_of_ble_eq_true rfl, Nat.le_of_ble_eq_true rfl⟩ dX4_wish_8 (fun E ce q9 f11 H locs hPX hw hS hce hcv hcl => ?_) (fun v f11 H locs hP hw hS => ?_)
      · obtain ⟨ef9, eE9, hE9⟩ := hPX
        rw [ef9] at hw
        subst eE9
        exact hp_out B0 hw hS hout hce hcv hcl ⟨Nat.le_of_ble_eq_true rfl, Nat.le_of_ble_eq_true rfl⟩ (⟨rfl, Or.inl ⟨rfl, spc_1 (fun h9 => hE9 h9.2)⟩⟩)
      · obtain ⟨ef9, ev9, ho12⟩ := hP
        rw [ef9] at hw
        subst ev9
        refine W.eq (g2 := F0 m 11 ls []) rfl ?_
        refine lv_iload_n hx hb dX4_wish_11 rfl (lv_at hl9 4 rfl) ?_
        refine lv_iconst (v := (-1)) hx hb dX4_wish_12 (by decide) ?_
        refine lv_icmp_lt (tgt := 22) hx hb dX4_wish_13 (by decide) (fun c13 => ?_) (fun c13 => ?_)
        · exact hp_throw (cls := eA) (names := tNm) B0 hw hS hout tF_eA qC_X4_35 qN_java_lang_IllegalArgumentException sR_X4_37 tA_eA tB_eA tG_eA hl9.1 dX4_wish_22 dX4_wish_25 dX4_wish_26 dX4_wish_28 dX4_wish_31 ⟨⟨Nat.le_of_ble_eq_true rfl, Nat.le_of_ble_eq_true rfl⟩, Nat.le_of_ble_eq_true rfl, Nat.le_of_ble_eq_true rfl⟩ ⟨Nat.le_of_ble_eq_true rfl, Nat.le_of_ble_eq_true rfl⟩ (⟨rfl, Or.inr ⟨rfl, spc_2 ⟨(Or.inr k2), ho12⟩ (fun h9 => by have h1 := c13; simp only [jlt, jle, tq0, tq1, tq3, tq4, tq6, tq9, tq50, tq1023, tqm1] at h1; obtain ⟨h3, h4⟩ := h9; omega)⟩⟩)
        · refine lv_iload_n hx hb dX4_wish_16 rfl (lv_at hl9 4 rfl) ?_
          refine lv_bipush (v := 9) hx hb dX4_wish_17 (by decide) ?_
          refine lv_icmp_le (tgt := 32) hx hb dX4_wish_19 (by decide) (fun c14 => ?_) (fun c14 => ?_)
          · refine lv_aload hx hb dX4_wish_32 (lv_at hl9 0 rfl) ?_
            refine lv_iload_n hx hb dX4_wish_34 rfl (lv_at hl9 3 rfl) ?_
            refine lv_iload_n hx hb dX4_wish_35 rfl (lv_at hl9 4 rfl) ?_
            refine hp_V (ci := 1) (As := [.int o, .int x]) (rest := []) B0 hw hS (c_X1_changeWish hl G f eo nw1 na1 nq1 nr1 mg1 st1 tm1 sr1 li1 lp1 mi1 k_eo gw1 k_nw1 o x ho12 ) mV_X1_changeWish qM_X4_42 rfl k_eo rfl rfl hl9.1 (Nat.le_of_ble_eq_true rfl) ⟨⟨Nat.le_of_ble_eq_true rfl, Nat.le_of_ble_eq_true rfl⟩, Nat.le_of_ble_eq_true rfl, Nat.le_of_ble_eq_true rfl⟩ dX4_wish_36 (fun E ce q9 f15 H locs hPX hw hS hce hcv hcl => ?_) (fun v f15 H locs hP hw hS => ?_)
            · exact hPX.elim
            · obtain ⟨ho9, ev9, e16, k17⟩ := hP
              subst ev9
              have h18 : f15 nw1 = some (.inl (cI G, 6, .inl (upd gw1 (o : Int32).toNatClampNeg x))) := by rw [e16, va_up_self]
              refine W.eq (g2 := F0 m 39 ls [.int (gw1 (o : Int32).toNatClampNeg)]) rfl ?_
              exact hp_iret (v := (gw1 (o : Int32).toNatClampNeg)) B0 hw hS hr ⟨Nat.le_of_ble_eq_true rfl, Nat.le_of_ble_eq_true rfl⟩ dX4_wish_39 (⟨spc_0 ⟨(Or.inr k2), ho12⟩ (by have h1 := c13; have h2 := c14; simp only [jlt, jle, tq0, tq1, tq3, tq4, tq6, tq9, tq50, tq1023, tqm1] at h1; simp only [jlt, jle, tq0, tq1, tq3, tq4, tq6, tq9, tq50, tq1023, tqm1] at h2; exact ⟨by omega, by omega⟩), Or.inr ⟨k2, rfl, e16, (show hKeep [nw1] f f15 from (by rw [e16]; exact hKeep.up (by simp)))⟩⟩)
          · exact hp_throw (cls := eA) (names := tNm) B0 hw hS hout tF_eA qC_X4_35 qN_java_lang_IllegalArgumentException sR_X4_37 tA_eA tB_eA tG_eA hl9.1 dX4_wish_22 dX4_wish_25 dX4_wish_26 dX4_wish_28 dX4_wish_31 ⟨⟨Nat.le_of_ble_eq_true rfl, Nat.le_of_ble_eq_true rfl⟩, Nat.le_of_ble_eq_true rfl, Nat.le_of_ble_eq_true rfl⟩ ⟨Nat.le_of_ble_eq_true rfl, Nat.le_of_ble_eq_true rfl⟩ (⟨rfl, Or.inr ⟨rfl, spc_2 ⟨(Or.inr k2), ho12⟩ (fun h9 => by have h1 := c14; simp only [jlt, jle, tq0, tq1, tq3, tq4, tq6, tq9, tq50, tq1023, tqm1] at h1; obtain ⟨h3, h4⟩ := h9; omega)⟩⟩)

set_option maxHeartbeats 4000000 in
set_option maxRecDepth 100000 in
theorem c_X4_allow {l : Launch} (hl : l.stackTraces = false) (G : hG) (f : hM) (xo ez eo bu : Nat) (k_xo : f xo = some (.inr (4, [.ref ez, .ref eo, .ref bu]))) (nw0 na0 nq0 nr0 : Nat) (mg0 st0 tm0 sr0 li0 lp0 mi0 : Int32) (k_ez : f ez = some (.inr (1, [.ref nw0, .ref na0, .ref nq0, .ref nr0, .int mg0, .int st0, .int tm0, .int sr0, .int li0, .int lp0, .int mi0]))) (nw1 na1 nq1 nr1 : Nat) (mg1 st1 tm1 sr1 li1 lp1 mi1 : Int32) (k_eo : f eo = some (.inr (1, [.ref nw1, .ref na1, .ref nq1, .ref nr1, .int mg1, .int st1, .int tm1, .int sr1, .int li1, .int lp1, .int mi1]))) (ga0 ga1 : Nat → Int32) (k_na0 : f na0 = some (.inl (cI G, 6, .inl ga0))) (k_na1 : f na1 = some (.inl (cI G, 6, .inl ga1))) (i o x : Int32) : CT l yX4_allow (.code yX4_allow cX4_allow 5 (some .int)) 7 103 3 18 G [.ref xo, .int i, .int o, .int x] f (fun v f1 => spc (sE i ∧ sO o) (sA x) = 0 ∧ ((i = 0 ∧ v = some (.int (ga0 o.toNatClampNeg)) ∧ f1 = va_up f na0 (some (.inl (cI G, 6, .inl (upd ga0 o.toNatClampNeg x)))) ∧ hKeep [na0] f f1) ∨ (i = 1 ∧ v = some (.int (ga1 o.toNatClampNeg)) ∧ f1 = va_up f na1 (some (.inl (cI G, 6, .inl (upd ga1 o.toNatClampNeg x)))) ∧ hKeep [na1] f f1))) (fun E f1 => f1 = f ∧ ((E = eI ∧ spc (sE i ∧ sO o) (sA x) = 1) ∨ (E = eA ∧ spc (sE i ∧ sO o) (sA x) = 2))) := by
  refine hp_start hl (own := RX4) (by decide) rfl (Nat.le_of_ble_eq_true rfl) ?_
  intro p e s m args below meth c B0 hr hnm hout hw hS ls hl9
  have hx := B0.1
  have hb := B0.2.1
  have hl9 : lv_has ls 5 [(0, .ref xo), (1, .int i), (2, .int o), (3, .int x)] := hl9
  refine lv_aload_n hx hb dX4_allow_0 rfl (lv_at hl9 0 rfl) ?_
  refine lv_iload_n hx hb dX4_allow_1 rfl (lv_at hl9 1 rfl) ?_
  refine hp_V (ci := 4) (As := [.int i]) (rest := []) B0 hw hS (c_X4_endAt hl G f xo ez eo bu k_xo i) mV_X4_endAt qM_X4_28 rfl k_xo rfl rfl hl9.1 (Nat.le_of_ble_eq_true rfl) ⟨⟨Nat.le_of_ble_eq_true rfl, Nat.le_of_ble_eq_true rfl⟩, Nat.le_of_ble_eq_true rfl, Nat.le_of_ble_eq_true rfl⟩ dX4_allow_2 (fun E ce q9 f1 H locs hPX hw hS hce hcv hcl => ?_) (fun v f1 H locs hP hw hS => ?_)
  · obtain ⟨ef9, eE9, hE9⟩ := hPX
    rw [ef9] at hw
    subst eE9
    exact hp_out B0 hw hS hout hce hcv hcl ⟨Nat.le_of_ble_eq_true rfl, Nat.le_of_ble_eq_true rfl⟩ (⟨rfl, Or.inl ⟨rfl, spc_1 (fun h9 => hE9 h9.1)⟩⟩)
  · obtain ⟨ef9, hv9⟩ := hP
    rw [ef9] at hw
    rcases hv9 with ⟨k2, ev9⟩ | ⟨k2, ev9⟩
    · subst ev9
      refine W.eq (g2 := F0 m 5 ls [.ref ez]) rfl ?_
      refine lv_astore (lv' := [(4, .ref ez), (0, .ref xo), (1, .int i), (2, .int o), (3, .int x)]) hx hb dX4_allow_5 hl9 (by decide) rfl (fun ls hl9 => ?_)
      refine lv_iload_n hx hb dX4_allow_7 rfl (lv_at hl9 3 rfl) ?_
      refine hp_S (As := [.int o]) (rest := []) B0 hw hS (c_X4_refuseNoOption hl G f o) mS_X4_refuseNoOption qM_X4_32 rfl rfl hl9.1 (Nat.le_of_ble_eq_true rfl) ⟨⟨Nat.le_of_ble_eq_true rfl, Nat.le_of_ble_eq_true rfl⟩, Nat.le_of_ble_eq_true rfl, Nat.le_of_ble_eq_true rfl⟩ dX4_allow_8 (fun E ce q9 f3 H locs hPX hw hS hce hcv hcl => ?_) (fun v f3 H locs hP hw hS => ?_)
      · obtain ⟨ef9, eE9, hE9⟩ := hPX
        rw [ef9] at hw
        subst eE9
        exact hp_out B0 hw hS hout hce hcv hcl ⟨Nat.le_of_ble_eq_true rfl, Nat.le_of_ble_eq_true rfl⟩ (⟨rfl, Or.inl ⟨rfl, spc_1 (fun h9 => hE9 h9.2)⟩⟩)
      · obtain ⟨ef9, ev9, ho4⟩ := hP
        rw [ef9] at hw
        subst ev9
        refine W.eq (g2 := F0 m 11 ls []) rfl ?_
        refine lv_iload_n hx hb dX4_allow_11 rfl (lv_at hl9 4 rfl) ?_
        refine lv_if_lt (tgt := 22) hx hb dX4_allow_12 (by decide) (fun c5 => ?_) (fun c5 => ?_)
        · exact hp_throw (cls := eA) (names := tNm) B0 hw hS hout tF_eA qC_X4_35 qN_java_lang_IllegalArgumentException sR_X4_46 tA_eA tB_eA tG_eA hl9.1 dX4_allow_22 dX4_allow_25 dX4_allow_26 dX4_allow_28 dX4_allow_31 ⟨⟨Nat.le_of_ble_eq_true rfl, Nat.le_of_ble_eq_true rfl⟩, Nat.le_of_ble_eq_true rfl, Nat.le_of_ble_eq_true rfl⟩ ⟨Nat.le_of_ble_eq_true rfl, Nat.le_of_ble_eq_true rfl⟩ (⟨rfl, Or.inr ⟨rfl, spc_2 ⟨(Or.inl k2), ho4⟩ (fun h9 => by have h1 := c5; simp only [jlt, jle, tq0, tq1, tq3, tq4, tq6, tq9, tq50, tq1023, tqm1] at h1; obtain ⟨h3, h4⟩ := h9; omega)⟩⟩)
        · refine lv_iload_n hx hb dX4_allow_15 rfl (lv_at hl9 4 rfl) ?_
          refine lv_sipush (v := 1023) hx hb dX4_allow_16 (by decide) ?_
          refine lv_icmp_le (tgt := 32) hx hb dX4_allow_19 (by decide) (fun c6 => ?_) (fun c6 => ?_)
          · refine lv_aload hx hb dX4_allow_32 (lv_at hl9 0 rfl) ?_
            refine lv_iload_n hx hb dX4_allow_34 rfl (lv_at hl9 3 rfl) ?_
            refine lv_iload_n hx hb dX4_allow_35 rfl (lv_at hl9 4 rfl) ?_
            refine hp_V (ci := 1) (As := [.int o, .int x]) (rest := []) B0 hw hS (c_X1_changeAllowed hl G f ez nw0 na0 nq0 nr0 mg0 st0 tm0 sr0 li0 lp0 mi0 k_ez ga0 k_na0 o x ho4 ) mV_X1_changeAllowed qM_X4_48 rfl k_ez rfl rfl hl9.1 (Nat.le_of_ble_eq_true rfl) ⟨⟨Nat.le_of_ble_eq_true rfl, Nat.le_of_ble_eq_true rfl⟩, Nat.le_of_ble_eq_true rfl, Nat.le_of_ble_eq_true rfl⟩ dX4_allow_36 (fun E ce q9 f7 H locs hPX hw hS hce hcv hcl => ?_) (fun v f7 H locs hP hw hS => ?_)
            · exact hPX.elim
            · obtain ⟨ho9, ev9, e8, k9⟩ := hP
              subst ev9
              have h10 : f7 na0 = some (.inl (cI G, 6, .inl (upd ga0 (o : Int32).toNatClampNeg x))) := by rw [e8, va_up_self]
              refine W.eq (g2 := F0 m 39 ls [.int (ga0 (o : Int32).toNatClampNeg)]) rfl ?_
              exact hp_iret (v := (ga0 (o : Int32).toNatClampNeg)) B0 hw hS hr ⟨Nat.le_of_ble_eq_true rfl, Nat.le_of_ble_eq_true rfl⟩ dX4_allow_39 (⟨spc_0 ⟨(Or.inl k2), ho4⟩ (by have h1 := c5; have h2 := c6; simp only [jlt, jle, tq0, tq1, tq3, tq4, tq6, tq9, tq50, tq1023, tqm1] at h1; simp only [jlt, jle, tq0, tq1, tq3, tq4, tq6, tq9, tq50, tq1023, tqm1] at h2; exact ⟨by omega, by omega⟩), Or.inl ⟨k2, rfl, e8, (show hKeep [na0] f f7 from (by rw [e8]; exact hKeep.up (by simp)))⟩⟩)
          · exact hp_throw (cls := eA) (names := tNm) B0 hw hS hout tF_eA qC_X4_35 qN_java_lang_IllegalArgumentException sR_X4_46 tA_eA tB_eA tG_eA hl9.1 dX4_allow_22 dX4_allow_25 dX4_allow_26 dX4_allow_28 dX4_allow_31 ⟨⟨Nat.le_of_ble_eq_true rfl, Nat.le_of_ble_eq_true rfl⟩, Nat.le_of_ble_eq_true rfl, Nat.le_of_ble_eq_true rfl⟩ ⟨Nat.le_of_ble_eq_true rfl, Nat.le_of_ble_eq_true rfl⟩ (⟨rfl, Or.inr ⟨rfl, spc_2 ⟨(Or.inl k2), ho4⟩ (fun h9 => by have h1 := c6; simp only [jlt, jle, tq0, tq1, tq3, tq4, tq6, tq9, tq50, tq1023, tqm1] at h1; obtain ⟨h3, h4⟩ := h9; omega)⟩⟩)
    · subst ev9
      refine W.eq (g2 := F0 m 5 ls [.ref eo]) rfl ?_
      refine lv_astore (lv' := [(4, .ref eo), (0, .ref xo), (1, .int i), (2, .int o), (3, .int x)]) hx hb dX4_allow_5 hl9 (by decide) rfl (fun ls hl9 => ?_)
      refine lv_iload_n hx hb dX4_allow_7 rfl (lv_at hl9 3 rfl) ?_
      refine hp_S (As := [.int o]) (rest := []) B0 hw hS (c_X4_refuseNoOption hl G f o) mS_X4_refuseNoOption qM_X4_32 rfl rfl hl9.1 (Nat.le_of_ble_eq_true rfl) ⟨⟨Nat.le_of_ble_eq_true rfl, Nat.le_of_ble_eq_true rfl⟩, Nat.le_of_ble_eq_true rfl, Nat.le_of_ble_eq_true rfl⟩ dX4_allow_8 (fun E ce q9 f11 H locs hPX hw hS hce hcv hcl => ?_) (fun v f11 H locs hP hw hS => ?_)
      · obtain ⟨ef9, eE9, hE9⟩ := hPX
        rw [ef9] at hw
        subst eE9
        exact hp_out B0 hw hS hout hce hcv hcl ⟨Nat.le_of_ble_eq_true rfl, Nat.le_of_ble_eq_true rfl⟩ (⟨rfl, Or.inl ⟨rfl, spc_1 (fun h9 => hE9 h9.2)⟩⟩)
      · obtain ⟨ef9, ev9, ho12⟩ := hP
        rw [ef9] at hw
        subst ev9
        refine W.eq (g2 := F0 m 11 ls []) rfl ?_
        refine lv_iload_n hx hb dX4_allow_11 rfl (lv_at hl9 4 rfl) ?_
        refine lv_if_lt (tgt := 22) hx hb dX4_allow_12 (by decide) (fun c13 => ?_) (fun c13 => ?_)
        · exact hp_throw (cls := eA) (names := tNm) B0 hw hS hout tF_eA qC_X4_35 qN_java_lang_IllegalArgumentException sR_X4_46 tA_eA tB_eA tG_eA hl9.1 dX4_allow_22 dX4_allow_25 dX4_allow_26 dX4_allow_28 dX4_allow_31 ⟨⟨Nat.le_of_ble_eq_true rfl, Nat.le_of_ble_eq_true rfl⟩, Nat.le_of_ble_eq_true rfl, Nat.le_of_ble_eq_true rfl⟩ ⟨Nat.le_of_ble_eq_true rfl, Nat.le_of_ble_eq_true rfl⟩ (⟨rfl, Or.inr ⟨rfl, spc_2 ⟨(Or.inr k2), ho12⟩ (fun h9 => by have h1 := c13; simp only [jlt, jle, tq0, tq1, tq3, tq4, tq6, tq9, tq50, tq1023, tqm1] at h1; obtain ⟨h3, h4⟩ := h9; omega)⟩⟩)
        · refine lv_iload_n hx hb dX4_allow_15 rfl (lv_at hl9 4 rfl) ?_
          refine lv_sipush (v := 1023) hx hb dX4_allow_16 (by decide) ?_
          refine lv_icmp_le (tgt := 32) hx hb dX4_allow_19 (by decide) (fun c14 => ?_) (fun c14 => ?_)
          · refine lv_aload hx hb dX4_allow_32 (lv_at hl9 0 rfl) ?_
            refine lv_iload_n hx hb dX4_allow_34 rfl (lv_at hl9 3 rfl) ?_
            refine lv_iload_n hx hb dX4_allow_35 rfl (lv_at hl9 4 rfl) ?_
            refine hp_V (ci := 1) (As := [.int o, .int x]) (rest := []) B0 hw hS (c_X1_changeAllowed hl G f eo nw1 na1 nq1 nr1 mg1 st1 tm1 sr1 li1 lp1 mi1 k_eo ga1 k_na1 o x ho12 ) mV_X1_changeAllowed qM_X4_48 rfl k_eo rfl rfl hl9.1 (Nat.le_of_ble_eq_true rfl) ⟨⟨Nat.le_of_ble_eq_true rfl, Nat.le_of_ble_eq_true rfl⟩, Nat.le_of_ble_eq_true rfl, Nat.le_of_ble_eq_true rfl⟩ dX4_allow_36 (fun E ce q9 f15 H locs hPX hw hS hce hcv hcl => ?_) (fun v f15 H locs hP hw hS => ?_)
            · exact hPX.elim
            · obtain ⟨ho9, ev9, e16, k17⟩ := hP
              subst ev9
              have h18 : f15 na1 = some (.inl (cI G, 6, .inl (upd ga1 (o : Int32).toNatClampNeg x))) := by rw [e16, va_up_self]
              refine W.eq (g2 := F0 m 39 ls [.int (ga1 (o : Int32).toNatClampNeg)]) rfl ?_
              exact hp_iret (v := (ga1 (o : Int32).toNatClampNeg)) B0 hw hS hr ⟨Nat.le_of_ble_eq_true rfl, Nat.le_of_ble_eq_true rfl⟩ dX4_allow_39 (⟨spc_0 ⟨(Or.inr k2), ho12⟩ (by have h1 := c13; have h2 := c14; simp only [jlt, jle, tq0, tq1, tq3, tq4, tq6, tq9, tq50, tq1023, tqm1] at h1; simp only [jlt, jle, tq0, tq1, tq3, tq4, tq6, tq9, tq50, tq1023, tqm1] at h2; exact ⟨by omega, by omega⟩), Or.inr ⟨k2, rfl, e16, (show hKeep [na1] f f15 from (by rw [e16]; exact hKeep.up (by simp)))⟩⟩)
          · exact hp_throw (cls := eA) (names := tNm) B0 hw hS hout tF_eA qC_X4_35 qN_java_lang_IllegalArgumentException sR_X4_46 tA_eA tB_eA tG_eA hl9.1 dX4_allow_22 dX4_allow_25 dX4_allow_26 dX4_allow_28 dX4_allow_31 ⟨⟨Nat.le_of_ble_eq_true rfl, Nat.le_of_ble_eq_true rfl⟩, Nat.le_of_ble_eq_true rfl, Nat.le_of_ble_eq_true rfl⟩ ⟨Nat.le_of_ble_eq_true rfl, Nat.le_of_ble_eq_true rfl⟩ (⟨rfl, Or.inr ⟨rfl, spc_2 ⟨(Or.inr k2), ho12⟩ (fun h9 => by have h1 := c14; simp only [jlt, jle, tq0, tq1, tq3, tq4, tq6, tq9, tq50, tq1023, tqm1] at h1; obtain ⟨h3, h4⟩ := h9; omega)⟩⟩)

set_option maxHeartbeats 4000000 in
set_option maxRecDepth 100000 in
theorem c_X4_stateOf {l : Launch} (hl : l.stackTraces = false) (G : hG) (f : hM) (xo ez eo bu : Nat) (k_xo : f xo = some (.inr (4, [.ref ez, .ref eo, .ref bu]))) (nw0 na0 nq0 nr0 : Nat) (mg0 st0 tm0 sr0 li0 lp0 mi0 : Int32) (k_ez : f ez = some (.inr (1, [.ref nw0, .ref na0, .ref nq0, .ref nr0, .int mg0, .int st0, .int tm0, .int sr0, .int li0, .int lp0, .int mi0]))) (nw1 na1 nq1 nr1 : Nat) (mg1 st1 tm1 sr1 li1 lp1 mi1 : Int32) (k_eo : f eo = some (.inr (1, [.ref nw1, .ref na1, .ref nq1, .ref nr1, .int mg1, .int st1, .int tm1, .int sr1, .int li1, .int lp1, .int mi1]))) (i : Int32) : CT l yX4_stateOf (.code yX4_stateOf cX4_stateOf 2 (some .int)) 7 103 1 6 G [.ref xo, .int i] f (fun v f1 => spc (sE i) True = 0 ∧ f1 = f ∧ ((i = 0 ∧ v = some (.int st0)) ∨ (i = 1 ∧ v = some (.int st1)))) (fun E f1 => f1 = f ∧ E = eI ∧ spc (sE i) True = 1) := by
  refine hp_start hl (own := RX4) (by decide) rfl (Nat.le_of_ble_eq_true rfl) ?_
  intro p e s m args below meth c B0 hr hnm hout hw hS ls hl9
  have hx := B0.1
  have hb := B0.2.1
  have hl9 : lv_has ls 2 [(0, .ref xo), (1, .int i)] := hl9
  refine lv_aload_n hx hb dX4_stateOf_0 rfl (lv_at hl9 0 rfl) ?_
  refine lv_iload_n hx hb dX4_stateOf_1 rfl (lv_at hl9 1 rfl) ?_
  refine hp_V (ci := 4) (As := [.int i]) (rest := []) B0 hw hS (c_X4_endAt hl G f xo ez eo bu k_xo i) mV_X4_endAt qM_X4_28 rfl k_xo rfl rfl hl9.1 (Nat.le_of_ble_eq_true rfl) ⟨⟨Nat.le_of_ble_eq_true rfl, Nat.le_of_ble_eq_true rfl⟩, Nat.le_of_ble_eq_true rfl, Nat.le_of_ble_eq_true rfl⟩ dX4_stateOf_2 (fun E ce q9 f1 H locs hPX hw hS hce hcv hcl => ?_) (fun v f1 H locs hP hw hS => ?_)
  · obtain ⟨ef9, eE9, hE9⟩ := hPX
    rw [ef9] at hw
    subst eE9
    exact hp_out B0 hw hS hout hce hcv hcl ⟨Nat.le_of_ble_eq_true rfl, Nat.le_of_ble_eq_true rfl⟩ (⟨rfl, rfl, spc_1 hE9⟩)
  · obtain ⟨ef9, hv9⟩ := hP
    rw [ef9] at hw
    rcases hv9 with ⟨k2, ev9⟩ | ⟨k2, ev9⟩
    · subst ev9
      refine W.eq (g2 := F0 m 5 ls [.ref ez]) rfl ?_
      refine hp_getN B0 hw 1 rfl in_X1 k_ez 5 (by decide) oF_X4_55 rfl dX4_stateOf_5 ?_
      exact hp_iret (v := st0) B0 hw hS hr ⟨Nat.le_of_ble_eq_true rfl, Nat.le_of_ble_eq_true rfl⟩ dX4_stateOf_8 (⟨spc_0 (Or.inl k2) trivial, rfl, Or.inl ⟨k2, rfl⟩⟩)
    · subst ev9
      refine W.eq (g2 := F0 m 5 ls [.ref eo]) rfl ?_
      refine hp_getN B0 hw 1 rfl in_X1 k_eo 5 (by decide) oF_X4_55 rfl dX4_stateOf_5 ?_
      exact hp_iret (v := st1) B0 hw hS hr ⟨Nat.le_of_ble_eq_true rfl, Nat.le_of_ble_eq_true rfl⟩ dX4_stateOf_8 (⟨spc_0 (Or.inr k2) trivial, rfl, Or.inr ⟨k2, rfl⟩⟩)

set_option maxHeartbeats 4000000 in
set_option maxRecDepth 100000 in
theorem c_X4_requests {l : Launch} (hl : l.stackTraces = false) (G : hG) (f : hM) (xo ez eo bu : Nat) (k_xo : f xo = some (.inr (4, [.ref ez, .ref eo, .ref bu]))) (nw0 na0 nq0 nr0 : Nat) (mg0 st0 tm0 sr0 li0 lp0 mi0 : Int32) (k_ez : f ez = some (.inr (1, [.ref nw0, .ref na0, .ref nq0, .ref nr0, .int mg0, .int st0, .int tm0, .int sr0, .int li0, .int lp0, .int mi0]))) (nw1 na1 nq1 nr1 : Nat) (mg1 st1 tm1 sr1 li1 lp1 mi1 : Int32) (k_eo : f eo = some (.inr (1, [.ref nw1, .ref na1, .ref nq1, .ref nr1, .int mg1, .int st1, .int tm1, .int sr1, .int li1, .int lp1, .int mi1]))) (i : Int32) : CT l yX4_requests (.code yX4_requests cX4_requests 2 (some .int)) 7 103 1 6 G [.ref xo, .int i] f (fun v f1 => spc (sE i) True = 0 ∧ f1 = f ∧ ((i = 0 ∧ v = some (.int sr0)) ∨ (i = 1 ∧ v = some (.int sr1)))) (fun E f1 => f1 = f ∧ E = eI ∧ spc (sE i) True = 1) := by
  refine hp_start hl (own := RX4) (by decide) rfl (Nat.le_of_ble_eq_true rfl) ?_
  intro p e s m args below meth c B0 hr hnm hout hw hS ls hl9
  have hx := B0.1
  have hb := B0.2.1
  have hl9 : lv_has ls 2 [(0, .ref xo), (1, .int i)] := hl9
  refine lv_aload_n hx hb dX4_requests_0 rfl (lv_at hl9 0 rfl) ?_
  refine lv_iload_n hx hb dX4_requests_1 rfl (lv_at hl9 1 rfl) ?_
  refine hp_V (ci := 4) (As := [.int i]) (rest := []) B0 hw hS (c_X4_endAt hl G f xo ez eo bu k_xo i) mV_X4_endAt qM_X4_28 rfl k_xo rfl rfl hl9.1 (Nat.le_of_ble_eq_true rfl) ⟨⟨Nat.le_of_ble_eq_true rfl, Nat.le_of_ble_eq_true rfl⟩, Nat.le_of_ble_eq_true rfl, Nat.le_of_ble_eq_true rfl⟩ dX4_requests_2 (fun E ce q9 f1 H locs hPX hw hS hce hcv hcl => ?_) (fun v f1 H locs hP hw hS => ?_)
  · obtain ⟨ef9, eE9, hE9⟩ := hPX
    rw [ef9] at hw
    subst eE9
    exact hp_out B0 hw hS hout hce hcv hcl ⟨Nat.le_of_ble_eq_true rfl, Nat.le_of_ble_eq_true rfl⟩ (⟨rfl, rfl, spc_1 hE9⟩)
  · obtain ⟨ef9, hv9⟩ := hP
    rw [ef9] at hw
    rcases hv9 with ⟨k2, ev9⟩ | ⟨k2, ev9⟩
    · subst ev9
      refine W.eq (g2 := F0 m 5 ls [.ref ez]) rfl ?_
      refine hp_getN B0 hw 1 rfl in_X1 k_ez 7 (by decide) oF_X4_99 rfl dX4_requests_5 ?_
      exact hp_iret (v := sr0) B0 hw hS hr ⟨Nat.le_of_ble_eq_true rfl, Nat.le_of_ble_eq_true rfl⟩ dX4_requests_8 (⟨spc_0 (Or.inl k2) trivial, rfl, Or.inl ⟨k2, rfl⟩⟩)
    · subst ev9
      refine W.eq (g2 := F0 m 5 ls [.ref eo]) rfl ?_
      refine hp_getN B0 hw 1 rfl in_X1 k_eo 7 (by decide) oF_X4_99 rfl dX4_requests_5 ?_
      exact hp_iret (v := sr1) B0 hw hS hr ⟨Nat.le_of_ble_eq_true rfl, Nat.le_of_ble_eq_true rfl⟩ dX4_requests_8 (⟨spc_0 (Or.inr k2) trivial, rfl, Or.inr ⟨k2, rfl⟩⟩)

set_option maxHeartbeats 4000000 in
set_option maxRecDepth 100000 in
theorem c_X4_isLooped {l : Launch} (hl : l.stackTraces = false) (G : hG) (f : hM) (xo ez eo bu : Nat) (k_xo : f xo = some (.inr (4, [.ref ez, .ref eo, .ref bu]))) (nw0 na0 nq0 nr0 : Nat) (mg0 st0 tm0 sr0 li0 lp0 mi0 : Int32) (k_ez : f ez = some (.inr (1, [.ref nw0, .ref na0, .ref nq0, .ref nr0, .int mg0, .int st0, .int tm0, .int sr0, .int li0, .int lp0, .int mi0]))) (nw1 na1 nq1 nr1 : Nat) (mg1 st1 tm1 sr1 li1 lp1 mi1 : Int32) (k_eo : f eo = some (.inr (1, [.ref nw1, .ref na1, .ref nq1, .ref nr1, .int mg1, .int st1, .int tm1, .int sr1, .int li1, .int lp1, .int mi1]))) (b0 : narrow .boolean (.int lp0) = .int lp0) (b1 : narrow .boolean (.int lp1) = .int lp1) (i : Int32) : CT l yX4_isLooped (.code yX4_isLooped cX4_isLooped 2 (some .boolean)) 7 103 1 6 G [.ref xo, .int i] f (fun v f1 => spc (sE i) True = 0 ∧ f1 = f ∧ ((i = 0 ∧ v = some (.int lp0)) ∨ (i = 1 ∧ v = some (.int lp1)))) (fun E f1 => f1 = f ∧ E = eI ∧ spc (sE i) True = 1) := by
  refine hp_start hl (own := RX4) (by decide) rfl (Nat.le_of_ble_eq_true rfl) ?_
  intro p e s m args below meth c B0 hr hnm hout hw hS ls hl9
  have hx := B0.1
  have hb := B0.2.1
  have hl9 : lv_has ls 2 [(0, .ref xo), (1, .int i)] := hl9
  refine lv_aload_n hx hb dX4_isLooped_0 rfl (lv_at hl9 0 rfl) ?_
  refine lv_iload_n hx hb dX4_isLooped_1 rfl (lv_at hl9 1 rfl) ?_
  refine hp_V (ci := 4) (As := [.int i]) (rest := []) B0 hw hS (c_X4_endAt hl G f xo ez eo bu k_xo i) mV_X4_endAt qM_X4_28 rfl k_xo rfl rfl hl9.1 (Nat.le_of_ble_eq_true rfl) ⟨⟨Nat.le_of_ble_eq_true rfl, Nat.le_of_ble_eq_true rfl⟩, Nat.le_of_ble_eq_true rfl, Nat.le_of_ble_eq_true rfl⟩ dX4_isLooped_2 (fun E ce q9 f1 H locs hPX hw hS hce hcv hcl => ?_) (fun v f1 H locs hP hw hS => ?_)
  · obtain ⟨ef9, eE9, hE9⟩ := hPX
    rw [ef9] at hw
    subst eE9
    exact hp_out B0 hw hS hout hce hcv hcl ⟨Nat.le_of_ble_eq_true rfl, Nat.le_of_ble_eq_true rfl⟩ (⟨rfl, rfl, spc_1 hE9⟩)
  · obtain ⟨ef9, hv9⟩ := hP
    rw [ef9] at hw
    rcases hv9 with ⟨k2, ev9⟩ | ⟨k2, ev9⟩
    · subst ev9
      refine W.eq (g2 := F0 m 5 ls [.ref ez]) rfl ?_
      refine hp_getN B0 hw 1 rfl in_X1 k_ez 9 (by decide) oF_X4_102 rfl dX4_isLooped_5 ?_
      exact hp_zret (v := lp0) B0 hw hS hr ⟨Nat.le_of_ble_eq_true rfl, Nat.le_of_ble_eq_true rfl⟩ (b0) dX4_isLooped_8 (⟨spc_0 (Or.inl k2) trivial, rfl, Or.inl ⟨k2, rfl⟩⟩)
    · subst ev9
      refine W.eq (g2 := F0 m 5 ls [.ref eo]) rfl ?_
      refine hp_getN B0 hw 1 rfl in_X1 k_eo 9 (by decide) oF_X4_102 rfl dX4_isLooped_5 ?_
      exact hp_zret (v := lp1) B0 hw hS hr ⟨Nat.le_of_ble_eq_true rfl, Nat.le_of_ble_eq_true rfl⟩ (b1) dX4_isLooped_8 (⟨spc_0 (Or.inr k2) trivial, rfl, Or.inr ⟨k2, rfl⟩⟩)

set_option maxHeartbeats 4000000 in
set_option maxRecDepth 100000 in
theorem c_X4_missed {l : Launch} (hl : l.stackTraces = false) (G : hG) (f : hM) (xo ez eo bu : Nat) (k_xo : f xo = some (.inr (4, [.ref ez, .ref eo, .ref bu]))) (nw0 na0 nq0 nr0 : Nat) (mg0 st0 tm0 sr0 li0 lp0 mi0 : Int32) (k_ez : f ez = some (.inr (1, [.ref nw0, .ref na0, .ref nq0, .ref nr0, .int mg0, .int st0, .int tm0, .int sr0, .int li0, .int lp0, .int mi0]))) (nw1 na1 nq1 nr1 : Nat) (mg1 st1 tm1 sr1 li1 lp1 mi1 : Int32) (k_eo : f eo = some (.inr (1, [.ref nw1, .ref na1, .ref nq1, .ref nr1, .int mg1, .int st1, .int tm1, .int sr1, .int li1, .int lp1, .int mi1]))) (i : Int32) : CT l yX4_missed (.code yX4_missed cX4_missed 2 (some .int)) 7 103 1 6 G [.ref xo, .int i] f (fun v f1 => spc (sE i) True = 0 ∧ f1 = f ∧ ((i = 0 ∧ v = some (.int mi0)) ∨ (i = 1 ∧ v = some (.int mi1)))) (fun E f1 => f1 = f ∧ E = eI ∧ spc (sE i) True = 1) := by
  refine hp_start hl (own := RX4) (by decide) rfl (Nat.le_of_ble_eq_true rfl) ?_
  intro p e s m args below meth c B0 hr hnm hout hw hS ls hl9
  have hx := B0.1
  have hb := B0.2.1
  have hl9 : lv_has ls 2 [(0, .ref xo), (1, .int i)] := hl9
  refine lv_aload_n hx hb dX4_missed_0 rfl (lv_at hl9 0 rfl) ?_
  refine lv_iload_n hx hb dX4_missed_1 rfl (lv_at hl9 1 rfl) ?_
  refine hp_V (ci := 4) (As := [.int i]) (rest := []) B0 hw hS (c_X4_endAt hl G f xo ez eo bu k_xo i) mV_X4_endAt qM_X4_28 rfl k_xo rfl rfl hl9.1 (Nat.le_of_ble_eq_true rfl) ⟨⟨Nat.le_of_ble_eq_true rfl, Nat.le_of_ble_eq_true rfl⟩, Nat.le_of_ble_eq_true rfl, Nat.le_of_ble_eq_true rfl⟩ dX4_missed_2 (fun E ce q9 f1 H locs hPX hw hS hce hcv hcl => ?_) (fun v f1 H locs hP hw hS => ?_)
  · obtain ⟨ef9, eE9, hE9⟩ := hPX
    rw [ef9] at hw
    subst eE9
    exact hp_out B0 hw hS hout hce hcv hcl ⟨Nat.le_of_ble_eq_true rfl, Nat.le_of_ble_eq_true rfl⟩ (⟨rfl, rfl, spc_1 hE9⟩)
  · obtain ⟨ef9, hv9⟩ := hP
    rw [ef9] at hw
    rcases hv9 with ⟨k2, ev9⟩ | ⟨k2, ev9⟩
    · subst ev9
      refine W.eq (g2 := F0 m 5 ls [.ref ez]) rfl ?_
      refine hp_getN B0 hw 1 rfl in_X1 k_ez 10 (by decide) oF_X4_86 rfl dX4_missed_5 ?_
      exact hp_iret (v := mi0) B0 hw hS hr ⟨Nat.le_of_ble_eq_true rfl, Nat.le_of_ble_eq_true rfl⟩ dX4_missed_8 (⟨spc_0 (Or.inl k2) trivial, rfl, Or.inl ⟨k2, rfl⟩⟩)
    · subst ev9
      refine W.eq (g2 := F0 m 5 ls [.ref eo]) rfl ?_
      refine hp_getN B0 hw 1 rfl in_X1 k_eo 10 (by decide) oF_X4_86 rfl dX4_missed_5 ?_
      exact hp_iret (v := mi1) B0 hw hS hr ⟨Nat.le_of_ble_eq_true rfl, Nat.le_of_ble_eq_true rfl⟩ dX4_missed_8 (⟨spc_0 (Or.inr k2) trivial, rfl, Or.inr ⟨k2, rfl⟩⟩)

set_option maxHeartbeats 4000000 in
set_option maxRecDepth 100000 in
theorem c_X4_underWay {l : Launch} (hl : l.stackTraces = false) (G : hG) (f : hM) (xo ez eo bu : Nat) (k_xo : f xo = some (.inr (4, [.ref ez, .ref eo, .ref bu]))) (nw0 na0 nq0 nr0 : Nat) (mg0 st0 tm0 sr0 li0 lp0 mi0 : Int32) (k_ez : f ez = some (.inr (1, [.ref nw0, .ref na0, .ref nq0, .ref nr0, .int mg0, .int st0, .int tm0, .int sr0, .int li0, .int lp0, .int mi0]))) (nw1 na1 nq1 nr1 : Nat) (mg1 st1 tm1 sr1 li1 lp1 mi1 : Int32) (k_eo : f eo = some (.inr (1, [.ref nw1, .ref na1, .ref nq1, .ref nr1, .int mg1, .int st1, .int tm1, .int sr1, .int li1, .int lp1, .int mi1]))) (hd0 tl0 : Value) (cn0 : Int32) (k_nr0 : f nr0 = some (.inr (3, [hd0, tl0, .int cn0]))) (hd1 tl1 : Value) (cn1 : Int32) (k_nr1 : f nr1 = some (.inr (3, [hd1, tl1, .int cn1]))) (i : Int32) : CT l yX4_underWay (.code yX4_underWay cX4_underWay 2 (some .int)) 7 103 1 6 G [.ref xo, .int i] f (fun v f1 => spc (sE i) True = 0 ∧ f1 = f ∧ ((i = 0 ∧ v = some (.int cn0)) ∨ (i = 1 ∧ v = some (.int cn1)))) (fun E f1 => f1 = f ∧ E = eI ∧ spc (sE i) True = 1) := by
  refine hp_start hl (own := RX4) (by decide) rfl (Nat.le_of_ble_eq_true rfl) ?_
  intro p e s m args below meth c B0 hr hnm hout hw hS ls hl9
  have hx := B0.1
  have hb := B0.2.1
  have hl9 : lv_has ls 2 [(0, .ref xo), (1, .int i)] := hl9
  refine lv_aload_n hx hb dX4_underWay_0 rfl (lv_at hl9 0 rfl) ?_
  refine lv_iload_n hx hb dX4_underWay_1 rfl (lv_at hl9 1 rfl) ?_
  refine hp_V (ci := 4) (As := [.int i]) (rest := []) B0 hw hS (c_X4_endAt hl G f xo ez eo bu k_xo i) mV_X4_endAt qM_X4_28 rfl k_xo rfl rfl hl9.1 (Nat.le_of_ble_eq_true rfl) ⟨⟨Nat.le_of_ble_eq_true rfl, Nat.le_of_ble_eq_true rfl⟩, Nat.le_of_ble_eq_true rfl, Nat.le_of_ble_eq_true rfl⟩ dX4_underWay_2 (fun E ce q9 f1 H locs hPX hw hS hce hcv hcl => ?_) (fun v f1 H locs hP hw hS => ?_)
  · obtain ⟨ef9, eE9, hE9⟩ := hPX
    rw [ef9] at hw
    subst eE9
    exact hp_out B0 hw hS hout hce hcv hcl ⟨Nat.le_of_ble_eq_true rfl, Nat.le_of_ble_eq_true rfl⟩ (⟨rfl, rfl, spc_1 hE9⟩)
  · obtain ⟨ef9, hv9⟩ := hP
    rw [ef9] at hw
    rcases hv9 with ⟨k2, ev9⟩ | ⟨k2, ev9⟩
    · subst ev9
      refine W.eq (g2 := F0 m 5 ls [.ref ez]) rfl ?_
      refine hp_getN B0 hw 1 rfl in_X1 k_ez 3 (by decide) oF_X4_106 rfl dX4_underWay_5 ?_
      refine hp_getN B0 hw 3 rfl in_X3 k_nr0 2 (by decide) oF_X4_110 rfl dX4_underWay_8 ?_
      exact hp_iret (v := cn0) B0 hw hS hr ⟨Nat.le_of_ble_eq_true rfl, Nat.le_of_ble_eq_true rfl⟩ dX4_underWay_11 (⟨spc_0 (Or.inl k2) trivial, rfl, Or.inl ⟨k2, rfl⟩⟩)
    · subst ev9
      refine W.eq (g2 := F0 m 5 ls [.ref eo]) rfl ?_
      refine hp_getN B0 hw 1 rfl in_X1 k_eo 3 (by decide) oF_X4_106 rfl dX4_underWay_5 ?_
      refine hp_getN B0 hw 3 rfl in_X3 k_nr1 2 (by decide) oF_X4_110 rfl dX4_underWay_8 ?_
      exact hp_iret (v := cn1) B0 hw hS hr ⟨Nat.le_of_ble_eq_true rfl, Nat.le_of_ble_eq_true rfl⟩ dX4_underWay_11 (⟨spc_0 (Or.inr k2) trivial, rfl, Or.inr ⟨k2, rfl⟩⟩)

set_option maxHeartbeats 4000000 in
set_option maxRecDepth 100000 in
theorem c_X4_asked {l : Launch} (hl : l.stackTraces = false) (G : hG) (f : hM) (xo ez eo bu : Nat) (k_xo : f xo = some (.inr (4, [.ref ez, .ref eo, .ref bu]))) (nw0 na0 nq0 nr0 : Nat) (mg0 st0 tm0 sr0 li0 lp0 mi0 : Int32) (k_ez : f ez = some (.inr (1, [.ref nw0, .ref na0, .ref nq0, .ref nr0, .int mg0, .int st0, .int tm0, .int sr0, .int li0, .int lp0, .int mi0]))) (nw1 na1 nq1 nr1 : Nat) (mg1 st1 tm1 sr1 li1 lp1 mi1 : Int32) (k_eo : f eo = some (.inr (1, [.ref nw1, .ref na1, .ref nq1, .ref nr1, .int mg1, .int st1, .int tm1, .int sr1, .int li1, .int lp1, .int mi1]))) (gq0 gq1 : Nat → Int32) (k_nq0 : f nq0 = some (.inl (cI G, 6, .inl gq0))) (k_nq1 : f nq1 = some (.inl (cI G, 6, .inl gq1))) (i o : Int32) : CT l yX4_asked (.code yX4_asked cX4_asked 4 (some .int)) 7 103 2 12 G [.ref xo, .int i, .int o] f (fun v f1 => spc (sE i ∧ sO o) True = 0 ∧ f1 = f ∧ ((i = 0 ∧ v = some (.int (gq0 o.toNatClampNeg))) ∨ (i = 1 ∧ v = some (.int (gq1 o.toNatClampNeg))))) (fun E f1 => f1 = f ∧ E = eI ∧ spc (sE i ∧ sO o) True = 1) := by
  refine hp_start hl (own := RX4) (by decide) rfl (Nat.le_of_ble_eq_true rfl) ?_
  intro p e s m args below meth c B0 hr hnm hout hw hS ls hl9
  have hx := B0.1
  have hb := B0.2.1
  have hl9 : lv_has ls 4 [(0, .ref xo), (1, .int i), (2, .int o)] := hl9
  refine lv_aload_n hx hb dX4_asked_0 rfl (lv_at hl9 0 rfl) ?_
  refine lv_iload_n hx hb dX4_asked_1 rfl (lv_at hl9 1 rfl) ?_
  refine hp_V (ci := 4) (As := [.int i]) (rest := []) B0 hw hS (c_X4_endAt hl G f xo ez eo bu k_xo i) mV_X4_endAt qM_X4_28 rfl k_xo rfl rfl hl9.1 (Nat.le_of_ble_eq_true rfl) ⟨⟨Nat.le_of_ble_eq_true rfl, Nat.le_of_ble_eq_true rfl⟩, Nat.le_of_ble_eq_true rfl, Nat.le_of_ble_eq_true rfl⟩ dX4_asked_2 (fun E ce q9 f1 H locs hPX hw hS hce hcv hcl => ?_) (fun v f1 H locs hP hw hS => ?_)
  · obtain ⟨ef9, eE9, hE9⟩ := hPX
    rw [ef9] at hw
    subst eE9
    exact hp_out B0 hw hS hout hce hcv hcl ⟨Nat.le_of_ble_eq_true rfl, Nat.le_of_ble_eq_true rfl⟩ (⟨rfl, rfl, spc_1 (fun h9 => hE9 h9.1)⟩)
  · obtain ⟨ef9, hv9⟩ := hP
    rw [ef9] at hw
    rcases hv9 with ⟨k2, ev9⟩ | ⟨k2, ev9⟩
    · subst ev9
      refine W.eq (g2 := F0 m 5 ls [.ref ez]) rfl ?_
      refine lv_astore_n (lv' := [(3, .ref ez), (0, .ref xo), (1, .int i), (2, .int o)]) hx hb dX4_asked_5 rfl hl9 (by decide) rfl (fun ls hl9 => ?_)
      refine lv_iload_n hx hb dX4_asked_6 rfl (lv_at hl9 3 rfl) ?_
      refine hp_S (As := [.int o]) (rest := []) B0 hw hS (c_X4_refuseNoOption hl G f o) mS_X4_refuseNoOption qM_X4_32 rfl rfl hl9.1 (Nat.le_of_ble_eq_true rfl) ⟨⟨Nat.le_of_ble_eq_true rfl, Nat.le_of_ble_eq_true rfl⟩, Nat.le_of_ble_eq_true rfl, Nat.le_of_ble_eq_true rfl⟩ dX4_asked_7 (fun E ce q9 f3 H locs hPX hw hS hce hcv hcl => ?_) (fun v f3 H locs hP hw hS => ?_)
      · obtain ⟨ef9, eE9, hE9⟩ := hPX
        rw [ef9] at hw
        subst eE9
        exact hp_out B0 hw hS hout hce hcv hcl ⟨Nat.le_of_ble_eq_true rfl, Nat.le_of_ble_eq_true rfl⟩ (⟨rfl, rfl, spc_1 (fun h9 => hE9 h9.2)⟩)
      · obtain ⟨ef9, ev9, ho4⟩ := hP
        rw [ef9] at hw
        subst ev9
        refine W.eq (g2 := F0 m 10 ls []) rfl ?_
        refine lv_aload_n hx hb dX4_asked_10 rfl (lv_at hl9 0 rfl) ?_
        refine hp_getN B0 hw 1 rfl in_X1 k_ez 2 (by decide) oF_X4_95 rfl dX4_asked_11 ?_
        refine lv_iload_n hx hb dX4_asked_14 rfl (lv_at hl9 3 rfl) ?_
        refine hp_iald B0 hw k_nq0 (vin6 ho4) dX4_asked_15 ?_
        exact hp_iret (v := (gq0 (o : Int32).toNatClampNeg)) B0 hw hS hr ⟨Nat.le_of_ble_eq_true rfl, Nat.le_of_ble_eq_true rfl⟩ dX4_asked_16 (⟨spc_0 ⟨(Or.inl k2), ho4⟩ trivial, rfl, Or.inl ⟨k2, rfl⟩⟩)
    · subst ev9
      refine W.eq (g2 := F0 m 5 ls [.ref eo]) rfl ?_
      refine lv_astore_n (lv' := [(3, .ref eo), (0, .ref xo), (1, .int i), (2, .int o)]) hx hb dX4_asked_5 rfl hl9 (by decide) rfl (fun ls hl9 => ?_)
      refine lv_iload_n hx hb dX4_asked_6 rfl (lv_at hl9 3 rfl) ?_
      refine hp_S (As := [.int o]) (rest := []) B0 hw hS (c_X4_refuseNoOption hl G f o) mS_X4_refuseNoOption qM_X4_32 rfl rfl hl9.1 (Nat.le_of_ble_eq_true rfl) ⟨⟨Nat.le_of_ble_eq_true rfl, Nat.le_of_ble_eq_true rfl⟩, Nat.le_of_ble_eq_true rfl, Nat.le_of_ble_eq_true rfl⟩ dX4_asked_7 (fun E ce q9 f5 H locs hPX hw hS hce hcv hcl => ?_) (fun v f5 H locs hP hw hS => ?_)
      · obtain ⟨ef9, eE9, hE9⟩ := hPX
        rw [ef9] at hw
        subst eE9
        exact hp_out B0 hw hS hout hce hcv hcl ⟨Nat.le_of_ble_eq_true rfl, Nat.le_of_ble_eq_true rfl⟩ (⟨rfl, rfl, spc_1 (fun h9 => hE9 h9.2)⟩)
      · obtain ⟨ef9, ev9, ho6⟩ := hP
        rw [ef9] at hw
        subst ev9
        refine W.eq (g2 := F0 m 10 ls []) rfl ?_
        refine lv_aload_n hx hb dX4_asked_10 rfl (lv_at hl9 0 rfl) ?_
        refine hp_getN B0 hw 1 rfl in_X1 k_eo 2 (by decide) oF_X4_95 rfl dX4_asked_11 ?_
        refine lv_iload_n hx hb dX4_asked_14 rfl (lv_at hl9 3 rfl) ?_
        refine hp_iald B0 hw k_nq1 (vin6 ho6) dX4_asked_15 ?_
        exact hp_iret (v := (gq1 (o : Int32).toNatClampNeg)) B0 hw hS hr ⟨Nat.le_of_ble_eq_true rfl, Nat.le_of_ble_eq_true rfl⟩ dX4_asked_16 (⟨spc_0 ⟨(Or.inr k2), ho6⟩ trivial, rfl, Or.inr ⟨k2, rfl⟩⟩)

set_option maxHeartbeats 4000000 in
set_option maxRecDepth 100000 in
theorem c_X1_changeMagic {l : Launch} (hl : l.stackTraces = false) (G : hG) (f : hM) (en : Nat) (nw na nq nr : Nat) (mg st tm sr li lp mi : Int32) (k_en : f en = some (.inr (1, [.ref nw, .ref na, .ref nq, .ref nr, .int mg, .int st, .int tm, .int sr, .int li, .int lp, .int mi]))) (x : Int32) : CT l yX1_changeMagic (.code yX1_changeMagic cX1_changeMagic 3 (some .int)) 0 0 0 0 G [.ref en, .int x] f (fun v f1 => v = some (.int mg) ∧ f1 = va_up f en (some (.inr (1, [.ref nw, .ref na, .ref nq, .ref nr, .int x, .int st, .int tm, .int sr, .int li, .int lp, .int mi]))) ∧ hKeep [en] f f1) (fun E f1 => False) := by
  refine hp_start hl (own := RX1) (by decide) rfl (Nat.le_of_ble_eq_true rfl) ?_
  intro p e s m args below meth c B0 hr hnm hout hw hS ls hl9
  have hx := B0.1
  have hb := B0.2.1
  have hl9 : lv_has ls 3 [(0, .ref en), (1, .int x)] := hl9
  refine lv_aload_n hx hb dX1_changeMagic_0 rfl (lv_at hl9 0 rfl) ?_
  refine hp_get B0 hw 1 rfl in_X1 k_en 4 (by decide) qF_X1_48 rfl dX1_changeMagic_1 ?_
  refine lv_istore_n (lv' := [(2, .int mg), (0, .ref en), (1, .int x)]) hx hb dX1_changeMagic_4 rfl hl9 (by decide) rfl (fun ls hl9 => ?_)
  refine lv_aload_n hx hb dX1_changeMagic_5 rfl (lv_at hl9 1 rfl) ?_
  refine lv_iload_n hx hb dX1_changeMagic_6 rfl (lv_at hl9 2 rfl) ?_
  refine hp_put (fs1 := [.ref nw, .ref na, .ref nq, .ref nr, .int x, .int st, .int tm, .int sr, .int li, .int lp, .int mi]) (ty := .int) B0 hw hS 1 rfl in_X1 tyX1 tyX1_ok nmX1 k_en 4 (by decide) qF_X1_48 rfl (by decide +kernel) rfl rfl (Nat.le_of_ble_eq_true rfl) rfl dX1_changeMagic_7 (fun H locs f1 ef1 hw hS => ?_)
  have h2 : f1 en = some (.inr (1, [.ref nw, .ref na, .ref nq, .ref nr, .int x, .int st, .int tm, .int sr, .int li, .int lp, .int mi])) := by rw [ef1, va_up_self]
  refine lv_iload_n hx hb dX1_changeMagic_10 rfl (lv_at hl9 0 rfl) ?_
  exact hp_iret (v := mg) B0 hw hS hr ⟨Nat.le_of_ble_eq_true rfl, Nat.le_of_ble_eq_true rfl⟩ dX1_changeMagic_11 (⟨rfl, ef1, (show hKeep [en] f f1 from (by rw [ef1]; exact hKeep.up (by simp)))⟩)

set_option maxHeartbeats 4000000 in
set_option maxRecDepth 100000 in
theorem c_X4_setMagic {l : Launch} (hl : l.stackTraces = false) (G : hG) (f : hM) (xo ez eo bu : Nat) (k_xo : f xo = some (.inr (4, [.ref ez, .ref eo, .ref bu]))) (nw0 na0 nq0 nr0 : Nat) (mg0 st0 tm0 sr0 li0 lp0 mi0 : Int32) (k_ez : f ez = some (.inr (1, [.ref nw0, .ref na0, .ref nq0, .ref nr0, .int mg0, .int st0, .int tm0, .int sr0, .int li0, .int lp0, .int mi0]))) (nw1 na1 nq1 nr1 : Nat) (mg1 st1 tm1 sr1 li1 lp1 mi1 : Int32) (k_eo : f eo = some (.inr (1, [.ref nw1, .ref na1, .ref nq1, .ref nr1, .int mg1, .int st1, .int tm1, .int sr1, .int li1, .int lp1, .int mi1]))) (i x : Int32) : CT l yX4_setMagic (.code yX4_setMagic cX4_setMagic 3 (some .int)) 7 103 1 6 G [.ref xo, .int i, .int x] f (fun v f1 => spc (sE i) True = 0 ∧ ((i = 0 ∧ v = some (.int mg0) ∧ f1 = va_up f ez (some (.inr (1, [.ref nw0, .ref na0, .ref nq0, .ref nr0, .int x, .int st0, .int tm0, .int sr0, .int li0, .int lp0, .int mi0]))) ∧ hKeep [ez] f f1) ∨ (i = 1 ∧ v = some (.int mg1) ∧ f1 = va_up f eo (some (.inr (1, [.ref nw1, .ref na1, .ref nq1, .ref nr1, .int x, .int st1, .int tm1, .int sr1, .int li1, .int lp1, .int mi1]))) ∧ hKeep [eo] f f1))) (fun E f1 => f1 = f ∧ E = eI ∧ spc (sE i) True = 1) := by
  refine hp_start hl (own := RX4) (by decide) rfl (Nat.le_of_ble_eq_true rfl) ?_
  intro p e s m args below meth c B0 hr hnm hout hw hS ls hl9
  have hx := B0.1
  have hb := B0.2.1
  have hl9 : lv_has ls 3 [(0, .ref xo), (1, .int i), (2, .int x)] := hl9
  refine lv_aload_n hx hb dX4_setMagic_0 rfl (lv_at hl9 0 rfl) ?_
  refine lv_iload_n hx hb dX4_setMagic_1 rfl (lv_at hl9 1 rfl) ?_
  refine hp_V (ci := 4) (As := [.int i]) (rest := []) B0 hw hS (c_X4_endAt hl G f xo ez eo bu k_xo i) mV_X4_endAt qM_X4_28 rfl k_xo rfl rfl hl9.1 (Nat.le_of_ble_eq_true rfl) ⟨⟨Nat.le_of_ble_eq_true rfl, Nat.le_of_ble_eq_true rfl⟩, Nat.le_of_ble_eq_true rfl, Nat.le_of_ble_eq_true rfl⟩ dX4_setMagic_2 (fun E ce q9 f1 H locs hPX hw hS hce hcv hcl => ?_) (fun v f1 H locs hP hw hS => ?_)
  · obtain ⟨ef9, eE9, hE9⟩ := hPX
    rw [ef9] at hw
    subst eE9
    exact hp_out B0 hw hS hout hce hcv hcl ⟨Nat.le_of_ble_eq_true rfl, Nat.le_of_ble_eq_true rfl⟩ (⟨rfl, rfl, spc_1 hE9⟩)
  · obtain ⟨ef9, hv9⟩ := hP
    rw [ef9] at hw
    rcases hv9 with ⟨k2, ev9⟩ | ⟨k2, ev9⟩
    · subst ev9
      refine W.eq (g2 := F0 m 5 ls [.ref ez]) rfl ?_
      refine lv_iload_n hx hb dX4_setMagic_5 rfl (lv_at hl9 2 rfl) ?_
      refine hp_V (ci := 1) (As := [.int x]) (rest := []) B0 hw hS (c_X1_changeMagic hl G f ez nw0 na0 nq0 nr0 mg0 st0 tm0 sr0 li0 lp0 mi0 k_ez x) mV_X1_changeMagic qM_X4_51 rfl k_ez rfl rfl hl9.1 (Nat.le_of_ble_eq_true rfl) ⟨⟨Nat.le_of_ble_eq_true rfl, Nat.le_of_ble_eq_true rfl⟩, Nat.le_of_ble_eq_true rfl, Nat.le_of_ble_eq_true rfl⟩ dX4_setMagic_6 (fun E ce q9 f3 H locs hPX hw hS hce hcv hcl => ?_) (fun v f3 H locs hP hw hS => ?_)
      · exact hPX.elim
      · obtain ⟨ev9, e4, k5⟩ := hP
        subst ev9
        have h6 : f3 ez = some (.inr (1, [.ref nw0, .ref na0, .ref nq0, .ref nr0, .int x, .int st0, .int tm0, .int sr0, .int li0, .int lp0, .int mi0])) := by rw [e4, va_up_self]
        refine W.eq (g2 := F0 m 9 ls [.int mg0]) rfl ?_
        exact hp_iret (v := mg0) B0 hw hS hr ⟨Nat.le_of_ble_eq_true rfl, Nat.le_of_ble_eq_true rfl⟩ dX4_setMagic_9 (⟨spc_0 (Or.inl k2) trivial, Or.inl ⟨k2, rfl, e4, (show hKeep [ez] f f3 from (by rw [e4]; exact hKeep.up (by simp)))⟩⟩)
    · subst ev9
      refine W.eq (g2 := F0 m 5 ls [.ref eo]) rfl ?_
      refine lv_iload_n hx hb dX4_setMagic_5 rfl (lv_at hl9 2 rfl) ?_
      refine hp_V (ci := 1) (As := [.int x]) (rest := []) B0 hw hS (c_X1_changeMagic hl G f eo nw1 na1 nq1 nr1 mg1 st1 tm1 sr1 li1 lp1 mi1 k_eo x) mV_X1_changeMagic qM_X4_51 rfl k_eo rfl rfl hl9.1 (Nat.le_of_ble_eq_true rfl) ⟨⟨Nat.le_of_ble_eq_true rfl, Nat.le_of_ble_eq_true rfl⟩, Nat.le_of_ble_eq_true rfl, Nat.le_of_ble_eq_true rfl⟩ dX4_setMagic_6 (fun E ce q9 f7 H locs hPX hw hS hce hcv hcl => ?_) (fun v f7 H locs hP hw hS => ?_)
      · exact hPX.elim
      · obtain ⟨ev9, e8, k9⟩ := hP
        subst ev9
        have h10 : f7 eo = some (.inr (1, [.ref nw1, .ref na1, .ref nq1, .ref nr1, .int x, .int st1, .int tm1, .int sr1, .int li1, .int lp1, .int mi1])) := by rw [e8, va_up_self]
        refine W.eq (g2 := F0 m 9 ls [.int mg1]) rfl ?_
        exact hp_iret (v := mg1) B0 hw hS hr ⟨Nat.le_of_ble_eq_true rfl, Nat.le_of_ble_eq_true rfl⟩ dX4_setMagic_9 (⟨spc_0 (Or.inr k2) trivial, Or.inr ⟨k2, rfl, e8, (show hKeep [eo] f f7 from (by rw [e8]; exact hKeep.up (by simp)))⟩⟩)
end
section
/-- no frame that wasn't one before -/
def NF (f f1 : hM) : Prop := ∀ a k, f1 a = some (.inr (2, k)) → f a = some (.inr (2, k))
theorem NF.rf {f : hM} : NF f f := fun _ _ h => h
theorem NF.tr {f f1 f2 : hM} (h : NF f f1) (h2 : NF f1 f2) : NF f f2 := fun a k q => h a k (h2 a k q)
theorem NF.up {f : hM} {a : Nat} {e : va_E} (h : hTag e ≠ 3) : NF f (va_up f a (some e)) := fun b k q => by
  by_cases z : b = a
  · rw [z, va_up_self] at q; cases q; exact absurd rfl h
  · rw [va_up_ne _ _ z] at q; exact q
theorem hneL0 : True := trivial
set_option maxHeartbeats 4000000 in
set_option maxRecDepth 100000 in
theorem c_X3_init {l : Launch} (hl : l.stackTraces = false) (G : hG) (f : hM) (nr : Nat) (k_nr : f nr = some (.inr (3, [.null, .null, .int 0]))) : CT l yX3_init (.code yX3_init cX3_init 1 none) 1 13 0 0 G [.ref nr] f (fun v f1 => v = none ∧ f1 = f) (fun E f1 => False) := by
  refine hp_start hl (own := RX3) (by decide) rfl (Nat.le_of_ble_eq_true rfl) ?_
  intro p e s m args below meth c B0 hr hnm hout hw hS ls hl9
  have hx := B0.1
  have hb := B0.2.1
  have hl9 : lv_has ls 1 [(0, .ref nr)] := hl9
  refine lv_aload_n hx hb dX3_init_0 rfl (lv_at hl9 0 rfl) ?_
  refine W.objInit hx hb B0.2.2.2.1 (B0.2.2.2.2.1 _ qM_X3_3) (B0.2.2.2.2.1 _ qi_obj) (B0.2.2.2.2.1 _ qc_obj) rfl (by rw [B0.2.2.1]; exact hl9.1) rfl dX3_init_1 (Nat.le_of_ble_eq_true rfl) (Nat.le_of_ble_eq_true rfl) ?_
  refine W.eq (g2 := F0 m 4 ls []) rfl ?_
  exact hp_vret B0 hw hS hr ⟨Nat.le_of_ble_eq_true rfl, Nat.le_of_ble_eq_true rfl⟩ dX3_init_4 (⟨rfl, rfl⟩)

theorem hKeep.none {S : List Nat} {f fj : hM} {q : Nat} (h : hKeep S f fj) (hq : fj q = none) (hn : q ∉ S) : f q = none := by
  cases h9 : f q with
  | none => rfl
  | some e => rw [h q e h9 hn] at hq; cases hq

theorem cl0 : (0 : Int32).toNatClampNeg = 0 := rfl
theorem cl1 : (1 : Int32).toNatClampNeg = 1 := rfl
theorem cl2 : (2 : Int32).toNatClampNeg = 2 := rfl
theorem cl3 : (3 : Int32).toNatClampNeg = 3 := rfl
theorem cl4 : (4 : Int32).toNatClampNeg = 4 := rfl
theorem cl5 : (5 : Int32).toNatClampNeg = 5 := rfl
theorem cl6 : (6 : Int32).toNatClampNeg = 6 := rfl
theorem cl7 : (7 : Int32).toNatClampNeg = 7 := rfl
theorem cl8 : (8 : Int32).toNatClampNeg = 8 := rfl
theorem cl9 : (9 : Int32).toNatClampNeg = 9 := rfl
theorem cl10 : (10 : Int32).toNatClampNeg = 10 := rfl
theorem cl11 : (11 : Int32).toNatClampNeg = 11 := rfl
theorem fill6 (gx : Nat → Int32) (x : Int32) : (upd (upd (upd (upd (upd (upd gx (0 : Int32).toNatClampNeg x) (1 : Int32).toNatClampNeg x) (2 : Int32).toNatClampNeg x) (3 : Int32).toNatClampNeg x) (4 : Int32).toNatClampNeg x) (5 : Int32).toNatClampNeg x) = (fun j => if j < 6 then x else gx j) := by
  funext j
  simp only [upd, cl0, cl1, cl2, cl3, cl4, cl5]
  by_cases h : j < 6
  · rw [if_pos h]
    rcases (show j = 0 ∨ j = 1 ∨ j = 2 ∨ j = 3 ∨ j = 4 ∨ j = 5 by omega) with rfl | rfl | rfl | rfl | rfl | rfl <;> rfl
  · rw [if_neg h]
    rw [if_neg (show ¬ j = 5 by omega)]
    rw [if_neg (show ¬ j = 4 by omega)]
    rw [if_neg (show ¬ j = 3 by omega)]
    rw [if_neg (show ¬ j = 2 by omega)]
    rw [if_neg (show ¬ j = 1 by omega)]
    rw [if_neg (show ¬ j = 0 by omega)]
set_option maxHeartbeats 4000000 in
set_option maxRecDepth 100000 in
theorem c_J7_fill6 {l : Launch} (hl : l.stackTraces = false) (G : hG) (f : hM) (na : Nat) (gx : Nat → Int32) (k_na : f na = some (.inl (cI G, 6, .inl gx))) (x : Int32) : CT l yJ7_fill_53178 (.code yJ7_fill_53178 cJ7_fill_53178 4 none) 0 0 0 0 G [.ref na, .int x] f (fun v f1 => v = none ∧ f1 na = some (.inl (cI G, 6, .inl (fun j => if j < 6 then x else gx j))) ∧ hKeep [na] f f1 ∧ NF f f1) (fun E f1 => False) := by
  refine hp_start hl (own := RJ7) (by decide) rfl (Nat.le_of_ble_eq_true rfl) ?_
  intro p e s m args below meth c B0 hr hnm hout hw hS ls hl9
  have hx := B0.1
  have hb := B0.2.1
  have hl9 : lv_has ls 4 [(0, .ref na), (1, .int x)] := hl9
  refine lv_iconst (v := 0) hx hb dJ7_fill_53178_0 (by decide) ?_
  refine lv_istore_n (lv' := [(2, .int 0), (0, .ref na), (1, .int x)]) hx hb dJ7_fill_53178_1 rfl hl9 (by decide) rfl (fun ls hl9 => ?_)
  refine lv_aload_n hx hb dJ7_fill_53178_2 rfl (lv_at hl9 1 rfl) ?_
  refine hp_alenI B0 hw k_na (v := 6) (by decide) dJ7_fill_53178_3 ?_
  refine lv_istore_n (lv' := [(3, .int 6), (2, .int 0), (0, .ref na), (1, .int x)]) hx hb dJ7_fill_53178_4 rfl hl9 (by decide) rfl (fun ls hl9 => ?_)
  refine lv_iload_n hx hb dJ7_fill_53178_5 rfl (lv_at hl9 1 rfl) ?_
  refine lv_iload_n hx hb dJ7_fill_53178_6 rfl (lv_at hl9 0 rfl) ?_
  refine lv_icmp_ge (tgt := 20) hx hb dJ7_fill_53178_7 (by decide) (fun c9 => absurd c9 (by decide)) (fun _ => ?_)
  refine lv_aload_n hx hb dJ7_fill_53178_10 rfl (lv_at hl9 2 rfl) ?_
  refine lv_iload_n hx hb dJ7_fill_53178_11 rfl (lv_at hl9 1 rfl) ?_
  refine lv_iload_n hx hb dJ7_fill_53178_12 rfl (lv_at hl9 3 rfl) ?_
  refine hp_iast B0 hw hS k_na (by unfold vp_in; decide) dJ7_fill_53178_13 (fun H locs f1 ef1 hw hS => ?_)
  have h2 : f1 na = some (.inl (cI G, 6, .inl (upd gx (0 : Int32).toNatClampNeg x))) := by rw [ef1, va_up_self]
  refine lv_iinc (v := 1) (lv' := [(2, .int 1), (3, .int 6), (0, .ref na), (1, .int x)]) hx hb dJ7_fill_53178_14 hl9 (k := 1) rfl (by decide) (by decide) rfl (fun ls hl9 => ?_)
  refine lv_goto (tgt := 5) hx hb dJ7_fill_53178_17 (by decide) ?_
  refine lv_iload_n hx hb dJ7_fill_53178_5 rfl (lv_at hl9 0 rfl) ?_
  refine lv_iload_n hx hb dJ7_fill_53178_6 rfl (lv_at hl9 1 rfl) ?_
  refine lv_icmp_ge (tgt := 20) hx hb dJ7_fill_53178_7 (by decide) (fun c9 => absurd c9 (by decide)) (fun _ => ?_)
  refine lv_aload_n hx hb dJ7_fill_53178_10 rfl (lv_at hl9 2 rfl) ?_
  refine lv_iload_n hx hb dJ7_fill_53178_11 rfl (lv_at hl9 0 rfl) ?_
  refine lv_iload_n hx hb dJ7_fill_53178_12 rfl (lv_at hl9 3 rfl) ?_
  refine hp_iast B0 hw hS h2 (by unfold vp_in; decide) dJ7_fill_53178_13 (fun H locs f3 ef3 hw hS => ?_)
  have e4 : f3 = va_up f na (some (.inl (cI G, 6, .inl (upd (upd gx (0 : Int32).toNatClampNeg x) (1 : Int32).toNatClampNeg x)))) := by rw [ef3, ef1, bx_uu]
  have h5 : f3 na = some (.inl (cI G, 6, .inl (upd (upd gx (0 : Int32).toNatClampNeg x) (1 : Int32).toNatClampNeg x))) := by rw [ef3, va_up_self]
  refine lv_iinc (v := 2) (lv' := [(2, .int 2), (3, .int 6), (0, .ref na), (1, .int x)]) hx hb dJ7_fill_53178_14 hl9 (k := 0) rfl (by decide) (by decide) rfl (fun ls hl9 => ?_)
  refine lv_goto (tgt := 5) hx hb dJ7_fill_53178_17 (by decide) ?_
  refine lv_iload_n hx hb dJ7_fill_53178_5 rfl (lv_at hl9 0 rfl) ?_
  refine lv_iload_n hx hb dJ7_fill_53178_6 rfl (lv_at hl9 1 rfl) ?_
  refine lv_icmp_ge (tgt := 20) hx hb dJ7_fill_53178_7 (by decide) (fun c9 => absurd c9 (by decide)) (fun _ => ?_)
  refine lv_aload_n hx hb dJ7_fill_53178_10 rfl (lv_at hl9 2 rfl) ?_
  refine lv_iload_n hx hb dJ7_fill_53178_11 rfl (lv_at hl9 0 rfl) ?_
  refine lv_iload_n hx hb dJ7_fill_53178_12 rfl (lv_at hl9 3 rfl) ?_
  refine hp_iast B0 hw hS h5 (by unfold vp_in; decide) dJ7_fill_53178_13 (fun H locs f6 ef6 hw hS => ?_)
  have e7 : f6 = va_up f na (some (.inl (cI G, 6, .inl (upd (upd (upd gx (0 : Int32).toNatClampNeg x) (1 : Int32).toNatClampNeg x) (2 : Int32).toNatClampNeg x)))) := by rw [ef6, e4, bx_uu]
  have h8 : f6 na = some (.inl (cI G, 6, .inl (upd (upd (upd gx (0 : Int32).toNatClampNeg x) (1 : Int32).toNatClampNeg x) (2 : Int32).toNatClampNeg x))) := by rw [ef6, va_up_self]
  refine lv_iinc (v := 3) (lv' := [(2, .int 3), (3, .int 6), (0, .ref na), (1, .int x)]) hx hb dJ7_fill_53178_14 hl9 (k := 0) rfl (by decide) (by decide) rfl (fun ls hl9 => ?_)
  refine lv_goto (tgt := 5) hx hb dJ7_fill_53178_17 (by decide) ?_
  refine lv_iload_n hx hb dJ7_fill_53178_5 rfl (lv_at hl9 0 rfl) ?_
  refine lv_iload_n hx hb dJ7_fill_53178_6 rfl (lv_at hl9 1 rfl) ?_
  refine lv_icmp_ge (tgt := 20) hx hb dJ7_fill_53178_7 (by decide) (fun c9 => absurd c9 (by decide)) (fun _ => ?_)
  refine lv_aload_n hx hb dJ7_fill_53178_10 rfl (lv_at hl9 2 rfl) ?_
  refine lv_iload_n hx hb dJ7_fill_53178_11 rfl (lv_at hl9 0 rfl) ?_
  refine lv_iload_n hx hb dJ7_fill_53178_12 rfl (lv_at hl9 3 rfl) ?_
  refine hp_iast B0 hw hS h8 (by unfold vp_in; decide) dJ7_fill_53178_13 (fun H locs f9 ef9 hw hS => ?_)
  have e10 : f9 = va_up f na (some (.inl (cI G, 6, .inl (upd (upd (upd (upd gx (0 : Int32).toNatClampNeg x) (1 : Int32).toNatClampNeg x) (2 : Int32).toNatClampNeg x) (3 : Int32).toNatClampNeg x)))) := by rw [ef9, e7, bx_uu]
  have h11 : f9 na = some (.inl (cI G, 6, .inl (upd (upd (upd (upd gx (0 : Int32).toNatClampNeg x) (1 : Int32).toNatClampNeg x) (2 : Int32).toNatClampNeg x) (3 : Int32).toNatClampNeg x))) := by rw [ef9, va_up_self]
  refine lv_iinc (v := 4) (lv' := [(2, .int 4), (3, .int 6), (0, .ref na), (1, .int x)]) hx hb dJ7_fill_53178_14 hl9 (k := 0) rfl (by decide) (by decide) rfl (fun ls hl9 => ?_)
  refine lv_goto (tgt := 5) hx hb dJ7_fill_53178_17 (by decide) ?_
  refine lv_iload_n hx hb dJ7_fill_53178_5 rfl (lv_at hl9 0 rfl) ?_
  refine lv_iload_n hx hb dJ7_fill_53178_6 rfl (lv_at hl9 1 rfl) ?_
  refine lv_icmp_ge (tgt := 20) hx hb dJ7_fill_53178_7 (by decide) (fun c9 => absurd c9 (by decide)) (fun _ => ?_)
  refine lv_aload_n hx hb dJ7_fill_53178_10 rfl (lv_at hl9 2 rfl) ?_
  refine lv_iload_n hx hb dJ7_fill_53178_11 rfl (lv_at hl9 0 rfl) ?_
  refine lv_iload_n hx hb dJ7_fill_53178_12 rfl (lv_at hl9 3 rfl) ?_
  refine hp_iast B0 hw hS h11 (by unfold vp_in; decide) dJ7_fill_53178_13 (fun H locs f12 ef12 hw hS => ?_)
  have e13 : f12 = va_up f na (some (.inl (cI G, 6, .inl (upd (upd (upd (upd (upd gx (0 : Int32).toNatClampNeg x) (1 : Int32).toNatClampNeg x) (2 : Int32).toNatClampNeg x) (3 : Int32).toNatClampNeg x) (4 : Int32).toNatClampNeg x)))) := by rw [ef12, e10, bx_uu]
  have h14 : f12 na = some (.inl (cI G, 6, .inl (upd (upd (upd (upd (upd gx (0 : Int32).toNatClampNeg x) (1 : Int32).toNatClampNeg x) (2 : Int32).toNatClampNeg x) (3 : Int32).toNatClampNeg x) (4 : Int32).toNatClampNeg x))) := by rw [ef12, va_up_self]
  refine lv_iinc (v := 5) (lv' := [(2, .int 5), (3, .int 6), (0, .ref na), (1, .int x)]) hx hb dJ7_fill_53178_14 hl9 (k := 0) rfl (by decide) (by decide) rfl (fun ls hl9 => ?_)
  refine lv_goto (tgt := 5) hx hb dJ7_fill_53178_17 (by decide) ?_
  refine lv_iload_n hx hb dJ7_fill_53178_5 rfl (lv_at hl9 0 rfl) ?_
  refine lv_iload_n hx hb dJ7_fill_53178_6 rfl (lv_at hl9 1 rfl) ?_
  refine lv_icmp_ge (tgt := 20) hx hb dJ7_fill_53178_7 (by decide) (fun c9 => absurd c9 (by decide)) (fun _ => ?_)
  refine lv_aload_n hx hb dJ7_fill_53178_10 rfl (lv_at hl9 2 rfl) ?_
  refine lv_iload_n hx hb dJ7_fill_53178_11 rfl (lv_at hl9 0 rfl) ?_
  refine lv_iload_n hx hb dJ7_fill_53178_12 rfl (lv_at hl9 3 rfl) ?_
  refine hp_iast B0 hw hS h14 (by unfold vp_in; decide) dJ7_fill_53178_13 (fun H locs f15 ef15 hw hS => ?_)
  have e16 : f15 = va_up f na (some (.inl (cI G, 6, .inl (upd (upd (upd (upd (upd (upd gx (0 : Int32).toNatClampNeg x) (1 : Int32).toNatClampNeg x) (2 : Int32).toNatClampNeg x) (3 : Int32).toNatClampNeg x) (4 : Int32).toNatClampNeg x) (5 : Int32).toNatClampNeg x)))) := by rw [ef15, e13, bx_uu]
  have h17 : f15 na = some (.inl (cI G, 6, .inl (upd (upd (upd (upd (upd (upd gx (0 : Int32).toNatClampNeg x) (1 : Int32).toNatClampNeg x) (2 : Int32).toNatClampNeg x) (3 : Int32).toNatClampNeg x) (4 : Int32).toNatClampNeg x) (5 : Int32).toNatClampNeg x))) := by rw [ef15, va_up_self]
  refine lv_iinc (v := 6) (lv' := [(2, .int 6), (3, .int 6), (0, .ref na), (1, .int x)]) hx hb dJ7_fill_53178_14 hl9 (k := 0) rfl (by decide) (by decide) rfl (fun ls hl9 => ?_)
  refine lv_goto (tgt := 5) hx hb dJ7_fill_53178_17 (by decide) ?_
  refine lv_iload_n hx hb dJ7_fill_53178_5 rfl (lv_at hl9 0 rfl) ?_
  refine lv_iload_n hx hb dJ7_fill_53178_6 rfl (lv_at hl9 1 rfl) ?_
  refine lv_icmp_ge (tgt := 20) hx hb dJ7_fill_53178_7 (by decide) (fun _ => ?_) (fun c9 => absurd (by decide) c9)
  exact hp_vret B0 hw hS hr ⟨Nat.le_of_ble_eq_true rfl, Nat.le_of_ble_eq_true rfl⟩ dJ7_fill_53178_20 (⟨rfl, by have h9 := h17; rw [fill6] at h9; exact h9, (show hKeep [na] f f15 from (by rw [e16]; exact hKeep.up (by simp))), (show NF f f15 from (by rw [e16]; exact NF.up (Nat.ne_of_beq_eq_false rfl)))⟩)

theorem fill3 (gx : Nat → Int32) (x : Int32) : (upd (upd (upd gx (0 : Int32).toNatClampNeg x) (1 : Int32).toNatClampNeg x) (2 : Int32).toNatClampNeg x) = (fun j => if j < 3 then x else gx j) := by
  funext j
  simp only [upd, cl0, cl1, cl2]
  by_cases h : j < 3
  · rw [if_pos h]
    rcases (show j = 0 ∨ j = 1 ∨ j = 2 by omega) with rfl | rfl | rfl <;> rfl
  · rw [if_neg h]
    rw [if_neg (show ¬ j = 2 by omega)]
    rw [if_neg (show ¬ j = 1 by omega)]
    rw [if_neg (show ¬ j = 0 by omega)]
set_option maxHeartbeats 4000000 in
set_option maxRecDepth 100000 in
theorem c_J7_fill3 {l : Launch} (hl : l.stackTraces = false) (G : hG) (f : hM) (na : Nat) (gx : Nat → Int32) (k_na : f na = some (.inl (cI G, 3, .inl gx))) (x : Int32) : CT l yJ7_fill_53178 (.code yJ7_fill_53178 cJ7_fill_53178 4 none) 0 0 0 0 G [.ref na, .int x] f (fun v f1 => v = none ∧ f1 na = some (.inl (cI G, 3, .inl (fun j => if j < 3 then x else gx j))) ∧ hKeep [na] f f1 ∧ NF f f1) (fun E f1 => False) := by
  refine hp_start hl (own := RJ7) (by decide) rfl (Nat.le_of_ble_eq_true rfl) ?_
  intro p e s m args below meth c B0 hr hnm hout hw hS ls hl9
  have hx := B0.1
  have hb := B0.2.1
  have hl9 : lv_has ls 4 [(0, .ref na), (1, .int x)] := hl9
  refine lv_iconst (v := 0) hx hb dJ7_fill_53178_0 (by decide) ?_
  refine lv_istore_n (lv' := [(2, .int 0), (0, .ref na), (1, .int x)]) hx hb dJ7_fill_53178_1 rfl hl9 (by decide) rfl (fun ls hl9 => ?_)
  refine lv_aload_n hx hb dJ7_fill_53178_2 rfl (lv_at hl9 1 rfl) ?_
  refine hp_alenI B0 hw k_na (v := 3) (by decide) dJ7_fill_53178_3 ?_
  refine lv_istore_n (lv' := [(3, .int 3), (2, .int 0), (0, .ref na), (1, .int x)]) hx hb dJ7_fill_53178_4 rfl hl9 (by decide) rfl (fun ls hl9 => ?_)
  refine lv_iload_n hx hb dJ7_fill_53178_5 rfl (lv_at hl9 1 rfl) ?_
  refine lv_iload_n hx hb dJ7_fill_53178_6 rfl (lv_at hl9 0 rfl) ?_
  refine lv_icmp_ge (tgt := 20) hx hb dJ7_fill_53178_7 (by decide) (fun c9 => absurd c9 (by decide)) (fun _ => ?_)
  refine lv_aload_n hx hb dJ7_fill_53178_10 rfl (lv_at hl9 2 rfl) ?_
  refine lv_iload_n hx hb dJ7_fill_53178_11 rfl (lv_at hl9 1 rfl) ?_
  refine lv_iload_n hx hb dJ7_fill_53178_12 rfl (lv_at hl9 3 rfl) ?_
  refine hp_iast B0 hw hS k_na (by unfold vp_in; decide) dJ7_fill_53178_13 (fun H locs f1 ef1 hw hS => ?_)
  have h2 : f1 na = some (.inl (cI G, 3, .inl (upd gx (0 : Int32).toNatClampNeg x))) := by rw [ef1, va_up_self]
  refine lv_iinc (v := 1) (lv' := [(2, .int 1), (3, .int 3), (0, .ref na), (1, .int x)]) hx hb dJ7_fill_53178_14 hl9 (k := 1) rfl (by decide) (by decide) rfl (fun ls hl9 => ?_)
  refine lv_goto (tgt := 5) hx hb dJ7_fill_53178_17 (by decide) ?_
  refine lv_iload_n hx hb dJ7_fill_53178_5 rfl (lv_at hl9 0 rfl) ?_
  refine lv_iload_n hx hb dJ7_fill_53178_6 rfl (lv_at hl9 1 rfl) ?_
  refine lv_icmp_ge (tgt := 20) hx hb dJ7_fill_53178_7 (by decide) (fun c9 => absurd c9 (by decide)) (fun _ => ?_)
  refine lv_aload_n hx hb dJ7_fill_53178_10 rfl (lv_at hl9 2 rfl) ?_
  refine lv_iload_n hx hb dJ7_fill_53178_11 rfl (lv_at hl9 0 rfl) ?_
  refine lv_iload_n hx hb dJ7_fill_53178_12 rfl (lv_at hl9 3 rfl) ?_
  refine hp_iast B0 hw hS h2 (by unfold vp_in; decide) dJ7_fill_53178_13 (fun H locs f3 ef3 hw hS => ?_)
  have e4 : f3 = va_up f na (some (.inl (cI G, 3, .inl (upd (upd gx (0 : Int32).toNatClampNeg x) (1 : Int32).toNatClampNeg x)))) := by rw [ef3, ef1, bx_uu]
  have h5 : f3 na = some (.inl (cI G, 3, .inl (upd (upd gx (0 : Int32).toNatClampNeg x) (1 : Int32).toNatClampNeg x))) := by rw [ef3, va_up_self]
  refine lv_iinc (v := 2) (lv' := [(2, .int 2), (3, .int 3), (0, .ref na), (1, .int x)]) hx hb dJ7_fill_53178_14 hl9 (k := 0) rfl (by decide) (by decide) rfl (fun ls hl9 => ?_)
  refine lv_goto (tgt := 5) hx hb dJ7_fill_53178_17 (by decide) ?_
  refine lv_iload_n hx hb dJ7_fill_53178_5 rfl (lv_at hl9 0 rfl) ?_
  refine lv_iload_n hx hb dJ7_fill_53178_6 rfl (lv_at hl9 1 rfl) ?_
  refine lv_icmp_ge (tgt := 20) hx hb dJ7_fill_53178_7 (by decide) (fun c9 => absurd c9 (by decide)) (fun _ => ?_)
  refine lv_aload_n hx hb dJ7_fill_53178_10 rfl (lv_at hl9 2 rfl) ?_
  refine lv_iload_n hx hb dJ7_fill_53178_11 rfl (lv_at hl9 0 rfl) ?_
  refine lv_iload_n hx hb dJ7_fill_53178_12 rfl (lv_at hl9 3 rfl) ?_
  refine hp_iast B0 hw hS h5 (by unfold vp_in; decide) dJ7_fill_53178_13 (fun H locs f6 ef6 hw hS => ?_)
  have e7 : f6 = va_up f na (some (.inl (cI G, 3, .inl (upd (upd (upd gx (0 : Int32).toNatClampNeg x) (1 : Int32).toNatClampNeg x) (2 : Int32).toNatClampNeg x)))) := by rw [ef6, e4, bx_uu]
  have h8 : f6 na = some (.inl (cI G, 3, .inl (upd (upd (upd gx (0 : Int32).toNatClampNeg x) (1 : Int32).toNatClampNeg x) (2 : Int32).toNatClampNeg x))) := by rw [ef6, va_up_self]
  refine lv_iinc (v := 3) (lv' := [(2, .int 3), (3, .int 3), (0, .ref na), (1, .int x)]) hx hb dJ7_fill_53178_14 hl9 (k := 0) rfl (by decide) (by decide) rfl (fun ls hl9 => ?_)
  refine lv_goto (tgt := 5) hx hb dJ7_fill_53178_17 (by decide) ?_
  refine lv_iload_n hx hb dJ7_fill_53178_5 rfl (lv_at hl9 0 rfl) ?_
  refine lv_iload_n hx hb dJ7_fill_53178_6 rfl (lv_at hl9 1 rfl) ?_
  refine lv_icmp_ge (tgt := 20) hx hb dJ7_fill_53178_7 (by decide) (fun _ => ?_) (fun c9 => absurd (by decide) c9)
  exact hp_vret B0 hw hS hr ⟨Nat.le_of_ble_eq_true rfl, Nat.le_of_ble_eq_true rfl⟩ dJ7_fill_53178_20 (⟨rfl, by have h9 := h8; rw [fill3] at h9; exact h9, (show hKeep [na] f f6 from (by rw [e7]; exact hKeep.up (by simp))), (show NF f f6 from (by rw [e7]; exact NF.up (Nat.ne_of_beq_eq_false rfl)))⟩)

set_option maxHeartbeats 4000000 in
set_option maxRecDepth 100000 in
theorem c_X1_init {l : Launch} (hl : l.stackTraces = false) (G : hG) (f : hM) (en : Nat) (x : Int32) (k_en : f en = some (.inr (1, [.null, .null, .null, .null, .int 0, .int 0, .int 0, .int 0, .int 0, .int 0, .int 0]))) : CT l yX1_init (.code yX1_init cX1_init 2 none) 2 33 4 21 G [.ref en, .int x] f (fun v f1 => v = none ∧ ∃ nw na nq nr : Nat, f nw = none ∧ f na = none ∧ f nq = none ∧ f nr = none ∧ f1 en = some (.inr (1, [.ref nw, .ref na, .ref nq, .ref nr, .int x, .int 0, .int 0, .int 0, .int (-1), .int 0, .int 0])) ∧ f1 nw = some (.inl (cI G, 6, .inl (fun j => if j < 6 then (-1) else (fun _ => 0) j))) ∧ f1 na = some (.inl (cI G, 6, .inl (fun _ => 0))) ∧ f1 nq = some (.inl (cI G, 6, .inl (fun j => if j < 6 then (-1) else (fun _ => 0) j))) ∧ f1 nr = some (.inr (3, [.null, .null, .int 0])) ∧ nw ≠ na ∧ nw ≠ nq ∧ na ≠ nq ∧ hKeep [en] f f1 ∧ NF f f1) (fun E f1 => False) := by
  refine hp_start hl (own := RX1) (by decide) rfl (Nat.le_of_ble_eq_true rfl) ?_
  intro p e s m args below meth c B0 hr hnm hout hw hS ls hl9
  have hx := B0.1
  have hb := B0.2.1
  have hl9 : lv_has ls 2 [(0, .ref en), (1, .int x)] := hl9
  refine lv_aload_n hx hb dX1_init_0 rfl (lv_at hl9 0 rfl) ?_
  refine W.objInit hx hb B0.2.2.2.1 (B0.2.2.2.2.1 _ qM_X1_3) (B0.2.2.2.2.1 _ qi_obj) (B0.2.2.2.2.1 _ qc_obj) rfl (by rw [B0.2.2.1]; exact hl9.1) rfl dX1_init_1 (Nat.le_of_ble_eq_true rfl) (Nat.le_of_ble_eq_true rfl) ?_
  refine W.eq (g2 := F0 m 4 ls []) rfl ?_
  refine lv_aload_n hx hb dX1_init_4 rfl (lv_at hl9 0 rfl) ?_
  refine lv_bipush (v := 6) hx hb dX1_init_5 (by decide) ?_
  refine hp_newaI (N' := 6) B0 hw hS qA_int (by decide) (by decide) (Nat.le_of_ble_eq_true rfl) (Nat.le_of_ble_eq_true rfl) (Nat.le_of_ble_eq_true rfl) dX1_init_7 (fun q1 H f3 w2 ef3 hw hS => ?_)
  have h4 : f3 q1 = some (.inl (cI G, 6, .inl (fun _ => 0))) := by rw [ef3, va_up_self]
  have h5 : f3 en = some (.inr (1, [.null, .null, .null, .null, .int 0, .int 0, .int 0, .int 0, .int 0, .int 0, .int 0])) := by rw [ef3, va_up_ne _ _ (hnew k_en w2)]; exact k_en
  refine hp_putF (fs1 := [.ref q1, .null, .null, .null, .int 0, .int 0, .int 0, .int 0, .int 0, .int 0, .int 0]) (ty := .array .int) B0 hw hS 1 rfl in_X1 tyX1 tyX1_ok nmX1 h5 0 (by decide) qF_X1_9 rfl hnm rfl (by decide +kernel) rfl rfl (Nat.le_of_ble_eq_true rfl) rfl dX1_init_9 (fun H locs f6 ef6 hw hS => ?_)
  have h7 : f6 en = some (.inr (1, [.ref q1, .null, .null, .null, .int 0, .int 0, .int 0, .int 0, .int 0, .int 0, .int 0])) := by rw [ef6, va_up_self]
  refine lv_aload_n hx hb dX1_init_12 rfl (lv_at hl9 0 rfl) ?_
  refine lv_bipush (v := 6) hx hb dX1_init_13 (by decide) ?_
  refine hp_newaI (N' := 6) B0 hw hS qA_int (by decide) (by decide) (Nat.le_of_ble_eq_true rfl) (Nat.le_of_ble_eq_true rfl) (Nat.le_of_ble_eq_true rfl) dX1_init_15 (fun q8 H f10 w9 ef10 hw hS => ?_)
  have h11 : f10 q8 = some (.inl (cI G, 6, .inl (fun _ => 0))) := by rw [ef10, va_up_self]
  have h12 : f10 en = some (.inr (1, [.ref q1, .null, .null, .null, .int 0, .int 0, .int 0, .int 0, .int 0, .int 0, .int 0])) := by rw [ef10, va_up_ne _ _ (hnew h7 w9)]; exact h7
  refine hp_putF (fs1 := [.ref q1, .ref q8, .null, .null, .int 0, .int 0, .int 0, .int 0, .int 0, .int 0, .int 0]) (ty := .array .int) B0 hw hS 1 rfl in_X1 tyX1 tyX1_ok nmX1 h12 1 (by decide) qF_X1_15 rfl hnm rfl (by decide +kernel) rfl rfl (Nat.le_of_ble_eq_true rfl) rfl dX1_init_17 (fun H locs f13 ef13 hw hS => ?_)
  have h14 : f13 en = some (.inr (1, [.ref q1, .ref q8, .null, .null, .int 0, .int 0, .int 0, .int 0, .int 0, .int 0, .int 0])) := by rw [ef13, va_up_self]
  refine lv_aload_n hx hb dX1_init_20 rfl (lv_at hl9 0 rfl) ?_
  refine lv_bipush (v := 6) hx hb dX1_init_21 (by decide) ?_
  refine hp_newaI (N' := 6) B0 hw hS qA_int (by decide) (by decide) (Nat.le_of_ble_eq_true rfl) (Nat.le_of_ble_eq_true rfl) (Nat.le_of_ble_eq_true rfl) dX1_init_23 (fun q15 H f17 w16 ef17 hw hS => ?_)
  have h18 : f17 q15 = some (.inl (cI G, 6, .inl (fun _ => 0))) := by rw [ef17, va_up_self]
  have h19 : f17 en = some (.inr (1, [.ref q1, .ref q8, .null, .null, .int 0, .int 0, .int 0, .int 0, .int 0, .int 0, .int 0])) := by rw [ef17, va_up_ne _ _ (hnew h14 w16)]; exact h14
  refine hp_putF (fs1 := [.ref q1, .ref q8, .ref q15, .null, .int 0, .int 0, .int 0, .int 0, .int 0, .int 0, .int 0]) (ty := .array .int) B0 hw hS 1 rfl in_X1 tyX1 tyX1_ok nmX1 h19 2 (by decide) qF_X1_18 rfl hnm rfl (by decide +kernel) rfl rfl (Nat.le_of_ble_eq_true rfl) rfl dX1_init_25 (fun H locs f20 ef20 hw hS => ?_)
  have h21 : f20 en = some (.inr (1, [.ref q1, .ref q8, .ref q15, .null, .int 0, .int 0, .int 0, .int 0, .int 0, .int 0, .int 0])) := by rw [ef20, va_up_self]
  refine lv_aload_n hx hb dX1_init_28 rfl (lv_at hl9 0 rfl) ?_
  refine hp_new (fs := [.null, .null, .int 0]) B0 hw hS 3 rfl in_X3 tyX3 tyX3_ok qC_X1_21 qI_X3 qN_X3 (fun j hj => by rcases (show j = 0 ∨ j = 1 ∨ j = 2 by omega) with rfl | rfl | rfl <;> rfl) (Nat.le_of_ble_eq_true rfl) (Nat.le_of_ble_eq_true rfl) dX1_init_29 (fun q22 H f24 w23 ef24 hw hS => ?_)
  have h25 : f24 q22 = some (.inr (3, [.null, .null, .int 0])) := by rw [ef24, va_up_self]
  refine lv_dup hx hb dX1_init_32 rfl ?_
  refine hp_IN (As := []) (rest := [.ref q22, .ref en]) (b := q22) B0 hw hS (c_X3_init hl G f24 q22 h25) mI_X3_init oM_X1_23 rfl rfl hl9.1 (Nat.le_of_ble_eq_true rfl) ⟨⟨Nat.le_of_ble_eq_true rfl, Nat.le_of_ble_eq_true rfl⟩, Nat.le_of_ble_eq_true rfl, Nat.le_of_ble_eq_true rfl⟩ dX1_init_33 (fun E ce q9 f26 H locs hPX hw hS hce hcv hcl => ?_) (fun v f26 H locs hP hw hS => ?_)
  · exact hPX.elim
  · obtain ⟨ev9, ef9⟩ := hP
    rw [ef9] at hw
    subst ev9
    refine W.eq (g2 := F0 m 36 ls [.ref q22, .ref en]) rfl ?_
    have h27 : f24 en = some (.inr (1, [.ref q1, .ref q8, .ref q15, .null, .int 0, .int 0, .int 0, .int 0, .int 0, .int 0, .int 0])) := by rw [ef24, va_up_ne _ _ (hnew h21 w23)]; exact h21
    refine hp_putF (fs1 := [.ref q1, .ref q8, .ref q15, .ref q22, .int 0, .int 0, .int 0, .int 0, .int 0, .int 0, .int 0]) (ty := .object "OptionLine$FrameRow") B0 hw hS 1 rfl in_X1 tyX1 tyX1_ok nmX1 h27 3 (by decide) qF_X1_24 rfl hnm rfl (by decide +kernel) rfl rfl (Nat.le_of_ble_eq_true rfl) rfl dX1_init_36 (fun H locs f28 ef28 hw hS => ?_)
    have h29 : f28 en = some (.inr (1, [.ref q1, .ref q8, .ref q15, .ref q22, .int 0, .int 0, .int 0, .int 0, .int 0, .int 0, .int 0])) := by rw [ef28, va_up_self]
    refine lv_aload_n hx hb dX1_init_39 rfl (lv_at hl9 0 rfl) ?_
    refine lv_iconst (v := 0) hx hb dX1_init_40 (by decide) ?_
    refine hp_put (fs1 := [.ref q1, .ref q8, .ref q15, .ref q22, .int 0, .int 0, .int 0, .int 0, .int 0, .int 0, .int 0]) (ty := .int) B0 hw hS 1 rfl in_X1 tyX1 tyX1_ok nmX1 h29 5 (by decide) qF_X1_28 rfl (by decide +kernel) rfl rfl (Nat.le_of_ble_eq_true rfl) rfl dX1_init_41 (fun H locs f30 ef30 hw hS => ?_)
    have e31 : f30 = va_up f24 en (some (.inr (1, [.ref q1, .ref q8, .ref q15, .ref q22, .int 0, .int 0, .int 0, .int 0, .int 0, .int 0, .int 0]))) := by rw [ef30, ef28, bx_uu]
    have h32 : f30 en = some (.inr (1, [.ref q1, .ref q8, .ref q15, .ref q22, .int 0, .int 0, .int 0, .int 0, .int 0, .int 0, .int 0])) := by rw [ef30, va_up_self]
    refine lv_aload_n hx hb dX1_init_44 rfl (lv_at hl9 0 rfl) ?_
    refine lv_iconst (v := 0) hx hb dX1_init_45 (by decide) ?_
    refine hp_put (fs1 := [.ref q1, .ref q8, .ref q15, .ref q22, .int 0, .int 0, .int 0, .int 0, .int 0, .int 0, .int 0]) (ty := .int) B0 hw hS 1 rfl in_X1 tyX1 tyX1_ok nmX1 h32 6 (by decide) qF_X1_32 rfl (by decide +kernel) rfl rfl (Nat.le_of_ble_eq_true rfl) rfl dX1_init_46 (fun H locs f33 ef33 hw hS => ?_)
    have e34 : f33 = va_up f24 en (some (.inr (1, [.ref q1, .ref q8, .ref q15, .ref q22, .int 0, .int 0, .int 0, .int 0, .int 0, .int 0, .int 0]))) := by rw [ef33, e31, bx_uu]
    have h35 : f33 en = some (.inr (1, [.ref q1, .ref q8, .ref q15, .ref q22, .int 0, .int 0, .int 0, .int 0, .int 0, .int 0, .int 0])) := by rw [ef33, va_up_self]
    refine lv_aload_n hx hb dX1_init_49 rfl (lv_at hl9 0 rfl) ?_
    refine lv_iconst (v := 0) hx hb dX1_init_50 (by decide) ?_
    refine hp_put (fs1 := [.ref q1, .ref q8, .ref q15, .ref q22, .int 0, .int 0, .int 0, .int 0, .int 0, .int 0, .int 0]) (ty := .int) B0 hw hS 1 rfl in_X1 tyX1 tyX1_ok nmX1 h35 7 (by decide) qF_X1_35 rfl (by decide +kernel) rfl rfl (Nat.le_of_ble_eq_true rfl) rfl dX1_init_51 (fun H locs f36 ef36 hw hS => ?_)
    have e37 : f36 = va_up f24 en (some (.inr (1, [.ref q1, .ref q8, .ref q15, .ref q22, .int 0, .int 0, .int 0, .int 0, .int 0, .int 0, .int 0]))) := by rw [ef36, e34, bx_uu]
    have h38 : f36 en = some (.inr (1, [.ref q1, .ref q8, .ref q15, .ref q22, .int 0, .int 0, .int 0, .int 0, .int 0, .int 0, .int 0])) := by rw [ef36, va_up_self]
    refine lv_aload_n hx hb dX1_init_54 rfl (lv_at hl9 0 rfl) ?_
    refine lv_iconst (v := (-1)) hx hb dX1_init_55 (by decide) ?_
    refine hp_put (fs1 := [.ref q1, .ref q8, .ref q15, .ref q22, .int 0, .int 0, .int 0, .int 0, .int (-1), .int 0, .int 0]) (ty := .int) B0 hw hS 1 rfl in_X1 tyX1 tyX1_ok nmX1 h38 8 (by decide) qF_X1_38 rfl (by decide +kernel) rfl rfl (Nat.le_of_ble_eq_true rfl) rfl dX1_init_56 (fun H locs f39 ef39 hw hS => ?_)
    have e40 : f39 = va_up f24 en (some (.inr (1, [.ref q1, .ref q8, .ref q15, .ref q22, .int 0, .int 0, .int 0, .int 0, .int (-1), .int 0, .int 0]))) := by rw [ef39, e37, bx_uu]
    have h41 : f39 en = some (.inr (1, [.ref q1, .ref q8, .ref q15, .ref q22, .int 0, .int 0, .int 0, .int 0, .int (-1), .int 0, .int 0])) := by rw [ef39, va_up_self]
    refine lv_aload_n hx hb dX1_init_59 rfl (lv_at hl9 0 rfl) ?_
    refine lv_iconst (v := 0) hx hb dX1_init_60 (by decide) ?_
    refine hp_put (fs1 := [.ref q1, .ref q8, .ref q15, .ref q22, .int 0, .int 0, .int 0, .int 0, .int (-1), .int 0, .int 0]) (ty := .boolean) B0 hw hS 1 rfl in_X1 tyX1 tyX1_ok nmX1 h41 9 (by decide) qF_X1_41 rfl (by decide +kernel) rfl rfl (Nat.le_of_ble_eq_true rfl) rfl dX1_init_61 (fun H locs f42 ef42 hw hS => ?_)
    have e43 : f42 = va_up f24 en (some (.inr (1, [.ref q1, .ref q8, .ref q15, .ref q22, .int 0, .int 0, .int 0, .int 0, .int (-1), .int 0, .int 0]))) := by rw [ef42, e40, bx_uu]
    have h44 : f42 en = some (.inr (1, [.ref q1, .ref q8, .ref q15, .ref q22, .int 0, .int 0, .int 0, .int 0, .int (-1), .int 0, .int 0])) := by rw [ef42, va_up_self]
    refine lv_aload_n hx hb dX1_init_64 rfl (lv_at hl9 0 rfl) ?_
    refine lv_iconst (v := 0) hx hb dX1_init_65 (by decide) ?_
    refine hp_put (fs1 := [.ref q1, .ref q8, .ref q15, .ref q22, .int 0, .int 0, .int 0, .int 0, .int (-1), .int 0, .int 0]) (ty := .int) B0 hw hS 1 rfl in_X1 tyX1 tyX1_ok nmX1 h44 10 (by decide) qF_X1_45 rfl (by decide +kernel) rfl rfl (Nat.le_of_ble_eq_true rfl) rfl dX1_init_66 (fun H locs f45 ef45 hw hS => ?_)
    have e46 : f45 = va_up f24 en (some (.inr (1, [.ref q1, .ref q8, .ref q15, .ref q22, .int 0, .int 0, .int 0, .int 0, .int (-1), .int 0, .int 0]))) := by rw [ef45, e43, bx_uu]
    have h47 : f45 en = some (.inr (1, [.ref q1, .ref q8, .ref q15, .ref q22, .int 0, .int 0, .int 0, .int 0, .int (-1), .int 0, .int 0])) := by rw [ef45, va_up_self]
    refine lv_aload_n hx hb dX1_init_69 rfl (lv_at hl9 0 rfl) ?_
    refine lv_iload_n hx hb dX1_init_70 rfl (lv_at hl9 1 rfl) ?_
    refine hp_put (fs1 := [.ref q1, .ref q8, .ref q15, .ref q22, .int x, .int 0, .int 0, .int 0, .int (-1), .int 0, .int 0]) (ty := .int) B0 hw hS 1 rfl in_X1 tyX1 tyX1_ok nmX1 h47 4 (by decide) qF_X1_48 rfl (by decide +kernel) rfl rfl (Nat.le_of_ble_eq_true rfl) rfl dX1_init_71 (fun H locs f48 ef48 hw hS => ?_)
    have e49 : f48 = va_up f24 en (some (.inr (1, [.ref q1, .ref q8, .ref q15, .ref q22, .int x, .int 0, .int 0, .int 0, .int (-1), .int 0, .int 0]))) := by rw [ef48, e46, bx_uu]
    have h50 : f48 en = some (.inr (1, [.ref q1, .ref q8, .ref q15, .ref q22, .int x, .int 0, .int 0, .int 0, .int (-1), .int 0, .int 0])) := by rw [ef48, va_up_self]
    refine lv_aload_n hx hb dX1_init_74 rfl (lv_at hl9 0 rfl) ?_
    refine hp_get B0 hw 1 rfl in_X1 h50 0 (by decide) qF_X1_9 rfl dX1_init_75 ?_
    refine lv_iconst (v := (-1)) hx hb dX1_init_78 (by decide) ?_
    have n52 : en ≠ q1 := hnew k_en w2
    have h51 : f6 q1 = some (.inl (cI G, 6, .inl (fun _ => 0))) := by rw [ef6, va_up_ne _ _ (Ne.symm n52)]; exact h4
    have h53 : f10 q1 = some (.inl (cI G, 6, .inl (fun _ => 0))) := by rw [ef10, va_up_ne _ _ (hnew h51 w9)]; exact h51
    have h54 : f13 q1 = some (.inl (cI G, 6, .inl (fun _ => 0))) := by rw [ef13, va_up_ne _ _ (Ne.symm n52)]; exact h53
    have h55 : f17 q1 = some (.inl (cI G, 6, .inl (fun _ => 0))) := by rw [ef17, va_up_ne _ _ (hnew h54 w16)]; exact h54
    have h56 : f20 q1 = some (.inl (cI G, 6, .inl (fun _ => 0))) := by rw [ef20, va_up_ne _ _ (Ne.symm n52)]; exact h55
    have h57 : f24 q1 = some (.inl (cI G, 6, .inl (fun _ => 0))) := by rw [ef24, va_up_ne _ _ (hnew h56 w23)]; exact h56
    have h58 : f48 q1 = some (.inl (cI G, 6, .inl (fun _ => 0))) := by rw [e49, va_up_ne _ _ (Ne.symm n52)]; exact h57
    refine hp_S (As := [.ref q1, .int (-1)]) (rest := []) B0 hw hS (c_J7_fill6 hl G f48 q1 (fun _ => 0) h58 (-1)) mS_J7_fill_53178 qM_X1_51 rfl rfl hl9.1 (Nat.le_of_ble_eq_true rfl) ⟨⟨Nat.le_of_ble_eq_true rfl, Nat.le_of_ble_eq_true rfl⟩, Nat.le_of_ble_eq_true rfl, Nat.le_of_ble_eq_true rfl⟩ dX1_init_79 (fun E ce q9 f59 H locs hPX hw hS hce hcv hcl => ?_) (fun v f59 H locs hP hw hS => ?_)
    · exact hPX.elim
    · obtain ⟨ev9, h60, k61, z62⟩ := hP
      subst ev9
      refine W.eq (g2 := F0 m 82 ls []) rfl ?_
      refine lv_aload_n hx hb dX1_init_82 rfl (lv_at hl9 0 rfl) ?_
      have h63 : f59 en = some (.inr (1, [.ref q1, .ref q8, .ref q15, .ref q22, .int x, .int 0, .int 0, .int 0, .int (-1), .int 0, .int 0])) := k61 _ _ h50 (ninc n52 nin0)
      refine hp_get B0 hw 1 rfl in_X1 h63 2 (by decide) qF_X1_18 rfl dX1_init_83 ?_
      refine lv_iconst (v := (-1)) hx hb dX1_init_86 (by decide) ?_
      have n65 : en ≠ q15 := hnew h14 w16
      have h64 : f20 q15 = some (.inl (cI G, 6, .inl (fun _ => 0))) := by rw [ef20, va_up_ne _ _ (Ne.symm n65)]; exact h18
      have h66 : f24 q15 = some (.inl (cI G, 6, .inl (fun _ => 0))) := by rw [ef24, va_up_ne _ _ (hnew h64 w23)]; exact h64
      have h67 : f48 q15 = some (.inl (cI G, 6, .inl (fun _ => 0))) := by rw [e49, va_up_ne _ _ (Ne.symm n65)]; exact h66
      have n69 : q1 ≠ q15 := hnew h54 w16
      have h68 : f59 q15 = some (.inl (cI G, 6, .inl (fun _ => 0))) := k61 _ _ h67 (ninc (Ne.symm n69) nin0)
      refine hp_S (As := [.ref q15, .int (-1)]) (rest := []) B0 hw hS (c_J7_fill6 hl G f59 q15 (fun _ => 0) h68 (-1)) mS_J7_fill_53178 qM_X1_51 rfl rfl hl9.1 (Nat.le_of_ble_eq_true rfl) ⟨⟨Nat.le_of_ble_eq_true rfl, Nat.le_of_ble_eq_true rfl⟩, Nat.le_of_ble_eq_true rfl, Nat.le_of_ble_eq_true rfl⟩ dX1_init_87 (fun E ce q9 f70 H locs hPX hw hS hce hcv hcl => ?_) (fun v f70 H locs hP hw hS => ?_)
      · exact hPX.elim
      · obtain ⟨ev9, h71, k72, z73⟩ := hP
        subst ev9
        refine W.eq (g2 := F0 m 90 ls []) rfl ?_
        have h74 : f70 en = some (.inr (1, [.ref q1, .ref q8, .ref q15, .ref q22, .int x, .int 0, .int 0, .int 0, .int (-1), .int 0, .int 0])) := k72 _ _ h63 (ninc n65 nin0)
        have h75 : f70 q1 = some (.inl (cI G, 6, .inl (fun j => if j < 6 then (-1) else (fun _ => 0) j))) := k72 _ _ h60 (ninc n69 nin0)
        have n77 : en ≠ q8 := hnew h7 w9
        have h76 : f13 q8 = some (.inl (cI G, 6, .inl (fun _ => 0))) := by rw [ef13, va_up_ne _ _ (Ne.symm n77)]; exact h11
        have h78 : f17 q8 = some (.inl (cI G, 6, .inl (fun _ => 0))) := by rw [ef17, va_up_ne _ _ (hnew h76 w16)]; exact h76
        have h79 : f20 q8 = some (.inl (cI G, 6, .inl (fun _ => 0))) := by rw [ef20, va_up_ne _ _ (Ne.symm n77)]; exact h78
        have h80 : f24 q8 = some (.inl (cI G, 6, .inl (fun _ => 0))) := by rw [ef24, va_up_ne _ _ (hnew h79 w23)]; exact h79
        have h81 : f48 q8 = some (.inl (cI G, 6, .inl (fun _ => 0))) := by rw [e49, va_up_ne _ _ (Ne.symm n77)]; exact h80
        have n83 : q1 ≠ q8 := hnew h51 w9
        have h82 : f59 q8 = some (.inl (cI G, 6, .inl (fun _ => 0))) := k61 _ _ h81 (ninc (Ne.symm n83) nin0)
        have n85 : q8 ≠ q15 := hnew h76 w16
        have h84 : f70 q8 = some (.inl (cI G, 6, .inl (fun _ => 0))) := k72 _ _ h82 (ninc n85 nin0)
        have n87 : en ≠ q22 := hnew h21 w23
        have h86 : f48 q22 = some (.inr (3, [.null, .null, .int 0])) := by rw [e49, va_up_ne _ _ (Ne.symm n87)]; exact h25
        have n89 : q1 ≠ q22 := hnew h56 w23
        have h88 : f59 q22 = some (.inr (3, [.null, .null, .int 0])) := k61 _ _ h86 (ninc (Ne.symm n89) nin0)
        have n91 : q15 ≠ q22 := hnew h64 w23
        have h90 : f70 q22 = some (.inr (3, [.null, .null, .int 0])) := k72 _ _ h88 (ninc (Ne.symm n91) nin0)
        have n92 : q8 ≠ q22 := hnew h79 w23
        exact hp_vret B0 hw hS hr ⟨Nat.le_of_ble_eq_true rfl, Nat.le_of_ble_eq_true rfl⟩ dX1_init_90 (⟨rfl, q1, q8, q15, q22, w2, (hKeep.none (hKeep.trn w2 ((show hKeep [q1, en, q1] f f3 from (by rw [ef3]; exact hKeep.up (by simp))).tr (show hKeep [q1, en, q1] f3 f6 from (by rw [ef6]; exact hKeep.up (by simp))))) w9 (ninc (Ne.symm n77) (ninc (Ne.symm n83) nin0))), (hKeep.none (hKeep.trn w2 ((show hKeep [q1, en, q1, q8] f f3 from (by rw [ef3]; exact hKeep.up (by simp))).tr ((show hKeep [q1, en, q1, q8] f3 f6 from (by rw [ef6]; exact hKeep.up (by simp))).tr (hKeep.trn w9 ((show hKeep [q8, q1, en, q1, q8] f6 f10 from (by rw [ef10]; exact hKeep.up (by simp))).tr (show hKeep [q8, q1, en, q1, q8] f10 f13 from (by rw [ef13]; exact hKeep.up (by simp)))))))) w16 (ninc (Ne.symm n65) (ninc (Ne.symm n69) (ninc (Ne.symm n85) nin0)))), (hKeep.none (hKeep.trn w2 ((show hKeep [q1, en, q1, q8, q15] f f3 from (by rw [ef3]; exact hKeep.up (by simp))).tr ((show hKeep [q1, en, q1, q8, q15] f3 f6 from (by rw [ef6]; exact hKeep.up (by simp))).tr (hKeep.trn w9 ((show hKeep [q8, q1, en, q1, q8, q15] f6 f10 from (by rw [ef10]; exact hKeep.up (by simp))).tr ((show hKeep [q8, q1, en, q1, q8, q15] f10 f13 from (by rw [ef13]; exact hKeep.up (by simp))).tr (hKeep.trn w16 ((show hKeep [q15, q8, q1, en, q1, q8, q15] f13 f17 from (by rw [ef17]; exact hKeep.up (by simp))).tr (show hKeep [q15, q8, q1, en, q1, q8, q15] f17 f20 from (by rw [ef20]; exact hKeep.up (by simp))))))))))) w23 (ninc (Ne.symm n87) (ninc (Ne.symm n89) (ninc (Ne.symm n92) (ninc (Ne.symm n91) nin0))))), h74, h75, h84, h71, h90, n83, n69, n85, (hKeep.trn w2 ((show hKeep [q1, en] f f3 from (by rw [ef3]; exact hKeep.up (by simp))).tr ((show hKeep [q1, en] f3 f6 from (by rw [ef6]; exact hKeep.up (by simp))).tr (hKeep.trn w9 ((show hKeep [q8, q1, en] f6 f10 from (by rw [ef10]; exact hKeep.up (by simp))).tr ((show hKeep [q8, q1, en] f10 f13 from (by rw [ef13]; exact hKeep.up (by simp))).tr (hKeep.trn w16 ((show hKeep [q15, q8, q1, en] f13 f17 from (by rw [ef17]; exact hKeep.up (by simp))).tr ((show hKeep [q15, q8, q1, en] f17 f20 from (by rw [ef20]; exact hKeep.up (by simp))).tr (hKeep.trn w23 ((show hKeep [q22, q15, q8, q1, en] f20 f24 from (by rw [ef24]; exact hKeep.up (by simp))).tr ((show hKeep [q22, q15, q8, q1, en] f24 f48 from (by rw [e49]; exact hKeep.up (by simp))).tr ((show hKeep [q22, q15, q8, q1, en] f48 f59 from (k61.mono (fun x9 hx9 => by simp only [List.mem_cons, List.not_mem_nil, or_false] at hx9 ⊢; omega))).tr (show hKeep [q22, q15, q8, q1, en] f59 f70 from (k72.mono (fun x9 hx9 => by simp only [List.mem_cons, List.not_mem_nil, or_false] at hx9 ⊢; omega)))))))))))))))), ((show NF f f3 from (by rw [ef3]; exact NF.up (Nat.ne_of_beq_eq_false rfl))).tr ((show NF f3 f6 from (by rw [ef6]; exact NF.up (Nat.ne_of_beq_eq_false rfl))).tr ((show NF f6 f10 from (by rw [ef10]; exact NF.up (Nat.ne_of_beq_eq_false rfl))).tr ((show NF f10 f13 from (by rw [ef13]; exact NF.up (Nat.ne_of_beq_eq_false rfl))).tr ((show NF f13 f17 from (by rw [ef17]; exact NF.up (Nat.ne_of_beq_eq_false rfl))).tr ((show NF f17 f20 from (by rw [ef20]; exact NF.up (Nat.ne_of_beq_eq_false rfl))).tr ((show NF f20 f24 from (by rw [ef24]; exact NF.up (Nat.ne_of_beq_eq_false rfl))).tr ((show NF f24 f48 from (by rw [e49]; exact NF.up (Nat.ne_of_beq_eq_false rfl))).tr (z62.tr z73)))))))))⟩)

set_option maxHeartbeats 4000000 in
set_option maxRecDepth 100000 in
theorem c_X0_init {l : Launch} (hl : l.stackTraces = false) (G : hG) (f : hM) (bu : Nat) (k_bu : f bu = some (.inr (0, [.null, .null, .null, .null, .null, .null, .int 0, .int 0, .int 0]))) : CT l yX0_init (.code yX0_init cX0_init 2 none) 1 23 6 607 G [.ref bu] f (fun v f1 => v = none ∧ ∃ bs bp bh bf bl bg : Nat, f bs = none ∧ f bp = none ∧ f bh = none ∧ f bf = none ∧ f bl = none ∧ f bg = none ∧ f1 bu = some (.inr (0, [.ref bs, .ref bp, .ref bh, .ref bf, .ref bl, .ref bg, .int 0, .int 0, .int 0])) ∧ f1 bs = some (.inl (cI G, 61, .inl (fun _ => 0))) ∧ f1 bp = some (.inl (cI G, 240, .inl (fun _ => 0))) ∧ f1 bh = some (.inl (cZ G, 240, .inl (fun _ => 0))) ∧ f1 bf = some (.inl (cI G, 3, .inl (upd (upd (upd (fun _ => 0) (0 : Int32).toNatClampNeg 0) (1 : Int32).toNatClampNeg 1) (2 : Int32).toNatClampNeg 2))) ∧ f1 bl = some (.inl (cI G, 3, .inl (fun j => if j < 3 then (-1) else (fun _ => 0) j))) ∧ f1 bg = some (.inl (cI G, 60, .inl (fun _ => 0))) ∧ bs ≠ bp ∧ bh ≠ bp ∧ bf ≠ bl ∧ hKeep [bu] f f1 ∧ NF f f1) (fun E f1 => False) := by
  refine hp_start hl (own := RX0) (by decide) rfl (Nat.le_of_ble_eq_true rfl) ?_
  intro p e s m args below meth c B0 hr hnm hout hw hS ls hl9
  have hx := B0.1
  have hb := B0.2.1
  have hl9 : lv_has ls 2 [(0, .ref bu)] := hl9
  refine lv_aload_n hx hb dX0_init_0 rfl (lv_at hl9 0 rfl) ?_
  refine W.objInit hx hb B0.2.2.2.1 (B0.2.2.2.2.1 _ qM_X0_3) (B0.2.2.2.2.1 _ qi_obj) (B0.2.2.2.2.1 _ qc_obj) rfl (by rw [B0.2.2.1]; exact hl9.1) rfl dX0_init_1 (Nat.le_of_ble_eq_true rfl) (Nat.le_of_ble_eq_true rfl) ?_
  refine W.eq (g2 := F0 m 4 ls []) rfl ?_
  refine lv_aload_n hx hb dX0_init_4 rfl (lv_at hl9 0 rfl) ?_
  refine lv_bipush (v := 61) hx hb dX0_init_5 (by decide) ?_
  refine hp_newaI (N' := 61) B0 hw hS qA_int (by decide) (by decide) (Nat.le_of_ble_eq_true rfl) (Nat.le_of_ble_eq_true rfl) (Nat.le_of_ble_eq_true rfl) dX0_init_7 (fun q1 H f3 w2 ef3 hw hS => ?_)
  have h4 : f3 q1 = some (.inl (cI G, 61, .inl (fun _ => 0))) := by rw [ef3, va_up_self]
  have h5 : f3 bu = some (.inr (0, [.null, .null, .null, .null, .null, .null, .int 0, .int 0, .int 0])) := by rw [ef3, va_up_ne _ _ (hnew k_bu w2)]; exact k_bu
  refine hp_putF (fs1 := [.ref q1, .null, .null, .null, .null, .null, .int 0, .int 0, .int 0]) (ty := .array .int) B0 hw hS 0 rfl in_X0 tyX0 tyX0_ok nmX0 h5 0 (by decide) qF_X0_9 rfl hnm rfl (by decide +kernel) rfl rfl (Nat.le_of_ble_eq_true rfl) rfl dX0_init_9 (fun H locs f6 ef6 hw hS => ?_)
  have h7 : f6 bu = some (.inr (0, [.ref q1, .null, .null, .null, .null, .null, .int 0, .int 0, .int 0])) := by rw [ef6, va_up_self]
  refine lv_aload_n hx hb dX0_init_12 rfl (lv_at hl9 0 rfl) ?_
  refine lv_sipush (v := 240) hx hb dX0_init_13 (by decide) ?_
  refine hp_newaI (N' := 240) B0 hw hS qA_int (by decide) (by decide) (Nat.le_of_ble_eq_true rfl) (Nat.le_of_ble_eq_true rfl) (Nat.le_of_ble_eq_true rfl) dX0_init_16 (fun q8 H f10 w9 ef10 hw hS => ?_)
  have h11 : f10 q8 = some (.inl (cI G, 240, .inl (fun _ => 0))) := by rw [ef10, va_up_self]
  have h12 : f10 bu = some (.inr (0, [.ref q1, .null, .null, .null, .null, .null, .int 0, .int 0, .int 0])) := by rw [ef10, va_up_ne _ _ (hnew h7 w9)]; exact h7
  refine hp_putF (fs1 := [.ref q1, .ref q8, .null, .null, .null, .null, .int 0, .int 0, .int 0]) (ty := .array .int) B0 hw hS 0 rfl in_X0 tyX0 tyX0_ok nmX0 h12 1 (by decide) qF_X0_15 rfl hnm rfl (by decide +kernel) rfl rfl (Nat.le_of_ble_eq_true rfl) rfl dX0_init_18 (fun H locs f13 ef13 hw hS => ?_)
  have h14 : f13 bu = some (.inr (0, [.ref q1, .ref q8, .null, .null, .null, .null, .int 0, .int 0, .int 0])) := by rw [ef13, va_up_self]
  refine lv_aload_n hx hb dX0_init_21 rfl (lv_at hl9 0 rfl) ?_
  refine lv_sipush (v := 240) hx hb dX0_init_22 (by decide) ?_
  refine hp_newaZ (N' := 240) B0 hw hS qA_boolean (by decide) (by decide) (Nat.le_of_ble_eq_true rfl) (Nat.le_of_ble_eq_true rfl) (Nat.le_of_ble_eq_true rfl) dX0_init_25 (fun q15 H f17 w16 ef17 hw hS => ?_)
  have h18 : f17 q15 = some (.inl (cZ G, 240, .inl (fun _ => 0))) := by rw [ef17, va_up_self]
  have h19 : f17 bu = some (.inr (0, [.ref q1, .ref q8, .null, .null, .null, .null, .int 0, .int 0, .int 0])) := by rw [ef17, va_up_ne _ _ (hnew h14 w16)]; exact h14
  refine hp_putF (fs1 := [.ref q1, .ref q8, .ref q15, .null, .null, .null, .int 0, .int 0, .int 0]) (ty := .array .boolean) B0 hw hS 0 rfl in_X0 tyX0 tyX0_ok nmX0 h19 2 (by decide) qF_X0_18 rfl hnm rfl (by decide +kernel) rfl rfl (Nat.le_of_ble_eq_true rfl) rfl dX0_init_27 (fun H locs f20 ef20 hw hS => ?_)
  have h21 : f20 bu = some (.inr (0, [.ref q1, .ref q8, .ref q15, .null, .null, .null, .int 0, .int 0, .int 0])) := by rw [ef20, va_up_self]
  refine lv_aload_n hx hb dX0_init_30 rfl (lv_at hl9 0 rfl) ?_
  refine lv_iconst (v := 3) hx hb dX0_init_31 (by decide) ?_
  refine hp_newaI (N' := 3) B0 hw hS qA_int (by decide) (by decide) (Nat.le_of_ble_eq_true rfl) (Nat.le_of_ble_eq_true rfl) (Nat.le_of_ble_eq_true rfl) dX0_init_32 (fun q22 H f24 w23 ef24 hw hS => ?_)
  have h25 : f24 q22 = some (.inl (cI G, 3, .inl (fun _ => 0))) := by rw [ef24, va_up_self]
  have h26 : f24 bu = some (.inr (0, [.ref q1, .ref q8, .ref q15, .null, .null, .null, .int 0, .int 0, .int 0])) := by rw [ef24, va_up_ne _ _ (hnew h21 w23)]; exact h21
  refine hp_putF (fs1 := [.ref q1, .ref q8, .ref q15, .ref q22, .null, .null, .int 0, .int 0, .int 0]) (ty := .array .int) B0 hw hS 0 rfl in_X0 tyX0 tyX0_ok nmX0 h26 3 (by decide) qF_X0_22 rfl hnm rfl (by decide +kernel) rfl rfl (Nat.le_of_ble_eq_true rfl) rfl dX0_init_34 (fun H locs f27 ef27 hw hS => ?_)
  have h28 : f27 bu = some (.inr (0, [.ref q1, .ref q8, .ref q15, .ref q22, .null, .null, .int 0, .int 0, .int 0])) := by rw [ef27, va_up_self]
  refine lv_aload_n hx hb dX0_init_37 rfl (lv_at hl9 0 rfl) ?_
  refine lv_iconst (v := 3) hx hb dX0_init_38 (by decide) ?_
  refine hp_newaI (N' := 3) B0 hw hS qA_int (by decide) (by decide) (Nat.le_of_ble_eq_true rfl) (Nat.le_of_ble_eq_true rfl) (Nat.le_of_ble_eq_true rfl) dX0_init_39 (fun q29 H f31 w30 ef31 hw hS => ?_)
  have h32 : f31 q29 = some (.inl (cI G, 3, .inl (fun _ => 0))) := by rw [ef31, va_up_self]
  have h33 : f31 bu = some (.inr (0, [.ref q1, .ref q8, .ref q15, .ref q22, .null, .null, .int 0, .int 0, .int 0])) := by rw [ef31, va_up_ne _ _ (hnew h28 w30)]; exact h28
  refine hp_putF (fs1 := [.ref q1, .ref q8, .ref q15, .ref q22, .ref q29, .null, .int 0, .int 0, .int 0]) (ty := .array .int) B0 hw hS 0 rfl in_X0 tyX0 tyX0_ok nmX0 h33 4 (by decide) qF_X0_25 rfl hnm rfl (by decide +kernel) rfl rfl (Nat.le_of_ble_eq_true rfl) rfl dX0_init_41 (fun H locs f34 ef34 hw hS => ?_)
  have h35 : f34 bu = some (.inr (0, [.ref q1, .ref q8, .ref q15, .ref q22, .ref q29, .null, .int 0, .int 0, .int 0])) := by rw [ef34, va_up_self]
  refine lv_aload_n hx hb dX0_init_44 rfl (lv_at hl9 0 rfl) ?_
  refine lv_bipush (v := 60) hx hb dX0_init_45 (by decide) ?_
  refine hp_newaI (N' := 60) B0 hw hS qA_int (by decide) (by decide) (Nat.le_of_ble_eq_true rfl) (Nat.le_of_ble_eq_true rfl) (Nat.le_of_ble_eq_true rfl) dX0_init_47 (fun q36 H f38 w37 ef38 hw hS => ?_)
  have h39 : f38 q36 = some (.inl (cI G, 60, .inl (fun _ => 0))) := by rw [ef38, va_up_self]
  have h40 : f38 bu = some (.inr (0, [.ref q1, .ref q8, .ref q15, .ref q22, .ref q29, .null, .int 0, .int 0, .int 0])) := by rw [ef38, va_up_ne _ _ (hnew h35 w37)]; exact h35
  refine hp_putF (fs1 := [.ref q1, .ref q8, .ref q15, .ref q22, .ref q29, .ref q36, .int 0, .int 0, .int 0]) (ty := .array .int) B0 hw hS 0 rfl in_X0 tyX0 tyX0_ok nmX0 h40 5 (by decide) qF_X0_28 rfl hnm rfl (by decide +kernel) rfl rfl (Nat.le_of_ble_eq_true rfl) rfl dX0_init_49 (fun H locs f41 ef41 hw hS => ?_)
  have h42 : f41 bu = some (.inr (0, [.ref q1, .ref q8, .ref q15, .ref q22, .ref q29, .ref q36, .int 0, .int 0, .int 0])) := by rw [ef41, va_up_self]
  refine lv_aload_n hx hb dX0_init_52 rfl (lv_at hl9 0 rfl) ?_
  refine lv_iconst (v := 0) hx hb dX0_init_53 (by decide) ?_
  refine hp_put (fs1 := [.ref q1, .ref q8, .ref q15, .ref q22, .ref q29, .ref q36, .int 0, .int 0, .int 0]) (ty := .int) B0 hw hS 0 rfl in_X0 tyX0 tyX0_ok nmX0 h42 6 (by decide) qF_X0_31 rfl (by decide +kernel) rfl rfl (Nat.le_of_ble_eq_true rfl) rfl dX0_init_54 (fun H locs f43 ef43 hw hS => ?_)
  have e44 : f43 = va_up f38 bu (some (.inr (0, [.ref q1, .ref q8, .ref q15, .ref q22, .ref q29, .ref q36, .int 0, .int 0, .int 0]))) := by rw [ef43, ef41, bx_uu]
  have h45 : f43 bu = some (.inr (0, [.ref q1, .ref q8, .ref q15, .ref q22, .ref q29, .ref q36, .int 0, .int 0, .int 0])) := by rw [ef43, va_up_self]
  refine lv_aload_n hx hb dX0_init_57 rfl (lv_at hl9 0 rfl) ?_
  refine lv_iconst (v := 0) hx hb dX0_init_58 (by decide) ?_
  refine hp_put (fs1 := [.ref q1, .ref q8, .ref q15, .ref q22, .ref q29, .ref q36, .int 0, .int 0, .int 0]) (ty := .int) B0 hw hS 0 rfl in_X0 tyX0 tyX0_ok nmX0 h45 7 (by decide) qF_X0_35 rfl (by decide +kernel) rfl rfl (Nat.le_of_ble_eq_true rfl) rfl dX0_init_59 (fun H locs f46 ef46 hw hS => ?_)
  have e47 : f46 = va_up f38 bu (some (.inr (0, [.ref q1, .ref q8, .ref q15, .ref q22, .ref q29, .ref q36, .int 0, .int 0, .int 0]))) := by rw [ef46, e44, bx_uu]
  have h48 : f46 bu = some (.inr (0, [.ref q1, .ref q8, .ref q15, .ref q22, .ref q29, .ref q36, .int 0, .int 0, .int 0])) := by rw [ef46, va_up_self]
  refine lv_aload_n hx hb dX0_init_62 rfl (lv_at hl9 0 rfl) ?_
  refine lv_iconst (v := 0) hx hb dX0_init_63 (by decide) ?_
  refine hp_put (fs1 := [.ref q1, .ref q8, .ref q15, .ref q22, .ref q29, .ref q36, .int 0, .int 0, .int 0]) (ty := .int) B0 hw hS 0 rfl in_X0 tyX0 tyX0_ok nmX0 h48 8 (by decide) qF_X0_38 rfl (by decide +kernel) rfl rfl (Nat.le_of_ble_eq_true rfl) rfl dX0_init_64 (fun H locs f49 ef49 hw hS => ?_)
  have e50 : f49 = va_up f38 bu (some (.inr (0, [.ref q1, .ref q8, .ref q15, .ref q22, .ref q29, .ref q36, .int 0, .int 0, .int 0]))) := by rw [ef49, e47, bx_uu]
  have h51 : f49 bu = some (.inr (0, [.ref q1, .ref q8, .ref q15, .ref q22, .ref q29, .ref q36, .int 0, .int 0, .int 0])) := by rw [ef49, va_up_self]
  refine lv_iconst (v := 0) hx hb dX0_init_67 (by decide) ?_
  refine lv_istore_n (lv' := [(1, .int 0), (0, .ref bu)]) hx hb dX0_init_68 rfl hl9 (by decide) rfl (fun ls hl9 => ?_)
  refine lv_iload_n hx hb dX0_init_69 rfl (lv_at hl9 0 rfl) ?_
  refine lv_iconst (v := 3) hx hb dX0_init_70 (by decide) ?_
  refine lv_icmp_ge (tgt := 87) hx hb dX0_init_71 (by decide) (fun c9 => absurd c9 (by decide)) (fun _ => ?_)
  refine lv_aload_n hx hb dX0_init_74 rfl (lv_at hl9 1 rfl) ?_
  refine hp_get B0 hw 0 rfl in_X0 h51 3 (by decide) qF_X0_22 rfl dX0_init_75 ?_
  refine lv_iload_n hx hb dX0_init_78 rfl (lv_at hl9 0 rfl) ?_
  refine lv_iload_n hx hb dX0_init_79 rfl (lv_at hl9 0 rfl) ?_
  have n53 : bu ≠ q22 := hnew h21 w23
  have h52 : f27 q22 = some (.inl (cI G, 3, .inl (fun _ => 0))) := by rw [ef27, va_up_ne _ _ (Ne.symm n53)]; exact h25
  have h54 : f31 q22 = some (.inl (cI G, 3, .inl (fun _ => 0))) := by rw [ef31, va_up_ne _ _ (hnew h52 w30)]; exact h52
  have h55 : f34 q22 = some (.inl (cI G, 3, .inl (fun _ => 0))) := by rw [ef34, va_up_ne _ _ (Ne.symm n53)]; exact h54
  have h56 : f38 q22 = some (.inl (cI G, 3, .inl (fun _ => 0))) := by rw [ef38, va_up_ne _ _ (hnew h55 w37)]; exact h55
  have h57 : f49 q22 = some (.inl (cI G, 3, .inl (fun _ => 0))) := by rw [e50, va_up_ne _ _ (Ne.symm n53)]; exact h56
  refine hp_iast B0 hw hS h57 (by unfold vp_in; decide) dX0_init_80 (fun H locs f58 ef58 hw hS => ?_)
  have h59 : f58 q22 = some (.inl (cI G, 3, .inl (upd (fun _ => 0) (0 : Int32).toNatClampNeg 0))) := by rw [ef58, va_up_self]
  refine lv_iinc (v := 1) (lv' := [(1, .int 1), (0, .ref bu)]) hx hb dX0_init_81 hl9 (k := 0) rfl (by decide) (by decide) rfl (fun ls hl9 => ?_)
  refine lv_goto (tgt := 69) hx hb dX0_init_84 (by decide) ?_
  refine lv_iload_n hx hb dX0_init_69 rfl (lv_at hl9 0 rfl) ?_
  refine lv_iconst (v := 3) hx hb dX0_init_70 (by decide) ?_
  refine lv_icmp_ge (tgt := 87) hx hb dX0_init_71 (by decide) (fun c9 => absurd c9 (by decide)) (fun _ => ?_)
  refine lv_aload_n hx hb dX0_init_74 rfl (lv_at hl9 1 rfl) ?_
  have h60 : f58 bu = some (.inr (0, [.ref q1, .ref q8, .ref q15, .ref q22, .ref q29, .ref q36, .int 0, .int 0, .int 0])) := by rw [ef58, va_up_ne _ _ n53]; exact h51
  refine hp_get B0 hw 0 rfl in_X0 h60 3 (by decide) qF_X0_22 rfl dX0_init_75 ?_
  refine lv_iload_n hx hb dX0_init_78 rfl (lv_at hl9 0 rfl) ?_
  refine lv_iload_n hx hb dX0_init_79 rfl (lv_at hl9 0 rfl) ?_
  refine hp_iast B0 hw hS h59 (by unfold vp_in; decide) dX0_init_80 (fun H locs f61 ef61 hw hS => ?_)
  have e62 : f61 = va_up f49 q22 (some (.inl (cI G, 3, .inl (upd (upd (fun _ => 0) (0 : Int32).toNatClampNeg 0) (1 : Int32).toNatClampNeg 1)))) := by rw [ef61, ef58, bx_uu]
  have h63 : f61 q22 = some (.inl (cI G, 3, .inl (upd (upd (fun _ => 0) (0 : Int32).toNatClampNeg 0) (1 : Int32).toNatClampNeg 1))) := by rw [ef61, va_up_self]
  refine lv_iinc (v := 2) (lv' := [(1, .int 2), (0, .ref bu)]) hx hb dX0_init_81 hl9 (k := 0) rfl (by decide) (by decide) rfl (fun ls hl9 => ?_)
  refine lv_goto (tgt := 69) hx hb dX0_init_84 (by decide) ?_
  refine lv_iload_n hx hb dX0_init_69 rfl (lv_at hl9 0 rfl) ?_
  refine lv_iconst (v := 3) hx hb dX0_init_70 (by decide) ?_
  refine lv_icmp_ge (tgt := 87) hx hb dX0_init_71 (by decide) (fun c9 => absurd c9 (by decide)) (fun _ => ?_)
  refine lv_aload_n hx hb dX0_init_74 rfl (lv_at hl9 1 rfl) ?_
  have h64 : f61 bu = some (.inr (0, [.ref q1, .ref q8, .ref q15, .ref q22, .ref q29, .ref q36, .int 0, .int 0, .int 0])) := by rw [e62, va_up_ne _ _ n53]; exact h51
  refine hp_get B0 hw 0 rfl in_X0 h64 3 (by decide) qF_X0_22 rfl dX0_init_75 ?_
  refine lv_iload_n hx hb dX0_init_78 rfl (lv_at hl9 0 rfl) ?_
  refine lv_iload_n hx hb dX0_init_79 rfl (lv_at hl9 0 rfl) ?_
  refine hp_iast B0 hw hS h63 (by unfold vp_in; decide) dX0_init_80 (fun H locs f65 ef65 hw hS => ?_)
  have e66 : f65 = va_up f49 q22 (some (.inl (cI G, 3, .inl (upd (upd (upd (fun _ => 0) (0 : Int32).toNatClampNeg 0) (1 : Int32).toNatClampNeg 1) (2 : Int32).toNatClampNeg 2)))) := by rw [ef65, e62, bx_uu]
  have h67 : f65 q22 = some (.inl (cI G, 3, .inl (upd (upd (upd (fun _ => 0) (0 : Int32).toNatClampNeg 0) (1 : Int32).toNatClampNeg 1) (2 : Int32).toNatClampNeg 2))) := by rw [ef65, va_up_self]
  refine lv_iinc (v := 3) (lv' := [(1, .int 3), (0, .ref bu)]) hx hb dX0_init_81 hl9 (k := 0) rfl (by decide) (by decide) rfl (fun ls hl9 => ?_)
  refine lv_goto (tgt := 69) hx hb dX0_init_84 (by decide) ?_
  refine lv_iload_n hx hb dX0_init_69 rfl (lv_at hl9 0 rfl) ?_
  refine lv_iconst (v := 3) hx hb dX0_init_70 (by decide) ?_
  refine lv_icmp_ge (tgt := 87) hx hb dX0_init_71 (by decide) (fun _ => ?_) (fun c9 => absurd (by decide) c9)
  refine lv_aload_n hx hb dX0_init_87 rfl (lv_at hl9 1 rfl) ?_
  have h68 : f65 bu = some (.inr (0, [.ref q1, .ref q8, .ref q15, .ref q22, .ref q29, .ref q36, .int 0, .int 0, .int 0])) := by rw [e66, va_up_ne _ _ n53]; exact h51
  refine hp_get B0 hw 0 rfl in_X0 h68 4 (by decide) qF_X0_25 rfl dX0_init_88 ?_
  refine lv_iconst (v := (-1)) hx hb dX0_init_91 (by decide) ?_
  have n70 : bu ≠ q29 := hnew h28 w30
  have h69 : f34 q29 = some (.inl (cI G, 3, .inl (fun _ => 0))) := by rw [ef34, va_up_ne _ _ (Ne.symm n70)]; exact h32
  have h71 : f38 q29 = some (.inl (cI G, 3, .inl (fun _ => 0))) := by rw [ef38, va_up_ne _ _ (hnew h69 w37)]; exact h69
  have h72 : f49 q29 = some (.inl (cI G, 3, .inl (fun _ => 0))) := by rw [e50, va_up_ne _ _ (Ne.symm n70)]; exact h71
  have n74 : q22 ≠ q29 := hnew h52 w30
  have h73 : f65 q29 = some (.inl (cI G, 3, .inl (fun _ => 0))) := by rw [e66, va_up_ne _ _ (Ne.symm n74)]; exact h72
  refine hp_S (As := [.ref q29, .int (-1)]) (rest := []) B0 hw hS (c_J7_fill3 hl G f65 q29 (fun _ => 0) h73 (-1)) mS_J7_fill_53178 qM_X0_41 rfl rfl hl9.1 (Nat.le_of_ble_eq_true rfl) ⟨⟨Nat.le_of_ble_eq_true rfl, Nat.le_of_ble_eq_true rfl⟩, Nat.le_of_ble_eq_true rfl, Nat.le_of_ble_eq_true rfl⟩ dX0_init_92 (fun E ce q9 f75 H locs hPX hw hS hce hcv hcl => ?_) (fun v f75 H locs hP hw hS => ?_)
  · exact hPX.elim
  · obtain ⟨ev9, h76, k77, z78⟩ := hP
    subst ev9
    refine W.eq (g2 := F0 m 95 ls []) rfl ?_
    have h79 : f75 bu = some (.inr (0, [.ref q1, .ref q8, .ref q15, .ref q22, .ref q29, .ref q36, .int 0, .int 0, .int 0])) := k77 _ _ h68 (ninc n70 nin0)
    have n81 : bu ≠ q1 := hnew k_bu w2
    have h80 : f6 q1 = some (.inl (cI G, 61, .inl (fun _ => 0))) := by rw [ef6, va_up_ne _ _ (Ne.symm n81)]; exact h4
    have h82 : f10 q1 = some (.inl (cI G, 61, .inl (fun _ => 0))) := by rw [ef10, va_up_ne _ _ (hnew h80 w9)]; exact h80
    have h83 : f13 q1 = some (.inl (cI G, 61, .inl (fun _ => 0))) := by rw [ef13, va_up_ne _ _ (Ne.symm n81)]; exact h82
    have h84 : f17 q1 = some (.inl (cI G, 61, .inl (fun _ => 0))) := by rw [ef17, va_up_ne _ _ (hnew h83 w16)]; exact h83
    have h85 : f20 q1 = some (.inl (cI G, 61, .inl (fun _ => 0))) := by rw [ef20, va_up_ne _ _ (Ne.symm n81)]; exact h84
    have h86 : f24 q1 = some (.inl (cI G, 61, .inl (fun _ => 0))) := by rw [ef24, va_up_ne _ _ (hnew h85 w23)]; exact h85
    have h87 : f27 q1 = some (.inl (cI G, 61, .inl (fun _ => 0))) := by rw [ef27, va_up_ne _ _ (Ne.symm n81)]; exact h86
    have h88 : f31 q1 = some (.inl (cI G, 61, .inl (fun _ => 0))) := by rw [ef31, va_up_ne _ _ (hnew h87 w30)]; exact h87
    have h89 : f34 q1 = some (.inl (cI G, 61, .inl (fun _ => 0))) := by rw [ef34, va_up_ne _ _ (Ne.symm n81)]; exact h88
    have h90 : f38 q1 = some (.inl (cI G, 61, .inl (fun _ => 0))) := by rw [ef38, va_up_ne _ _ (hnew h89 w37)]; exact h89
    have h91 : f49 q1 = some (.inl (cI G, 61, .inl (fun _ => 0))) := by rw [e50, va_up_ne _ _ (Ne.symm n81)]; exact h90
    have n93 : q1 ≠ q22 := hnew h85 w23
    have h92 : f65 q1 = some (.inl (cI G, 61, .inl (fun _ => 0))) := by rw [e66, va_up_ne _ _ n93]; exact h91
    have n95 : q1 ≠ q29 := hnew h87 w30
    have h94 : f75 q1 = some (.inl (cI G, 61, .inl (fun _ => 0))) := k77 _ _ h92 (ninc n95 nin0)
    have n97 : bu ≠ q8 := hnew h7 w9
    have h96 : f13 q8 = some (.inl (cI G, 240, .inl (fun _ => 0))) := by rw [ef13, va_up_ne _ _ (Ne.symm n97)]; exact h11
    have h98 : f17 q8 = some (.inl (cI G, 240, .inl (fun _ => 0))) := by rw [ef17, va_up_ne _ _ (hnew h96 w16)]; exact h96
    have h99 : f20 q8 = some (.inl (cI G, 240, .inl (fun _ => 0))) := by rw [ef20, va_up_ne _ _ (Ne.symm n97)]; exact h98
    have h100 : f24 q8 = some (.inl (cI G, 240, .inl (fun _ => 0))) := by rw [ef24, va_up_ne _ _ (hnew h99 w23)]; exact h99
    have h101 : f27 q8 = some (.inl (cI G, 240, .inl (fun _ => 0))) := by rw [ef27, va_up_ne _ _ (Ne.symm n97)]; exact h100
    have h102 : f31 q8 = some (.inl (cI G, 240, .inl (fun _ => 0))) := by rw [ef31, va_up_ne _ _ (hnew h101 w30)]; exact h101
    have h103 : f34 q8 = some (.inl (cI G, 240, .inl (fun _ => 0))) := by rw [ef34, va_up_ne _ _ (Ne.symm n97)]; exact h102
    have h104 : f38 q8 = some (.inl (cI G, 240, .inl (fun _ => 0))) := by rw [ef38, va_up_ne _ _ (hnew h103 w37)]; exact h103
    have h105 : f49 q8 = some (.inl (cI G, 240, .inl (fun _ => 0))) := by rw [e50, va_up_ne _ _ (Ne.symm n97)]; exact h104
    have n107 : q8 ≠ q22 := hnew h99 w23
    have h106 : f65 q8 = some (.inl (cI G, 240, .inl (fun _ => 0))) := by rw [e66, va_up_ne _ _ n107]; exact h105
    have n109 : q8 ≠ q29 := hnew h101 w30
    have h108 : f75 q8 = some (.inl (cI G, 240, .inl (fun _ => 0))) := k77 _ _ h106 (ninc n109 nin0)
    have n111 : bu ≠ q15 := hnew h14 w16
    have h110 : f20 q15 = some (.inl (cZ G, 240, .inl (fun _ => 0))) := by rw [ef20, va_up_ne _ _ (Ne.symm n111)]; exact h18
    have h112 : f24 q15 = some (.inl (cZ G, 240, .inl (fun _ => 0))) := by rw [ef24, va_up_ne _ _ (hnew h110 w23)]; exact h110
    have h113 : f27 q15 = some (.inl (cZ G, 240, .inl (fun _ => 0))) := by rw [ef27, va_up_ne _ _ (Ne.symm n111)]; exact h112
    have h114 : f31 q15 = some (.inl (cZ G, 240, .inl (fun _ => 0))) := by rw [ef31, va_up_ne _ _ (hnew h113 w30)]; exact h113
    have h115 : f34 q15 = some (.inl (cZ G, 240, .inl (fun _ => 0))) := by rw [ef34, va_up_ne _ _ (Ne.symm n111)]; exact h114
    have h116 : f38 q15 = some (.inl (cZ G, 240, .inl (fun _ => 0))) := by rw [ef38, va_up_ne _ _ (hnew h115 w37)]; exact h115
    have h117 : f49 q15 = some (.inl (cZ G, 240, .inl (fun _ => 0))) := by rw [e50, va_up_ne _ _ (Ne.symm n111)]; exact h116
    have n119 : q15 ≠ q22 := hnew h110 w23
    have h118 : f65 q15 = some (.inl (cZ G, 240, .inl (fun _ => 0))) := by rw [e66, va_up_ne _ _ n119]; exact h117
    have n121 : q15 ≠ q29 := hnew h113 w30
    have h120 : f75 q15 = some (.inl (cZ G, 240, .inl (fun _ => 0))) := k77 _ _ h118 (ninc n121 nin0)
    have h122 : f75 q22 = some (.inl (cI G, 3, .inl (upd (upd (upd (fun _ => 0) (0 : Int32).toNatClampNeg 0) (1 : Int32).toNatClampNeg 1) (2 : Int32).toNatClampNeg 2))) := k77 _ _ h67 (ninc n74 nin0)
    have n124 : bu ≠ q36 := hnew h35 w37
    have h123 : f49 q36 = some (.inl (cI G, 60, .inl (fun _ => 0))) := by rw [e50, va_up_ne _ _ (Ne.symm n124)]; exact h39
    have n126 : q22 ≠ q36 := hnew h55 w37
    have h125 : f65 q36 = some (.inl (cI G, 60, .inl (fun _ => 0))) := by rw [e66, va_up_ne _ _ (Ne.symm n126)]; exact h123
    have n128 : q29 ≠ q36 := hnew h69 w37
    have h127 : f75 q36 = some (.inl (cI G, 60, .inl (fun _ => 0))) := k77 _ _ h125 (ninc (Ne.symm n128) nin0)
    have n129 : q1 ≠ q8 := hnew h80 w9
    have n130 : q8 ≠ q15 := hnew h96 w16
    have n131 : q1 ≠ q15 := hnew h83 w16
    have n132 : q15 ≠ q36 := hnew h115 w37
    have n133 : q8 ≠ q36 := hnew h103 w37
    have n134 : q1 ≠ q36 := hnew h89 w37
    exact hp_vret B0 hw hS hr ⟨Nat.le_of_ble_eq_true rfl, Nat.le_of_ble_eq_true rfl⟩ dX0_init_95 (⟨rfl, q1, q8, q15, q22, q29, q36, w2, (hKeep.none (hKeep.trn w2 ((show hKeep [q1, bu, q1] f f3 from (by rw [ef3]; exact hKeep.up (by simp))).tr (show hKeep [q1, bu, q1] f3 f6 from (by rw [ef6]; exact hKeep.up (by simp))))) w9 (ninc (Ne.symm n97) (ninc (Ne.symm n129) nin0))), (hKeep.none (hKeep.trn w2 ((show hKeep [q1, bu, q1, q8] f f3 from (by rw [ef3]; exact hKeep.up (by simp))).tr ((show hKeep [q1, bu, q1, q8] f3 f6 from (by rw [ef6]; exact hKeep.up (by simp))).tr (hKeep.trn w9 ((show hKeep [q8, q1, bu, q1, q8] f6 f10 from (by rw [ef10]; exact hKeep.up (by simp))).tr (show hKeep [q8, q1, bu, q1, q8] f10 f13 from (by rw [ef13]; exact hKeep.up (by simp)))))))) w16 (ninc (Ne.symm n111) (ninc (Ne.symm n131) (ninc (Ne.symm n130) nin0)))), (hKeep.none (hKeep.trn w2 ((show hKeep [q1, bu, q1, q8, q15] f f3 from (by rw [ef3]; exact hKeep.up (by simp))).tr ((show hKeep [q1, bu, q1, q8, q15] f3 f6 from (by rw [ef6]; exact hKeep.up (by simp))).tr (hKeep.trn w9 ((show hKeep [q8, q1, bu, q1, q8, q15] f6 f10 from (by rw [ef10]; exact hKeep.up (by simp))).tr ((show hKeep [q8, q1, bu, q1, q8, q15] f10 f13 from (by rw [ef13]; exact hKeep.up (by simp))).tr (hKeep.trn w16 ((show hKeep [q15, q8, q1, bu, q1, q8, q15] f13 f17 from (by rw [ef17]; exact hKeep.up (by simp))).tr (show hKeep [q15, q8, q1, bu, q1, q8, q15] f17 f20 from (by rw [ef20]; exact hKeep.up (by simp))))))))))) w23 (ninc (Ne.symm n53) (ninc (Ne.symm n93) (ninc (Ne.symm n107) (ninc (Ne.symm n119) nin0))))), (hKeep.none (hKeep.trn w2 ((show hKeep [q1, bu, q1, q8, q15, q22] f f3 from (by rw [ef3]; exact hKeep.up (by simp))).tr ((show hKeep [q1, bu, q1, q8, q15, q22] f3 f6 from (by rw [ef6]; exact hKeep.up (by simp))).tr (hKeep.trn w9 ((show hKeep [q8, q1, bu, q1, q8, q15, q22] f6 f10 from (by rw [ef10]; exact hKeep.up (by simp))).tr ((show hKeep [q8, q1, bu, q1, q8, q15, q22] f10 f13 from (by rw [ef13]; exact hKeep.up (by simp))).tr (hKeep.trn w16 ((show hKeep [q15, q8, q1, bu, q1, q8, q15, q22] f13 f17 from (by rw [ef17]; exact hKeep.up (by simp))).tr ((show hKeep [q15, q8, q1, bu, q1, q8, q15, q22] f17 f20 from (by rw [ef20]; exact hKeep.up (by simp))).tr (hKeep.trn w23 ((show hKeep [q22, q15, q8, q1, bu, q1, q8, q15, q22] f20 f24 from (by rw [ef24]; exact hKeep.up (by simp))).tr (show hKeep [q22, q15, q8, q1, bu, q1, q8, q15, q22] f24 f27 from (by rw [ef27]; exact hKeep.up (by simp)))))))))))))) w30 (ninc (Ne.symm n70) (ninc (Ne.symm n95) (ninc (Ne.symm n109) (ninc (Ne.symm n121) (ninc (Ne.symm n74) nin0)))))), (hKeep.none (hKeep.trn w2 ((show hKeep [q1, bu, q1, q8, q15, q22, q29] f f3 from (by rw [ef3]; exact hKeep.up (by simp))).tr ((show hKeep [q1, bu, q1, q8, q15, q22, q29] f3 f6 from (by rw [ef6]; exact hKeep.up (by simp))).tr (hKeep.trn w9 ((show hKeep [q8, q1, bu, q1, q8, q15, q22, q29] f6 f10 from (by rw [ef10]; exact hKeep.up (by simp))).tr ((show hKeep [q8, q1, bu, q1, q8, q15, q22, q29] f10 f13 from (by rw [ef13]; exact hKeep.up (by simp))).tr (hKeep.trn w16 ((show hKeep [q15, q8, q1, bu, q1, q8, q15, q22, q29] f13 f17 from (by rw [ef17]; exact hKeep.up (by simp))).tr ((show hKeep [q15, q8, q1, bu, q1, q8, q15, q22, q29] f17 f20 from (by rw [ef20]; exact hKeep.up (by simp))).tr (hKeep.trn w23 ((show hKeep [q22, q15, q8, q1, bu, q1, q8, q15, q22, q29] f20 f24 from (by rw [ef24]; exact hKeep.up (by simp))).tr ((show hKeep [q22, q15, q8, q1, bu, q1, q8, q15, q22, q29] f24 f27 from (by rw [ef27]; exact hKeep.up (by simp))).tr (hKeep.trn w30 ((show hKeep [q29, q22, q15, q8, q1, bu, q1, q8, q15, q22, q29] f27 f31 from (by rw [ef31]; exact hKeep.up (by simp))).tr (show hKeep [q29, q22, q15, q8, q1, bu, q1, q8, q15, q22, q29] f31 f34 from (by rw [ef34]; exact hKeep.up (by simp))))))))))))))))) w37 (ninc (Ne.symm n124) (ninc (Ne.symm n134) (ninc (Ne.symm n133) (ninc (Ne.symm n132) (ninc (Ne.symm n126) (ninc (Ne.symm n128) nin0))))))), h79, h94, h108, h120, h122, h76, h127, n129, (Ne.symm n130), n74, (hKeep.trn w2 ((show hKeep [q1, bu] f f3 from (by rw [ef3]; exact hKeep.up (by simp))).tr ((show hKeep [q1, bu] f3 f6 from (by rw [ef6]; exact hKeep.up (by simp))).tr (hKeep.trn w9 ((show hKeep [q8, q1, bu] f6 f10 from (by rw [ef10]; exact hKeep.up (by simp))).tr ((show hKeep [q8, q1, bu] f10 f13 from (by rw [ef13]; exact hKeep.up (by simp))).tr (hKeep.trn w16 ((show hKeep [q15, q8, q1, bu] f13 f17 from (by rw [ef17]; exact hKeep.up (by simp))).tr ((show hKeep [q15, q8, q1, bu] f17 f20 from (by rw [ef20]; exact hKeep.up (by simp))).tr (hKeep.trn w23 ((show hKeep [q22, q15, q8, q1, bu] f20 f24 from (by rw [ef24]; exact hKeep.up (by simp))).tr ((show hKeep [q22, q15, q8, q1, bu] f24 f27 from (by rw [ef27]; exact hKeep.up (by simp))).tr (hKeep.trn w30 ((show hKeep [q29, q22, q15, q8, q1, bu] f27 f31 from (by rw [ef31]; exact hKeep.up (by simp))).tr ((show hKeep [q29, q22, q15, q8, q1, bu] f31 f34 from (by rw [ef34]; exact hKeep.up (by simp))).tr (hKeep.trn w37 ((show hKeep [q36, q29, q22, q15, q8, q1, bu] f34 f38 from (by rw [ef38]; exact hKeep.up (by simp))).tr ((show hKeep [q36, q29, q22, q15, q8, q1, bu] f38 f49 from (by rw [e50]; exact hKeep.up (by simp))).tr ((show hKeep [q36, q29, q22, q15, q8, q1, bu] f49 f65 from (by rw [e66]; exact hKeep.up (by simp))).tr (show hKeep [q36, q29, q22, q15, q8, q1, bu] f65 f75 from (k77.mono (fun x9 hx9 => by simp only [List.mem_cons, List.not_mem_nil, or_false] at hx9 ⊢; omega)))))))))))))))))))))), ((show NF f f3 from (by rw [ef3]; exact NF.up (Nat.ne_of_beq_eq_false rfl))).tr ((show NF f3 f6 from (by rw [ef6]; exact NF.up (Nat.ne_of_beq_eq_false rfl))).tr ((show NF f6 f10 from (by rw [ef10]; exact NF.up (Nat.ne_of_beq_eq_false rfl))).tr ((show NF f10 f13 from (by rw [ef13]; exact NF.up (Nat.ne_of_beq_eq_false rfl))).tr ((show NF f13 f17 from (by rw [ef17]; exact NF.up (Nat.ne_of_beq_eq_false rfl))).tr ((show NF f17 f20 from (by rw [ef20]; exact NF.up (Nat.ne_of_beq_eq_false rfl))).tr ((show NF f20 f24 from (by rw [ef24]; exact NF.up (Nat.ne_of_beq_eq_false rfl))).tr ((show NF f24 f27 from (by rw [ef27]; exact NF.up (Nat.ne_of_beq_eq_false rfl))).tr ((show NF f27 f31 from (by rw [ef31]; exact NF.up (Nat.ne_of_beq_eq_false rfl))).tr ((show NF f31 f34 from (by rw [ef34]; exact NF.up (Nat.ne_of_beq_eq_false rfl))).tr ((show NF f34 f38 from (by rw [ef38]; exact NF.up (Nat.ne_of_beq_eq_false rfl))).tr ((show NF f38 f49 from (by rw [e50]; exact NF.up (Nat.ne_of_beq_eq_false rfl))).tr ((show NF f49 f65 from (by rw [e66]; exact NF.up (Nat.ne_of_beq_eq_false rfl))).tr z78)))))))))))))⟩)

set_option maxHeartbeats 4000000 in
set_option maxRecDepth 100000 in
theorem c_X4_init {l : Launch} (hl : l.stackTraces = false) (G : hG) (f : hM) (xo : Nat) (k_xo : f xo = some (.inr (4, [.null, .null, .null]))) : CT l yX4_init (.code yX4_init cX4_init 1 none) 3 54 17 680 G [.ref xo] f (fun v f1 => v = none ∧ ∃ ez eo bu nw0 na0 nq0 nr0 nw1 na1 nq1 nr1 bs bp bh bf bl bg : Nat, f ez = none ∧ f eo = none ∧ f bu = none ∧ f nw0 = none ∧ f na0 = none ∧ f nq0 = none ∧ f nr0 = none ∧ f nw1 = none ∧ f na1 = none ∧ f nq1 = none ∧ f nr1 = none ∧ f bs = none ∧ f bp = none ∧ f bh = none ∧ f bf = none ∧ f bl = none ∧ f bg = none ∧ f1 xo = some (.inr (4, [.ref ez, .ref eo, .ref bu])) ∧ f1 ez = some (.inr (1, [.ref nw0, .ref na0, .ref nq0, .ref nr0, .int 1, .int 0, .int 0, .int 0, .int (-1), .int 0, .int 0])) ∧ f1 nw0 = some (.inl (cI G, 6, .inl (fun j => if j < 6 then (-1) else (fun _ => 0) j))) ∧ f1 na0 = some (.inl (cI G, 6, .inl (fun _ => 0))) ∧ f1 nq0 = some (.inl (cI G, 6, .inl (fun j => if j < 6 then (-1) else (fun _ => 0) j))) ∧ f1 nr0 = some (.inr (3, [.null, .null, .int 0])) ∧ f1 eo = some (.inr (1, [.ref nw1, .ref na1, .ref nq1, .ref nr1, .int 2, .int 0, .int 0, .int 0, .int (-1), .int 0, .int 0])) ∧ f1 nw1 = some (.inl (cI G, 6, .inl (fun j => if j < 6 then (-1) else (fun _ => 0) j))) ∧ f1 na1 = some (.inl (cI G, 6, .inl (fun _ => 0))) ∧ f1 nq1 = some (.inl (cI G, 6, .inl (fun j => if j < 6 then (-1) else (fun _ => 0) j))) ∧ f1 nr1 = some (.inr (3, [.null, .null, .int 0])) ∧ f1 bu = some (.inr (0, [.ref bs, .ref bp, .ref bh, .ref bf, .ref bl, .ref bg, .int 0, .int 0, .int 0])) ∧ f1 bs = some (.inl (cI G, 61, .inl (fun _ => 0))) ∧ f1 bp = some (.inl (cI G, 240, .inl (fun _ => 0))) ∧ f1 bh = some (.inl (cZ G, 240, .inl (fun _ => 0))) ∧ f1 bf = some (.inl (cI G, 3, .inl (upd (upd (upd (fun _ => 0) (0 : Int32).toNatClampNeg 0) (1 : Int32).toNatClampNeg 1) (2 : Int32).toNatClampNeg 2))) ∧ f1 bl = some (.inl (cI G, 3, .inl (fun j => if j < 3 then (-1) else (fun _ => 0) j))) ∧ f1 bg = some (.inl (cI G, 60, .inl (fun _ => 0))) ∧ ez ≠ eo ∧ nr0 ≠ nr1 ∧ nw0 ≠ na0 ∧ nw0 ≠ nq0 ∧ nw0 ≠ nw1 ∧ nw0 ≠ na1 ∧ nw0 ≠ nq1 ∧ na0 ≠ nq0 ∧ na0 ≠ nw1 ∧ na0 ≠ na1 ∧ na0 ≠ nq1 ∧ nq0 ≠ nw1 ∧ nq0 ≠ na1 ∧ nq0 ≠ nq1 ∧ nw1 ≠ na1 ∧ nw1 ≠ nq1 ∧ na1 ≠ nq1 ∧ bh ≠ bp ∧ bf ≠ bl ∧ hKeep [xo] f f1 ∧ NF f f1) (fun E f1 => False) := by
  refine hp_start hl (own := RX4) (by decide) rfl (Nat.le_of_ble_eq_true rfl) ?_
  intro p e s m args below meth c B0 hr hnm hout hw hS ls hl9
  have hx := B0.1
  have hb := B0.2.1
  have hl9 : lv_has ls 1 [(0, .ref xo)] := hl9
  refine lv_aload_n hx hb dX4_init_0 rfl (lv_at hl9 0 rfl) ?_
  refine W.objInit hx hb B0.2.2.2.1 (B0.2.2.2.2.1 _ qM_X4_1) (B0.2.2.2.2.1 _ qi_obj) (B0.2.2.2.2.1 _ qc_obj) rfl (by rw [B0.2.2.1]; exact hl9.1) rfl dX4_init_1 (Nat.le_of_ble_eq_true rfl) (Nat.le_of_ble_eq_true rfl) ?_
  refine W.eq (g2 := F0 m 4 ls []) rfl ?_
  refine lv_aload_n hx hb dX4_init_4 rfl (lv_at hl9 0 rfl) ?_
  refine hp_new (fs := [.null, .null, .null, .null, .int 0, .int 0, .int 0, .int 0, .int 0, .int 0, .int 0]) B0 hw hS 1 rfl in_X1 tyX1 tyX1_ok qC_X4_7 qI_X1 qN_X1 (fun j hj => by rcases (show j = 0 ∨ j = 1 ∨ j = 2 ∨ j = 3 ∨ j = 4 ∨ j = 5 ∨ j = 6 ∨ j = 7 ∨ j = 8 ∨ j = 9 ∨ j = 10 by omega) with rfl | rfl | rfl | rfl | rfl | rfl | rfl | rfl | rfl | rfl | rfl <;> rfl) (Nat.le_of_ble_eq_true rfl) (Nat.le_of_ble_eq_true rfl) dX4_init_5 (fun q1 H f3 w2 ef3 hw hS => ?_)
  have h4 : f3 q1 = some (.inr (1, [.null, .null, .null, .null, .int 0, .int 0, .int 0, .int 0, .int 0, .int 0, .int 0])) := by rw [ef3, va_up_self]
  refine lv_dup hx hb dX4_init_8 rfl ?_
  refine lv_iconst (v := 1) hx hb dX4_init_9 (by decide) ?_
  refine hp_I (As := [.int 1]) (rest := [.ref q1, .ref xo]) (b := q1) B0 hw hS (c_X1_init hl G f3 q1 1 h4) mI_X1_init qM_X4_9 rfl rfl hl9.1 (Nat.le_of_ble_eq_true rfl) ⟨⟨Nat.le_of_ble_eq_true rfl, Nat.le_of_ble_eq_true rfl⟩, Nat.le_of_ble_eq_true rfl, Nat.le_of_ble_eq_true rfl⟩ dX4_init_10 (fun E ce q9 f5 H locs hPX hw hS hce hcv hcl => ?_) (fun v f5 H locs hP hw hS => ?_)
  · exact hPX.elim
  · obtain ⟨ev9, nw_6, na_6, nq_6, nr_6, wnw6, wna6, wnq6, wnr6, h7, h8, h9, h10, h11, n12, n13, n14, k15, z16⟩ := hP
    subst ev9
    refine W.eq (g2 := F0 m 13 ls [.ref q1, .ref xo]) rfl ?_
    have h17 : f3 xo = some (.inr (4, [.null, .null, .null])) := by rw [ef3, va_up_ne _ _ (hnew k_xo w2)]; exact k_xo
    have n19 : xo ≠ q1 := hnew k_xo w2
    have h18 : f5 xo = some (.inr (4, [.null, .null, .null])) := k15 _ _ h17 (ninc n19 nin0)
    refine hp_putF (fs1 := [.ref q1, .null, .null]) (ty := .object "OptionLine$End") B0 hw hS 4 rfl in_X4 tyX4 tyX4_ok nmX4 h18 0 (by decide) qF_X4_12 rfl hnm rfl (by decide +kernel) rfl rfl (Nat.le_of_ble_eq_true rfl) rfl dX4_init_13 (fun H locs f20 ef20 hw hS => ?_)
    have h21 : f20 xo = some (.inr (4, [.ref q1, .null, .null])) := by rw [ef20, va_up_self]
    refine lv_aload_n hx hb dX4_init_16 rfl (lv_at hl9 0 rfl) ?_
    refine hp_new (fs := [.null, .null, .null, .null, .int 0, .int 0, .int 0, .int 0, .int 0, .int 0, .int 0]) B0 hw hS 1 rfl in_X1 tyX1 tyX1_ok qC_X4_7 qI_X1 qN_X1 (fun j hj => by rcases (show j = 0 ∨ j = 1 ∨ j = 2 ∨ j = 3 ∨ j = 4 ∨ j = 5 ∨ j = 6 ∨ j = 7 ∨ j = 8 ∨ j = 9 ∨ j = 10 by omega) with rfl | rfl | rfl | rfl | rfl | rfl | rfl | rfl | rfl | rfl | rfl <;> rfl) (Nat.le_of_ble_eq_true rfl) (Nat.le_of_ble_eq_true rfl) dX4_init_17 (fun q22 H f24 w23 ef24 hw hS => ?_)
    have h25 : f24 q22 = some (.inr (1, [.null, .null, .null, .null, .int 0, .int 0, .int 0, .int 0, .int 0, .int 0, .int 0])) := by rw [ef24, va_up_self]
    refine lv_dup hx hb dX4_init_20 rfl ?_
    refine lv_iconst (v := 2) hx hb dX4_init_21 (by decide) ?_
    refine hp_I (As := [.int 2]) (rest := [.ref q22, .ref xo]) (b := q22) B0 hw hS (c_X1_init hl G f24 q22 2 h25) mI_X1_init qM_X4_9 rfl rfl hl9.1 (Nat.le_of_ble_eq_true rfl) ⟨⟨Nat.le_of_ble_eq_true rfl, Nat.le_of_ble_eq_true rfl⟩, Nat.le_of_ble_eq_true rfl, Nat.le_of_ble_eq_true rfl⟩ dX4_init_22 (fun E ce q9 f26 H locs hPX hw hS hce hcv hcl => ?_) (fun v f26 H locs hP hw hS => ?_)
    · exact hPX.elim
    · obtain ⟨ev9, nw_27, na_27, nq_27, nr_27, wnw27, wna27, wnq27, wnr27, h28, h29, h30, h31, h32, n33, n34, n35, k36, z37⟩ := hP
      subst ev9
      refine W.eq (g2 := F0 m 25 ls [.ref q22, .ref xo]) rfl ?_
      have h38 : f24 xo = some (.inr (4, [.ref q1, .null, .null])) := by rw [ef24, va_up_ne _ _ (hnew h21 w23)]; exact h21
      have n40 : xo ≠ q22 := hnew h21 w23
      have h39 : f26 xo = some (.inr (4, [.ref q1, .null, .null])) := k36 _ _ h38 (ninc n40 nin0)
      refine hp_putF (fs1 := [.ref q1, .ref q22, .null]) (ty := .object "OptionLine$End") B0 hw hS 4 rfl in_X4 tyX4 tyX4_ok nmX4 h39 1 (by decide) qF_X4_18 rfl hnm rfl (by decide +kernel) rfl rfl (Nat.le_of_ble_eq_true rfl) rfl dX4_init_25 (fun H locs f41 ef41 hw hS => ?_)
      have h42 : f41 xo = some (.inr (4, [.ref q1, .ref q22, .null])) := by rw [ef41, va_up_self]
      refine lv_aload_n hx hb dX4_init_28 rfl (lv_at hl9 0 rfl) ?_
      refine hp_new (fs := [.null, .null, .null, .null, .null, .null, .int 0, .int 0, .int 0]) B0 hw hS 0 rfl in_X0 tyX0 tyX0_ok qC_X4_21 qI_X0 qN_X0 (fun j hj => by rcases (show j = 0 ∨ j = 1 ∨ j = 2 ∨ j = 3 ∨ j = 4 ∨ j = 5 ∨ j = 6 ∨ j = 7 ∨ j = 8 by omega) with rfl | rfl | rfl | rfl | rfl | rfl | rfl | rfl | rfl <;> rfl) (Nat.le_of_ble_eq_true rfl) (Nat.le_of_ble_eq_true rfl) dX4_init_29 (fun q43 H f45 w44 ef45 hw hS => ?_)
      have h46 : f45 q43 = some (.inr (0, [.null, .null, .null, .null, .null, .null, .int 0, .int 0, .int 0])) := by rw [ef45, va_up_self]
      refine lv_dup hx hb dX4_init_32 rfl ?_
      refine hp_I (As := []) (rest := [.ref q43, .ref xo]) (b := q43) B0 hw hS (c_X0_init hl G f45 q43 h46) mI_X0_init qM_X4_23 rfl rfl hl9.1 (Nat.le_of_ble_eq_true rfl) ⟨⟨Nat.le_of_ble_eq_true rfl, Nat.le_of_ble_eq_true rfl⟩, Nat.le_of_ble_eq_true rfl, Nat.le_of_ble_eq_true rfl⟩ dX4_init_33 (fun E ce q9 f47 H locs hPX hw hS hce hcv hcl => ?_) (fun v f47 H locs hP hw hS => ?_)
      · exact hPX.elim
      · obtain ⟨ev9, bs_48, bp_48, bh_48, bf_48, bl_48, bg_48, wbs48, wbp48, wbh48, wbf48, wbl48, wbg48, h49, h50, h51, h52, h53, h54, h55, n56, n59, n60, k57, z58⟩ := hP
        subst ev9
        refine W.eq (g2 := F0 m 36 ls [.ref q43, .ref xo]) rfl ?_
        have h61 : f45 xo = some (.inr (4, [.ref q1, .ref q22, .null])) := by rw [ef45, va_up_ne _ _ (hnew h42 w44)]; exact h42
        have n63 : xo ≠ q43 := hnew h42 w44
        have h62 : f47 xo = some (.inr (4, [.ref q1, .ref q22, .null])) := k57 _ _ h61 (ninc n63 nin0)
        refine hp_putF (fs1 := [.ref q1, .ref q22, .ref q43]) (ty := .object "OptionLine$Bundle") B0 hw hS 4 rfl in_X4 tyX4 tyX4_ok nmX4 h62 2 (by decide) qF_X4_24 rfl hnm rfl (by decide +kernel) rfl rfl (Nat.le_of_ble_eq_true rfl) rfl dX4_init_36 (fun H locs f64 ef64 hw hS => ?_)
        have h65 : f64 xo = some (.inr (4, [.ref q1, .ref q22, .ref q43])) := by rw [ef64, va_up_self]
        have h66 : f20 q1 = some (.inr (1, [.ref nw_6, .ref na_6, .ref nq_6, .ref nr_6, .int 1, .int 0, .int 0, .int 0, .int (-1), .int 0, .int 0])) := by rw [ef20, va_up_ne _ _ (Ne.symm n19)]; exact h7
        have h67 : f24 q1 = some (.inr (1, [.ref nw_6, .ref na_6, .ref nq_6, .ref nr_6, .int 1, .int 0, .int 0, .int 0, .int (-1), .int 0, .int 0])) := by rw [ef24, va_up_ne _ _ (hnew h66 w23)]; exact h66
        have n69 : q1 ≠ q22 := hnew h66 w23
        have h68 : f26 q1 = some (.inr (1, [.ref nw_6, .ref na_6, .ref nq_6, .ref nr_6, .int 1, .int 0, .int 0, .int 0, .int (-1), .int 0, .int 0])) := k36 _ _ h67 (ninc n69 nin0)
        have h70 : f41 q1 = some (.inr (1, [.ref nw_6, .ref na_6, .ref nq_6, .ref nr_6, .int 1, .int 0, .int 0, .int 0, .int (-1), .int 0, .int 0])) := by rw [ef41, va_up_ne _ _ (Ne.symm n19)]; exact h68
        have h71 : f45 q1 = some (.inr (1, [.ref nw_6, .ref na_6, .ref nq_6, .ref nr_6, .int 1, .int 0, .int 0, .int 0, .int (-1), .int 0, .int 0])) := by rw [ef45, va_up_ne _ _ (hnew h70 w44)]; exact h70
        have n73 : q1 ≠ q43 := hnew h70 w44
        have h72 : f47 q1 = some (.inr (1, [.ref nw_6, .ref na_6, .ref nq_6, .ref nr_6, .int 1, .int 0, .int 0, .int 0, .int (-1), .int 0, .int 0])) := k57 _ _ h71 (ninc n73 nin0)
        have h74 : f64 q1 = some (.inr (1, [.ref nw_6, .ref na_6, .ref nq_6, .ref nr_6, .int 1, .int 0, .int 0, .int 0, .int (-1), .int 0, .int 0])) := by rw [ef64, va_up_ne _ _ (Ne.symm n19)]; exact h72
        have n76 : xo ≠ nw_6 := hnew h17 wnw6
        have h75 : f20 nw_6 = some (.inl (cI G, 6, .inl (fun j => if j < 6 then (-1) else (fun _ => 0) j))) := by rw [ef20, va_up_ne _ _ (Ne.symm n76)]; exact h8
        have h77 : f24 nw_6 = some (.inl (cI G, 6, .inl (fun j => if j < 6 then (-1) else (fun _ => 0) j))) := by rw [ef24, va_up_ne _ _ (hnew h75 w23)]; exact h75
        have n79 : nw_6 ≠ q22 := hnew h75 w23
        have h78 : f26 nw_6 = some (.inl (cI G, 6, .inl (fun j => if j < 6 then (-1) else (fun _ => 0) j))) := k36 _ _ h77 (ninc n79 nin0)
        have h80 : f41 nw_6 = some (.inl (cI G, 6, .inl (fun j => if j < 6 then (-1) else (fun _ => 0) j))) := by rw [ef41, va_up_ne _ _ (Ne.symm n76)]; exact h78
        have h81 : f45 nw_6 = some (.inl (cI G, 6, .inl (fun j => if j < 6 then (-1) else (fun _ => 0) j))) := by rw [ef45, va_up_ne _ _ (hnew h80 w44)]; exact h80
        have n83 : nw_6 ≠ q43 := hnew h80 w44
        have h82 : f47 nw_6 = some (.inl (cI G, 6, .inl (fun j => if j < 6 then (-1) else (fun _ => 0) j))) := k57 _ _ h81 (ninc n83 nin0)
        have h84 : f64 nw_6 = some (.inl (cI G, 6, .inl (fun j => if j < 6 then (-1) else (fun _ => 0) j))) := by rw [ef64, va_up_ne _ _ (Ne.symm n76)]; exact h82
        have n86 : xo ≠ na_6 := hnew h17 wna6
        have h85 : f20 na_6 = some (.inl (cI G, 6, .inl (fun _ => 0))) := by rw [ef20, va_up_ne _ _ (Ne.symm n86)]; exact h9
        have h87 : f24 na_6 = some (.inl (cI G, 6, .inl (fun _ => 0))) := by rw [ef24, va_up_ne _ _ (hnew h85 w23)]; exact h85
        have n89 : na_6 ≠ q22 := hnew h85 w23
        have h88 : f26 na_6 = some (.inl (cI G, 6, .inl (fun _ => 0))) := k36 _ _ h87 (ninc n89 nin0)
        have h90 : f41 na_6 = some (.inl (cI G, 6, .inl (fun _ => 0))) := by rw [ef41, va_up_ne _ _ (Ne.symm n86)]; exact h88
        have h91 : f45 na_6 = some (.inl (cI G, 6, .inl (fun _ => 0))) := by rw [ef45, va_up_ne _ _ (hnew h90 w44)]; exact h90
        have n93 : na_6 ≠ q43 := hnew h90 w44
        have h92 : f47 na_6 = some (.inl (cI G, 6, .inl (fun _ => 0))) := k57 _ _ h91 (ninc n93 nin0)
        have h94 : f64 na_6 = some (.inl (cI G, 6, .inl (fun _ => 0))) := by rw [ef64, va_up_ne _ _ (Ne.symm n86)]; exact h92
        have n96 : xo ≠ nq_6 := hnew h17 wnq6
        have h95 : f20 nq_6 = some (.inl (cI G, 6, .inl (fun j => if j < 6 then (-1) else (fun _ => 0) j))) := by rw [ef20, va_up_ne _ _ (Ne.symm n96)]; exact h10
        have h97 : f24 nq_6 = some (.inl (cI G, 6, .inl (fun j => if j < 6 then (-1) else (fun _ => 0) j))) := by rw [ef24, va_up_ne _ _ (hnew h95 w23)]; exact h95
        have n99 : nq_6 ≠ q22 := hnew h95 w23
        have h98 : f26 nq_6 = some (.inl (cI G, 6, .inl (fun j => if j < 6 then (-1) else (fun _ => 0) j))) := k36 _ _ h97 (ninc n99 nin0)
        have h100 : f41 nq_6 = some (.inl (cI G, 6, .inl (fun j => if j < 6 then (-1) else (fun _ => 0) j))) := by rw [ef41, va_up_ne _ _ (Ne.symm n96)]; exact h98
        have h101 : f45 nq_6 = some (.inl (cI G, 6, .inl (fun j => if j < 6 then (-1) else (fun _ => 0) j))) := by rw [ef45, va_up_ne _ _ (hnew h100 w44)]; exact h100
        have n103 : nq_6 ≠ q43 := hnew h100 w44
        have h102 : f47 nq_6 = some (.inl (cI G, 6, .inl (fun j => if j < 6 then (-1) else (fun _ => 0) j))) := k57 _ _ h101 (ninc n103 nin0)
        have h104 : f64 nq_6 = some (.inl (cI G, 6, .inl (fun j => if j < 6 then (-1) else (fun _ => 0) j))) := by rw [ef64, va_up_ne _ _ (Ne.symm n96)]; exact h102
        have n106 : xo ≠ nr_6 := hnew h17 wnr6
        have h105 : f20 nr_6 = some (.inr (3, [.null, .null, .int 0])) := by rw [ef20, va_up_ne _ _ (Ne.symm n106)]; exact h11
        have h107 : f24 nr_6 = some (.inr (3, [.null, .null, .int 0])) := by rw [ef24, va_up_ne _ _ (hnew h105 w23)]; exact h105
        have n109 : nr_6 ≠ q22 := hnew h105 w23
        have h108 : f26 nr_6 = some (.inr (3, [.null, .null, .int 0])) := k36 _ _ h107 (ninc n109 nin0)
        have h110 : f41 nr_6 = some (.inr (3, [.null, .null, .int 0])) := by rw [ef41, va_up_ne _ _ (Ne.symm n106)]; exact h108
        have h111 : f45 nr_6 = some (.inr (3, [.null, .null, .int 0])) := by rw [ef45, va_up_ne _ _ (hnew h110 w44)]; exact h110
        have n113 : nr_6 ≠ q43 := hnew h110 w44
        have h112 : f47 nr_6 = some (.inr (3, [.null, .null, .int 0])) := k57 _ _ h111 (ninc n113 nin0)
        have h114 : f64 nr_6 = some (.inr (3, [.null, .null, .int 0])) := by rw [ef64, va_up_ne _ _ (Ne.symm n106)]; exact h112
        have h115 : f41 q22 = some (.inr (1, [.ref nw_27, .ref na_27, .ref nq_27, .ref nr_27, .int 2, .int 0, .int 0, .int 0, .int (-1), .int 0, .int 0])) := by rw [ef41, va_up_ne _ _ (Ne.symm n40)]; exact h28
        have h116 : f45 q22 = some (.inr (1, [.ref nw_27, .ref na_27, .ref nq_27, .ref nr_27, .int 2, .int 0, .int 0, .int 0, .int (-1), .int 0, .int 0])) := by rw [ef45, va_up_ne _ _ (hnew h115 w44)]; exact h115
        have n118 : q22 ≠ q43 := hnew h115 w44
        have h117 : f47 q22 = some (.inr (1, [.ref nw_27, .ref na_27, .ref nq_27, .ref nr_27, .int 2, .int 0, .int 0, .int 0, .int (-1), .int 0, .int 0])) := k57 _ _ h116 (ninc n118 nin0)
        have h119 : f64 q22 = some (.inr (1, [.ref nw_27, .ref na_27, .ref nq_27, .ref nr_27, .int 2, .int 0, .int 0, .int 0, .int (-1), .int 0, .int 0])) := by rw [ef64, va_up_ne _ _ (Ne.symm n40)]; exact h117
        have n121 : xo ≠ nw_27 := hnew h38 wnw27
        have h120 : f41 nw_27 = some (.inl (cI G, 6, .inl (fun j => if j < 6 then (-1) else (fun _ => 0) j))) := by rw [ef41, va_up_ne _ _ (Ne.symm n121)]; exact h29
        have h122 : f45 nw_27 = some (.inl (cI G, 6, .inl (fun j => if j < 6 then (-1) else (fun _ => 0) j))) := by rw [ef45, va_up_ne _ _ (hnew h120 w44)]; exact h120
        have n124 : nw_27 ≠ q43 := hnew h120 w44
        have h123 : f47 nw_27 = some (.inl (cI G, 6, .inl (fun j => if j < 6 then (-1) else (fun _ => 0) j))) := k57 _ _ h122 (ninc n124 nin0)
        have h125 : f64 nw_27 = some (.inl (cI G, 6, .inl (fun j => if j < 6 then (-1) else (fun _ => 0) j))) := by rw [ef64, va_up_ne _ _ (Ne.symm n121)]; exact h123
        have n127 : xo ≠ na_27 := hnew h38 wna27
        have h126 : f41 na_27 = some (.inl (cI G, 6, .inl (fun _ => 0))) := by rw [ef41, va_up_ne _ _ (Ne.symm n127)]; exact h30
        have h128 : f45 na_27 = some (.inl (cI G, 6, .inl (fun _ => 0))) := by rw [ef45, va_up_ne _ _ (hnew h126 w44)]; exact h126
        have n130 : na_27 ≠ q43 := hnew h126 w44
        have h129 : f47 na_27 = some (.inl (cI G, 6, .inl (fun _ => 0))) := k57 _ _ h128 (ninc n130 nin0)
        have h131 : f64 na_27 = some (.inl (cI G, 6, .inl (fun _ => 0))) := by rw [ef64, va_up_ne _ _ (Ne.symm n127)]; exact h129
        have n133 : xo ≠ nq_27 := hnew h38 wnq27
        have h132 : f41 nq_27 = some (.inl (cI G, 6, .inl (fun j => if j < 6 then (-1) else (fun _ => 0) j))) := by rw [ef41, va_up_ne _ _ (Ne.symm n133)]; exact h31
        have h134 : f45 nq_27 = some (.inl (cI G, 6, .inl (fun j => if j < 6 then (-1) else (fun _ => 0) j))) := by rw [ef45, va_up_ne _ _ (hnew h132 w44)]; exact h132
        have n136 : nq_27 ≠ q43 := hnew h132 w44
        have h135 : f47 nq_27 = some (.inl (cI G, 6, .inl (fun j => if j < 6 then (-1) else (fun _ => 0) j))) := k57 _ _ h134 (ninc n136 nin0)
        have h137 : f64 nq_27 = some (.inl (cI G, 6, .inl (fun j => if j < 6 then (-1) else (fun _ => 0) j))) := by rw [ef64, va_up_ne _ _ (Ne.symm n133)]; exact h135
        have n139 : xo ≠ nr_27 := hnew h38 wnr27
        have h138 : f41 nr_27 = some (.inr (3, [.null, .null, .int 0])) := by rw [ef41, va_up_ne _ _ (Ne.symm n139)]; exact h32
        have h140 : f45 nr_27 = some (.inr (3, [.null, .null, .int 0])) := by rw [ef45, va_up_ne _ _ (hnew h138 w44)]; exact h138
        have n142 : nr_27 ≠ q43 := hnew h138 w44
        have h141 : f47 nr_27 = some (.inr (3, [.null, .null, .int 0])) := k57 _ _ h140 (ninc n142 nin0)
        have h143 : f64 nr_27 = some (.inr (3, [.null, .null, .int 0])) := by rw [ef64, va_up_ne _ _ (Ne.symm n139)]; exact h141
        have h144 : f64 q43 = some (.inr (0, [.ref bs_48, .ref bp_48, .ref bh_48, .ref bf_48, .ref bl_48, .ref bg_48, .int 0, .int 0, .int 0])) := by rw [ef64, va_up_ne _ _ (Ne.symm n63)]; exact h49
        have n146 : xo ≠ bs_48 := hnew h61 wbs48
        have h145 : f64 bs_48 = some (.inl (cI G, 61, .inl (fun _ => 0))) := by rw [ef64, va_up_ne _ _ (Ne.symm n146)]; exact h50
        have n148 : xo ≠ bp_48 := hnew h61 wbp48
        have h147 : f64 bp_48 = some (.inl (cI G, 240, .inl (fun _ => 0))) := by rw [ef64, va_up_ne _ _ (Ne.symm n148)]; exact h51
        have n150 : xo ≠ bh_48 := hnew h61 wbh48
        have h149 : f64 bh_48 = some (.inl (cZ G, 240, .inl (fun _ => 0))) := by rw [ef64, va_up_ne _ _ (Ne.symm n150)]; exact h52
        have n152 : xo ≠ bf_48 := hnew h61 wbf48
        have h151 : f64 bf_48 = some (.inl (cI G, 3, .inl (upd (upd (upd (fun _ => 0) (0 : Int32).toNatClampNeg 0) (1 : Int32).toNatClampNeg 1) (2 : Int32).toNatClampNeg 2))) := by rw [ef64, va_up_ne _ _ (Ne.symm n152)]; exact h53
        have n154 : xo ≠ bl_48 := hnew h61 wbl48
        have h153 : f64 bl_48 = some (.inl (cI G, 3, .inl (fun j => if j < 3 then (-1) else (fun _ => 0) j))) := by rw [ef64, va_up_ne _ _ (Ne.symm n154)]; exact h54
        have n156 : xo ≠ bg_48 := hnew h61 wbg48
        have h155 : f64 bg_48 = some (.inl (cI G, 60, .inl (fun _ => 0))) := by rw [ef64, va_up_ne _ _ (Ne.symm n156)]; exact h55
        have n157 : q1 ≠ nw_6 := hnew h4 wnw6
        have n158 : q1 ≠ na_6 := hnew h4 wna6
        have n159 : q1 ≠ nq_6 := hnew h4 wnq6
        have n160 : q1 ≠ nr_6 := hnew h4 wnr6
        have n161 : q22 ≠ nw_27 := hnew h25 wnw27
        have n162 : nr_6 ≠ nw_27 := hnew h107 wnw27
        have n163 : nq_6 ≠ nw_27 := hnew h97 wnw27
        have n164 : na_6 ≠ nw_27 := hnew h87 wnw27
        have n165 : nw_6 ≠ nw_27 := hnew h77 wnw27
        have n166 : q1 ≠ nw_27 := hnew h67 wnw27
        have n167 : q22 ≠ na_27 := hnew h25 wna27
        have n168 : nr_6 ≠ na_27 := hnew h107 wna27
        have n169 : nq_6 ≠ na_27 := hnew h97 wna27
        have n170 : na_6 ≠ na_27 := hnew h87 wna27
        have n171 : nw_6 ≠ na_27 := hnew h77 wna27
        have n172 : q1 ≠ na_27 := hnew h67 wna27
        have n173 : q22 ≠ nq_27 := hnew h25 wnq27
        have n174 : nr_6 ≠ nq_27 := hnew h107 wnq27
        have n175 : nq_6 ≠ nq_27 := hnew h97 wnq27
        have n176 : na_6 ≠ nq_27 := hnew h87 wnq27
        have n177 : nw_6 ≠ nq_27 := hnew h77 wnq27
        have n178 : q1 ≠ nq_27 := hnew h67 wnq27
        have n179 : q22 ≠ nr_27 := hnew h25 wnr27
        have n180 : nr_6 ≠ nr_27 := hnew h107 wnr27
        have n181 : nq_6 ≠ nr_27 := hnew h97 wnr27
        have n182 : na_6 ≠ nr_27 := hnew h87 wnr27
        have n183 : nw_6 ≠ nr_27 := hnew h77 wnr27
        have n184 : q1 ≠ nr_27 := hnew h67 wnr27
        have n185 : q43 ≠ bs_48 := hnew h46 wbs48
        have n186 : nr_27 ≠ bs_48 := hnew h140 wbs48
        have n187 : nq_27 ≠ bs_48 := hnew h134 wbs48
        have n188 : na_27 ≠ bs_48 := hnew h128 wbs48
        have n189 : nw_27 ≠ bs_48 := hnew h122 wbs48
        have n190 : q22 ≠ bs_48 := hnew h116 wbs48
        have n191 : nr_6 ≠ bs_48 := hnew h111 wbs48
        have n192 : nq_6 ≠ bs_48 := hnew h101 wbs48
        have n193 : na_6 ≠ bs_48 := hnew h91 wbs48
        have n194 : nw_6 ≠ bs_48 := hnew h81 wbs48
        have n195 : q1 ≠ bs_48 := hnew h71 wbs48
        have n196 : q43 ≠ bp_48 := hnew h46 wbp48
        have n197 : nr_27 ≠ bp_48 := hnew h140 wbp48
        have n198 : nq_27 ≠ bp_48 := hnew h134 wbp48
        have n199 : na_27 ≠ bp_48 := hnew h128 wbp48
        have n200 : nw_27 ≠ bp_48 := hnew h122 wbp48
        have n201 : q22 ≠ bp_48 := hnew h116 wbp48
        have n202 : nr_6 ≠ bp_48 := hnew h111 wbp48
        have n203 : nq_6 ≠ bp_48 := hnew h101 wbp48
        have n204 : na_6 ≠ bp_48 := hnew h91 wbp48
        have n205 : nw_6 ≠ bp_48 := hnew h81 wbp48
        have n206 : q1 ≠ bp_48 := hnew h71 wbp48
        have n207 : q43 ≠ bh_48 := hnew h46 wbh48
        have n208 : nr_27 ≠ bh_48 := hnew h140 wbh48
        have n209 : nq_27 ≠ bh_48 := hnew h134 wbh48
        have n210 : na_27 ≠ bh_48 := hnew h128 wbh48
        have n211 : nw_27 ≠ bh_48 := hnew h122 wbh48
        have n212 : q22 ≠ bh_48 := hnew h116 wbh48
        have n213 : nr_6 ≠ bh_48 := hnew h111 wbh48
        have n214 : nq_6 ≠ bh_48 := hnew h101 wbh48
        have n215 : na_6 ≠ bh_48 := hnew h91 wbh48
        have n216 : nw_6 ≠ bh_48 := hnew h81 wbh48
        have n217 : q1 ≠ bh_48 := hnew h71 wbh48
        have n218 : q43 ≠ bf_48 := hnew h46 wbf48
        have n219 : nr_27 ≠ bf_48 := hnew h140 wbf48
        have n220 : nq_27 ≠ bf_48 := hnew h134 wbf48
        have n221 : na_27 ≠ bf_48 := hnew h128 wbf48
        have n222 : nw_27 ≠ bf_48 := hnew h122 wbf48
        have n223 : q22 ≠ bf_48 := hnew h116 wbf48
        have n224 : nr_6 ≠ bf_48 := hnew h111 wbf48
        have n225 : nq_6 ≠ bf_48 := hnew h101 wbf48
        have n226 : na_6 ≠ bf_48 := hnew h91 wbf48
        have n227 : nw_6 ≠ bf_48 := hnew h81 wbf48
        have n228 : q1 ≠ bf_48 := hnew h71 wbf48
        have n229 : q43 ≠ bl_48 := hnew h46 wbl48
        have n230 : nr_27 ≠ bl_48 := hnew h140 wbl48
        have n231 : nq_27 ≠ bl_48 := hnew h134 wbl48
        have n232 : na_27 ≠ bl_48 := hnew h128 wbl48
        have n233 : nw_27 ≠ bl_48 := hnew h122 wbl48
        have n234 : q22 ≠ bl_48 := hnew h116 wbl48
        have n235 : nr_6 ≠ bl_48 := hnew h111 wbl48
        have n236 : nq_6 ≠ bl_48 := hnew h101 wbl48
        have n237 : na_6 ≠ bl_48 := hnew h91 wbl48
        have n238 : nw_6 ≠ bl_48 := hnew h81 wbl48
        have n239 : q1 ≠ bl_48 := hnew h71 wbl48
        have n240 : q43 ≠ bg_48 := hnew h46 wbg48
        have n241 : nr_27 ≠ bg_48 := hnew h140 wbg48
        have n242 : nq_27 ≠ bg_48 := hnew h134 wbg48
        have n243 : na_27 ≠ bg_48 := hnew h128 wbg48
        have n244 : nw_27 ≠ bg_48 := hnew h122 wbg48
        have n245 : q22 ≠ bg_48 := hnew h116 wbg48
        have n246 : nr_6 ≠ bg_48 := hnew h111 wbg48
        have n247 : nq_6 ≠ bg_48 := hnew h101 wbg48
        have n248 : na_6 ≠ bg_48 := hnew h91 wbg48
        have n249 : nw_6 ≠ bg_48 := hnew h81 wbg48
        have n250 : q1 ≠ bg_48 := hnew h71 wbg48
        exact hp_vret B0 hw hS hr ⟨Nat.le_of_ble_eq_true rfl, Nat.le_of_ble_eq_true rfl⟩ dX4_init_39 (⟨rfl, q1, q22, q43, nw_6, na_6, nq_6, nr_6, nw_27, na_27, nq_27, nr_27, bs_48, bp_48, bh_48, bf_48, bl_48, bg_48, w2, (hKeep.none (hKeep.trn w2 ((show hKeep [q1, xo, q1, nw_6, na_6, nq_6, nr_6] f f3 from (by rw [ef3]; exact hKeep.up (by simp))).tr ((show hKeep [q1, xo, q1, nw_6, na_6, nq_6, nr_6] f3 f5 from (k15.mono (fun x9 hx9 => by simp only [List.mem_cons, List.not_mem_nil, or_false] at hx9 ⊢; omega))).tr (show hKeep [q1, xo, q1, nw_6, na_6, nq_6, nr_6] f5 f20 from (by rw [ef20]; exact hKeep.up (by simp)))))) w23 (ninc (Ne.symm n40) (ninc (Ne.symm n69) (ninc (Ne.symm n79) (ninc (Ne.symm n89) (ninc (Ne.symm n99) (ninc (Ne.symm n109) nin0))))))), (hKeep.none (hKeep.trn w2 ((show hKeep [q1, xo, q1, nw_6, na_6, nq_6, nr_6, q22, nw_27, na_27, nq_27, nr_27] f f3 from (by rw [ef3]; exact hKeep.up (by simp))).tr ((show hKeep [q1, xo, q1, nw_6, na_6, nq_6, nr_6, q22, nw_27, na_27, nq_27, nr_27] f3 f5 from (k15.mono (fun x9 hx9 => by simp only [List.mem_cons, List.not_mem_nil, or_false] at hx9 ⊢; omega))).tr ((show hKeep [q1, xo, q1, nw_6, na_6, nq_6, nr_6, q22, nw_27, na_27, nq_27, nr_27] f5 f20 from (by rw [ef20]; exact hKeep.up (by simp))).tr (hKeep.trn w23 ((show hKeep [q22, q1, xo, q1, nw_6, na_6, nq_6, nr_6, q22, nw_27, na_27, nq_27, nr_27] f20 f24 from (by rw [ef24]; exact hKeep.up (by simp))).tr ((show hKeep [q22, q1, xo, q1, nw_6, na_6, nq_6, nr_6, q22, nw_27, na_27, nq_27, nr_27] f24 f26 from (k36.mono (fun x9 hx9 => by simp only [List.mem_cons, List.not_mem_nil, or_false] at hx9 ⊢; omega))).tr (show hKeep [q22, q1, xo, q1, nw_6, na_6, nq_6, nr_6, q22, nw_27, na_27, nq_27, nr_27] f26 f41 from (by rw [ef41]; exact hKeep.up (by simp)))))))))) w44 (ninc (Ne.symm n63) (ninc (Ne.symm n73) (ninc (Ne.symm n83) (ninc (Ne.symm n93) (ninc (Ne.symm n103) (ninc (Ne.symm n113) (ninc (Ne.symm n118) (ninc (Ne.symm n124) (ninc (Ne.symm n130) (ninc (Ne.symm n136) (ninc (Ne.symm n142) nin0)))))))))))), (hKeep.none (hKeep.trn w2 (show hKeep [q1, xo, q1] f f3 from (by rw [ef3]; exact hKeep.up (by simp)))) wnw6 (ninc (Ne.symm n76) (ninc (Ne.symm n157) nin0))), (hKeep.none (hKeep.trn w2 (show hKeep [q1, xo, q1] f f3 from (by rw [ef3]; exact hKeep.up (by simp)))) wna6 (ninc (Ne.symm n86) (ninc (Ne.symm n158) nin0))), (hKeep.none (hKeep.trn w2 (show hKeep [q1, xo, q1] f f3 from (by rw [ef3]; exact hKeep.up (by simp)))) wnq6 (ninc (Ne.symm n96) (ninc (Ne.symm n159) nin0))), (hKeep.none (hKeep.trn w2 (show hKeep [q1, xo, q1] f f3 from (by rw [ef3]; exact hKeep.up (by simp)))) wnr6 (ninc (Ne.symm n106) (ninc (Ne.symm n160) nin0))), (hKeep.none (hKeep.trn w2 ((show hKeep [q1, xo, q1, nw_6, na_6, nq_6, nr_6, q22] f f3 from (by rw [ef3]; exact hKeep.up (by simp))).tr ((show hKeep [q1, xo, q1, nw_6, na_6, nq_6, nr_6, q22] f3 f5 from (k15.mono (fun x9 hx9 => by simp only [List.mem_cons, List.not_mem_nil, or_false] at hx9 ⊢; omega))).tr ((show hKeep [q1, xo, q1, nw_6, na_6, nq_6, nr_6, q22] f5 f20 from (by rw [ef20]; exact hKeep.up (by simp))).tr (hKeep.trn w23 (show hKeep [q22, q1, xo, q1, nw_6, na_6, nq_6, nr_6, q22] f20 f24 from (by rw [ef24]; exact hKeep.up (by simp)))))))) wnw27 (ninc (Ne.symm n121) (ninc (Ne.symm n166) (ninc (Ne.symm n165) (ninc (Ne.symm n164) (ninc (Ne.symm n163) (ninc (Ne.symm n162) (ninc (Ne.symm n161) nin0)))))))), (hKeep.none (hKeep.trn w2 ((show hKeep [q1, xo, q1, nw_6, na_6, nq_6, nr_6, q22] f f3 from (by rw [ef3]; exact hKeep.up (by simp))).tr ((show hKeep [q1, xo, q1, nw_6, na_6, nq_6, nr_6, q22] f3 f5 from (k15.mono (fun x9 hx9 => by simp only [List.mem_cons, List.not_mem_nil, or_false] at hx9 ⊢; omega))).tr ((show hKeep [q1, xo, q1, nw_6, na_6, nq_6, nr_6, q22] f5 f20 from (by rw [ef20]; exact hKeep.up (by simp))).tr (hKeep.trn w23 (show hKeep [q22, q1, xo, q1, nw_6, na_6, nq_6, nr_6, q22] f20 f24 from (by rw [ef24]; exact hKeep.up (by simp)))))))) wna27 (ninc (Ne.symm n127) (ninc (Ne.symm n172) (ninc (Ne.symm n171) (ninc (Ne.symm n170) (ninc (Ne.symm n169) (ninc (Ne.symm n168) (ninc (Ne.symm n167) nin0)))))))), (hKeep.none (hKeep.trn w2 ((show hKeep [q1, xo, q1, nw_6, na_6, nq_6, nr_6, q22] f f3 from (by rw [ef3]; exact hKeep.up (by simp))).tr ((show hKeep [q1, xo, q1, nw_6, na_6, nq_6, nr_6, q22] f3 f5 from (k15.mono (fun x9 hx9 => by simp only [List.mem_cons, List.not_mem_nil, or_false] at hx9 ⊢; omega))).tr ((show hKeep [q1, xo, q1, nw_6, na_6, nq_6, nr_6, q22] f5 f20 from (by rw [ef20]; exact hKeep.up (by simp))).tr (hKeep.trn w23 (show hKeep [q22, q1, xo, q1, nw_6, na_6, nq_6, nr_6, q22] f20 f24 from (by rw [ef24]; exact hKeep.up (by simp)))))))) wnq27 (ninc (Ne.symm n133) (ninc (Ne.symm n178) (ninc (Ne.symm n177) (ninc (Ne.symm n176) (ninc (Ne.symm n175) (ninc (Ne.symm n174) (ninc (Ne.symm n173) nin0)))))))), (hKeep.none (hKeep.trn w2 ((show hKeep [q1, xo, q1, nw_6, na_6, nq_6, nr_6, q22] f f3 from (by rw [ef3]; exact hKeep.up (by simp))).tr ((show hKeep [q1, xo, q1, nw_6, na_6, nq_6, nr_6, q22] f3 f5 from (k15.mono (fun x9 hx9 => by simp only [List.mem_cons, List.not_mem_nil, or_false] at hx9 ⊢; omega))).tr ((show hKeep [q1, xo, q1, nw_6, na_6, nq_6, nr_6, q22] f5 f20 from (by rw [ef20]; exact hKeep.up (by simp))).tr (hKeep.trn w23 (show hKeep [q22, q1, xo, q1, nw_6, na_6, nq_6, nr_6, q22] f20 f24 from (by rw [ef24]; exact hKeep.up (by simp)))))))) wnr27 (ninc (Ne.symm n139) (ninc (Ne.symm n184) (ninc (Ne.symm n183) (ninc (Ne.symm n182) (ninc (Ne.symm n181) (ninc (Ne.symm n180) (ninc (Ne.symm n179) nin0)))))))), (hKeep.none (hKeep.trn w2 ((show hKeep [q1, xo, q1, nw_6, na_6, nq_6, nr_6, q22, nw_27, na_27, nq_27, nr_27, q43] f f3 from (by rw [ef3]; exact hKeep.up (by simp))).tr ((show hKeep [q1, xo, q1, nw_6, na_6, nq_6, nr_6, q22, nw_27, na_27, nq_27, nr_27, q43] f3 f5 from (k15.mono (fun x9 hx9 => by simp only [List.mem_cons, List.not_mem_nil, or_false] at hx9 ⊢; omega))).tr ((show hKeep [q1, xo, q1, nw_6, na_6, nq_6, nr_6, q22, nw_27, na_27, nq_27, nr_27, q43] f5 f20 from (by rw [ef20]; exact hKeep.up (by simp))).tr (hKeep.trn w23 ((show hKeep [q22, q1, xo, q1, nw_6, na_6, nq_6, nr_6, q22, nw_27, na_27, nq_27, nr_27, q43] f20 f24 from (by rw [ef24]; exact hKeep.up (by simp))).tr ((show hKeep [q22, q1, xo, q1, nw_6, na_6, nq_6, nr_6, q22, nw_27, na_27, nq_27, nr_27, q43] f24 f26 from (k36.mono (fun x9 hx9 => by simp only [List.mem_cons, List.not_mem_nil, or_false] at hx9 ⊢; omega))).tr ((show hKeep [q22, q1, xo, q1, nw_6, na_6, nq_6, nr_6, q22, nw_27, na_27, nq_27, nr_27, q43] f26 f41 from (by rw [ef41]; exact hKeep.up (by simp))).tr (hKeep.trn w44 (show hKeep [q43, q22, q1, xo, q1, nw_6, na_6, nq_6, nr_6, q22, nw_27, na_27, nq_27, nr_27, q43] f41 f45 from (by rw [ef45]; exact hKeep.up (by simp)))))))))))) wbs48 (ninc (Ne.symm n146) (ninc (Ne.symm n195) (ninc (Ne.symm n194) (ninc (Ne.symm n193) (ninc (Ne.symm n192) (ninc (Ne.symm n191) (ninc (Ne.symm n190) (ninc (Ne.symm n189) (ninc (Ne.symm n188) (ninc (Ne.symm n187) (ninc (Ne.symm n186) (ninc (Ne.symm n185) nin0))))))))))))), (hKeep.none (hKeep.trn w2 ((show hKeep [q1, xo, q1, nw_6, na_6, nq_6, nr_6, q22, nw_27, na_27, nq_27, nr_27, q43] f f3 from (by rw [ef3]; exact hKeep.up (by simp))).tr ((show hKeep [q1, xo, q1, nw_6, na_6, nq_6, nr_6, q22, nw_27, na_27, nq_27, nr_27, q43] f3 f5 from (k15.mono (fun x9 hx9 => by simp only [List.mem_cons, List.not_mem_nil, or_false] at hx9 ⊢; omega))).tr ((show hKeep [q1, xo, q1, nw_6, na_6, nq_6, nr_6, q22, nw_27, na_27, nq_27, nr_27, q43] f5 f20 from (by rw [ef20]; exact hKeep.up (by simp))).tr (hKeep.trn w23 ((show hKeep [q22, q1, xo, q1, nw_6, na_6, nq_6, nr_6, q22, nw_27, na_27, nq_27, nr_27, q43] f20 f24 from (by rw [ef24]; exact hKeep.up (by simp))).tr ((show hKeep [q22, q1, xo, q1, nw_6, na_6, nq_6, nr_6, q22, nw_27, na_27, nq_27, nr_27, q43] f24 f26 from (k36.mono (fun x9 hx9 => by simp only [List.mem_cons, List.not_mem_nil, or_false] at hx9 ⊢; omega))).tr ((show hKeep [q22, q1, xo, q1, nw_6, na_6, nq_6, nr_6, q22, nw_27, na_27, nq_27, nr_27, q43] f26 f41 from (by rw [ef41]; exact hKeep.up (by simp))).tr (hKeep.trn w44 (show hKeep [q43, q22, q1, xo, q1, nw_6, na_6, nq_6, nr_6, q22, nw_27, na_27, nq_27, nr_27, q43] f41 f45 from (by rw [ef45]; exact hKeep.up (by simp)))))))))))) wbp48 (ninc (Ne.symm n148) (ninc (Ne.symm n206) (ninc (Ne.symm n205) (ninc (Ne.symm n204) (ninc (Ne.symm n203) (ninc (Ne.symm n202) (ninc (Ne.symm n201) (ninc (Ne.symm n200) (ninc (Ne.symm n199) (ninc (Ne.symm n198) (ninc (Ne.symm n197) (ninc (Ne.symm n196) nin0))))))))))))), (hKeep.none (hKeep.trn w2 ((show hKeep [q1, xo, q1, nw_6, na_6, nq_6, nr_6, q22, nw_27, na_27, nq_27, nr_27, q43] f f3 from (by rw [ef3]; exact hKeep.up (by simp))).tr ((show hKeep [q1, xo, q1, nw_6, na_6, nq_6, nr_6, q22, nw_27, na_27, nq_27, nr_27, q43] f3 f5 from (k15.mono (fun x9 hx9 => by simp only [List.mem_cons, List.not_mem_nil, or_false] at hx9 ⊢; omega))).tr ((show hKeep [q1, xo, q1, nw_6, na_6, nq_6, nr_6, q22, nw_27, na_27, nq_27, nr_27, q43] f5 f20 from (by rw [ef20]; exact hKeep.up (by simp))).tr (hKeep.trn w23 ((show hKeep [q22, q1, xo, q1, nw_6, na_6, nq_6, nr_6, q22, nw_27, na_27, nq_27, nr_27, q43] f20 f24 from (by rw [ef24]; exact hKeep.up (by simp))).tr ((show hKeep [q22, q1, xo, q1, nw_6, na_6, nq_6, nr_6, q22, nw_27, na_27, nq_27, nr_27, q43] f24 f26 from (k36.mono (fun x9 hx9 => by simp only [List.mem_cons, List.not_mem_nil, or_false] at hx9 ⊢; omega))).tr ((show hKeep [q22, q1, xo, q1, nw_6, na_6, nq_6, nr_6, q22, nw_27, na_27, nq_27, nr_27, q43] f26 f41 from (by rw [ef41]; exact hKeep.up (by simp))).tr (hKeep.trn w44 (show hKeep [q43, q22, q1, xo, q1, nw_6, na_6, nq_6, nr_6, q22, nw_27, na_27, nq_27, nr_27, q43] f41 f45 from (by rw [ef45]; exact hKeep.up (by simp)))))))))))) wbh48 (ninc (Ne.symm n150) (ninc (Ne.symm n217) (ninc (Ne.symm n216) (ninc (Ne.symm n215) (ninc (Ne.symm n214) (ninc (Ne.symm n213) (ninc (Ne.symm n212) (ninc (Ne.symm n211) (ninc (Ne.symm n210) (ninc (Ne.symm n209) (ninc (Ne.symm n208) (ninc (Ne.symm n207) nin0))))))))))))), (hKeep.none (hKeep.trn w2 ((show hKeep [q1, xo, q1, nw_6, na_6, nq_6, nr_6, q22, nw_27, na_27, nq_27, nr_27, q43] f f3 from (by rw [ef3]; exact hKeep.up (by simp))).tr ((show hKeep [q1, xo, q1, nw_6, na_6, nq_6, nr_6, q22, nw_27, na_27, nq_27, nr_27, q43] f3 f5 from (k15.mono (fun x9 hx9 => by simp only [List.mem_cons, List.not_mem_nil, or_false] at hx9 ⊢; omega))).tr ((show hKeep [q1, xo, q1, nw_6, na_6, nq_6, nr_6, q22, nw_27, na_27, nq_27, nr_27, q43] f5 f20 from (by rw [ef20]; exact hKeep.up (by simp))).tr (hKeep.trn w23 ((show hKeep [q22, q1, xo, q1, nw_6, na_6, nq_6, nr_6, q22, nw_27, na_27, nq_27, nr_27, q43] f20 f24 from (by rw [ef24]; exact hKeep.up (by simp))).tr ((show hKeep [q22, q1, xo, q1, nw_6, na_6, nq_6, nr_6, q22, nw_27, na_27, nq_27, nr_27, q43] f24 f26 from (k36.mono (fun x9 hx9 => by simp only [List.mem_cons, List.not_mem_nil, or_false] at hx9 ⊢; omega))).tr ((show hKeep [q22, q1, xo, q1, nw_6, na_6, nq_6, nr_6, q22, nw_27, na_27, nq_27, nr_27, q43] f26 f41 from (by rw [ef41]; exact hKeep.up (by simp))).tr (hKeep.trn w44 (show hKeep [q43, q22, q1, xo, q1, nw_6, na_6, nq_6, nr_6, q22, nw_27, na_27, nq_27, nr_27, q43] f41 f45 from (by rw [ef45]; exact hKeep.up (by simp)))))))))))) wbf48 (ninc (Ne.symm n152) (ninc (Ne.symm n228) (ninc (Ne.symm n227) (ninc (Ne.symm n226) (ninc (Ne.symm n225) (ninc (Ne.symm n224) (ninc (Ne.symm n223) (ninc (Ne.symm n222) (ninc (Ne.symm n221) (ninc (Ne.symm n220) (ninc (Ne.symm n219) (ninc (Ne.symm n218) nin0))))))))))))), (hKeep.none (hKeep.trn w2 ((show hKeep [q1, xo, q1, nw_6, na_6, nq_6, nr_6, q22, nw_27, na_27, nq_27, nr_27, q43] f f3 from (by rw [ef3]; exact hKeep.up (by simp))).tr ((show hKeep [q1, xo, q1, nw_6, na_6, nq_6, nr_6, q22, nw_27, na_27, nq_27, nr_27, q43] f3 f5 from (k15.mono (fun x9 hx9 => by simp only [List.mem_cons, List.not_mem_nil, or_false] at hx9 ⊢; omega))).tr ((show hKeep [q1, xo, q1, nw_6, na_6, nq_6, nr_6, q22, nw_27, na_27, nq_27, nr_27, q43] f5 f20 from (by rw [ef20]; exact hKeep.up (by simp))).tr (hKeep.trn w23 ((show hKeep [q22, q1, xo, q1, nw_6, na_6, nq_6, nr_6, q22, nw_27, na_27, nq_27, nr_27, q43] f20 f24 from (by rw [ef24]; exact hKeep.up (by simp))).tr ((show hKeep [q22, q1, xo, q1, nw_6, na_6, nq_6, nr_6, q22, nw_27, na_27, nq_27, nr_27, q43] f24 f26 from (k36.mono (fun x9 hx9 => by simp only [List.mem_cons, List.not_mem_nil, or_false] at hx9 ⊢; omega))).tr ((show hKeep [q22, q1, xo, q1, nw_6, na_6, nq_6, nr_6, q22, nw_27, na_27, nq_27, nr_27, q43] f26 f41 from (by rw [ef41]; exact hKeep.up (by simp))).tr (hKeep.trn w44 (show hKeep [q43, q22, q1, xo, q1, nw_6, na_6, nq_6, nr_6, q22, nw_27, na_27, nq_27, nr_27, q43] f41 f45 from (by rw [ef45]; exact hKeep.up (by simp)))))))))))) wbl48 (ninc (Ne.symm n154) (ninc (Ne.symm n239) (ninc (Ne.symm n238) (ninc (Ne.symm n237) (ninc (Ne.symm n236) (ninc (Ne.symm n235) (ninc (Ne.symm n234) (ninc (Ne.symm n233) (ninc (Ne.symm n232) (ninc (Ne.symm n231) (ninc (Ne.symm n230) (ninc (Ne.symm n229) nin0))))))))))))), (hKeep.none (hKeep.trn w2 ((show hKeep [q1, xo, q1, nw_6, na_6, nq_6, nr_6, q22, nw_27, na_27, nq_27, nr_27, q43] f f3 from (by rw [ef3]; exact hKeep.up (by simp))).tr ((show hKeep [q1, xo, q1, nw_6, na_6, nq_6, nr_6, q22, nw_27, na_27, nq_27, nr_27, q43] f3 f5 from (k15.mono (fun x9 hx9 => by simp only [List.mem_cons, List.not_mem_nil, or_false] at hx9 ⊢; omega))).tr ((show hKeep [q1, xo, q1, nw_6, na_6, nq_6, nr_6, q22, nw_27, na_27, nq_27, nr_27, q43] f5 f20 from (by rw [ef20]; exact hKeep.up (by simp))).tr (hKeep.trn w23 ((show hKeep [q22, q1, xo, q1, nw_6, na_6, nq_6, nr_6, q22, nw_27, na_27, nq_27, nr_27, q43] f20 f24 from (by rw [ef24]; exact hKeep.up (by simp))).tr ((show hKeep [q22, q1, xo, q1, nw_6, na_6, nq_6, nr_6, q22, nw_27, na_27, nq_27, nr_27, q43] f24 f26 from (k36.mono (fun x9 hx9 => by simp only [List.mem_cons, List.not_mem_nil, or_false] at hx9 ⊢; omega))).tr ((show hKeep [q22, q1, xo, q1, nw_6, na_6, nq_6, nr_6, q22, nw_27, na_27, nq_27, nr_27, q43] f26 f41 from (by rw [ef41]; exact hKeep.up (by simp))).tr (hKeep.trn w44 (show hKeep [q43, q22, q1, xo, q1, nw_6, na_6, nq_6, nr_6, q22, nw_27, na_27, nq_27, nr_27, q43] f41 f45 from (by rw [ef45]; exact hKeep.up (by simp)))))))))))) wbg48 (ninc (Ne.symm n156) (ninc (Ne.symm n250) (ninc (Ne.symm n249) (ninc (Ne.symm n248) (ninc (Ne.symm n247) (ninc (Ne.symm n246) (ninc (Ne.symm n245) (ninc (Ne.symm n244) (ninc (Ne.symm n243) (ninc (Ne.symm n242) (ninc (Ne.symm n241) (ninc (Ne.symm n240) nin0))))))))))))), h65, h74, h84, h94, h104, h114, h119, h125, h131, h137, h143, h144, h145, h147, h149, h151, h153, h155, n69, n180, n12, n13, n165, n171, n177, n14, n164, n170, n176, n163, n169, n175, n33, n34, n35, n59, n60, (hKeep.trn w2 ((show hKeep [q1, xo] f f3 from (by rw [ef3]; exact hKeep.up (by simp))).tr ((show hKeep [q1, xo] f3 f5 from (k15.mono (fun x9 hx9 => by simp only [List.mem_cons, List.not_mem_nil, or_false] at hx9 ⊢; omega))).tr ((show hKeep [q1, xo] f5 f20 from (by rw [ef20]; exact hKeep.up (by simp))).tr (hKeep.trn w23 ((show hKeep [q22, q1, xo] f20 f24 from (by rw [ef24]; exact hKeep.up (by simp))).tr ((show hKeep [q22, q1, xo] f24 f26 from (k36.mono (fun x9 hx9 => by simp only [List.mem_cons, List.not_mem_nil, or_false] at hx9 ⊢; omega))).tr ((show hKeep [q22, q1, xo] f26 f41 from (by rw [ef41]; exact hKeep.up (by simp))).tr (hKeep.trn w44 ((show hKeep [q43, q22, q1, xo] f41 f45 from (by rw [ef45]; exact hKeep.up (by simp))).tr ((show hKeep [q43, q22, q1, xo] f45 f47 from (k57.mono (fun x9 hx9 => by simp only [List.mem_cons, List.not_mem_nil, or_false] at hx9 ⊢; omega))).tr (show hKeep [q43, q22, q1, xo] f47 f64 from (by rw [ef64]; exact hKeep.up (by simp)))))))))))))), ((show NF f f3 from (by rw [ef3]; exact NF.up (Nat.ne_of_beq_eq_false rfl))).tr (z16.tr ((show NF f5 f20 from (by rw [ef20]; exact NF.up (Nat.ne_of_beq_eq_false rfl))).tr ((show NF f20 f24 from (by rw [ef24]; exact NF.up (Nat.ne_of_beq_eq_false rfl))).tr (z37.tr ((show NF f26 f41 from (by rw [ef41]; exact NF.up (Nat.ne_of_beq_eq_false rfl))).tr ((show NF f41 f45 from (by rw [ef45]; exact NF.up (Nat.ne_of_beq_eq_false rfl))).tr (z58.tr (show NF f47 f64 from (by rw [ef64]; exact NF.up (Nat.ne_of_beq_eq_false rfl)))))))))))⟩)
end
section
/-! THE CLAIM OUT OF ONE WALK OF THE LAW'S BODY. Your part is whole_start (and what it stands on); all else here is the same for every law, but numbers. -/
def R_law : String := "OptionLineLaw"
def lw_P (b : Addr) (xs : List Int32) (args : Array Value) (s : State) : Prop := args = #[.ref b] ∧ s.IntsAt b xs ∧ xs.length ≤ 2048 ∧ (Jvm.Cond.and given_1 narrow_1).before args s = true
def lw_Q (_ : Array Value) (s : State) (o : Outcome) (t : State) : Prop := o = .returned (some (.int 1)) ∧ Framed s o t [] 601024 7293034
def lw_Z (below : List Frame) (a : Array Value) (s : State) : State → Prop := fun t => ∃ o, t.status = .running ∧ Ended t below o ∧ lw_Q a s o t
/-- the law's own end, with 1 on the stack, nothing written that was there before, its room as the claim has it -/
theorem lw_ret {p : Program} {l : Launch} {e : Env} {s : State} {m : MethodId} {below : List Frame} {meth : Method} {c : Code} {b : Nat} (hx : p.tables.exec = Jvm.exec) (hb : c.code = code) (hr : meth.sig.returnType = ret) (hlocks : meth.locks = false) {pc : Nat} {H : Heap} {ls : Array Slot} (hdg : decode code pc = .ok (.ireturn, 1)) : W p l e room_1 s m #[Value.ref b] below meth c H [] 601024 7293034 (lw_Z below #[Value.ref b] s) (F0 m pc ls [.int 1]) := by
  intro T hT X
  obtain ⟨fs, hret, hrun, hended, hW, hframe⟩ := X.leave (v := some (.int 1)) (hlocks := hlocks) (fun h => by rw [hr] at h; cases h)
  have hmeth' : T.vm.method? m = some meth := X.method'
  refine ⟨T.setFrames fs, ?_, .returned (some (.int 1)), hrun, hended, rfl, ⟨_, rfl⟩, hW, hframe⟩
  jvm_step X.here [X.here.top, hx, hb, hdg, hmeth', hr, ret, narrow_b1]
  (try refine ⟨rfl, ?_⟩); (try refine ⟨rfl, ?_⟩)
  first | (intro acts; rw [hret _ acts rfl rfl rfl]) | rw [hret _ _ rfl rfl rfl]
  exact Steps.refl _
/-- what holds at the law's entry: the machine, the code, the tables' words (any of lw_tbl by 'hts w (by decide +kernel)'), the script of L ints xs at the cell b, what the Statement gives of the start (any of its parts by flat_of_before) -/
def lw_At (p : Program) (s : State) (m : MethodId) (meth : Method) (c : Code) (b L : Nat) (xs : Nat → Int32) : Prop :=
  p.tables.exec = Jvm.exec ∧ c.code = code ∧ meth.sig.returnType = ret ∧ c.maxLocals = 7 ∧ s.vm.findClass R_law = some m.cls ∧ (∀ w ∈ lw_tbl, w.before #[Value.ref b] s = true) ∧ va_X b L xs s s.heap ∧ b < s.heap.size ∧ meth.locks = false ∧ (Jvm.Cond.and given_1 narrow_1).before #[Value.ref b] s = true
end
section
set_option maxHeartbeats 4000000 in
theorem lw_walk (l : Launch) (hflags : l.flags = flags0) (b : Addr) (xs : List Int32) : MetFree l x (headSpec (Jvm.Cond.code x code maxLocals ret :: tables_1) room_1) (lw_P b xs) (fun _ _ _ _ _ => True) lw_Q := by
  refine MetFree.of_bodyS (code := code) (maxLocals := maxLocals) (ret := ret) (by decide) ?_ ?_
  · intro args s m h hn
    obtain ⟨meth, c, h1, h2, h3, h4, h5, h6, -, -⟩ := Cond.code_spec hn (atoms_spec (ws := Jvm.Cond.code x code maxLocals ret :: tables_1) h _ List.mem_cons_self)
    exact ⟨meth, c, h1, h2, h3, h4, h5, h6⟩
  · intro p e s m args below meth c s₁ B hml0 hP _
    obtain ⟨rfl, hx, hbd, hgv⟩ := hP
    obtain ⟨scr, harrAt, hlist, hof, hsmall⟩ := hx
    obtain ⟨hcb, hkn, -, -⟩ := State.arrayAt?_spec harrAt
    have hown : s.vm.findClass R_law = some m.cls := findClass_of_methodNamed B.named
    have hts0 : ∀ c ∈ (Jvm.Cond.code x code maxLocals ret :: tables_1), c.before #[Value.ref b] s = true := atoms_spec (ws := Jvm.Cond.code x code maxLocals ret :: tables_1) B.pre
    have hts : ∀ w ∈ lw_tbl, w.before #[Value.ref b] s = true := k2_hts_sels lw_privs (fun w hw => hts0 w (List.mem_cons_of_mem _ hw)) lw_privs_ok
    have hml : c.maxLocals = 7 := B.maxLocals_eq (hts0 _ List.mem_cons_self)
    have X₀ : Stand p l e room_1 s m #[Value.ref b] below meth c s₁ [] 0 0 := Stand.of_body B
    have hh0 : s₁.heap = s.heap := by rw [B.state]; rfl
    have hsz : scr.slots.size = xs.length := by rw [← Array.length_toList, hlist, List.length_map]
    have hval : ∀ j : Nat, j < xs.length → scr.slots[j]? = some (.int (xs.getD j 0)) := fun j hj => by
      rw [← Array.getElem?_toList, hlist]
      simp [hj]
    have hbl : b < s.heap.size := (Array.getElem?_eq_some_iff.mp hcb).1
    have hX : va_X b xs.length (fun j => xs.getD j 0) s s.heap := ⟨scr, hcb, hof, hkn, hsz, hval⟩
    have K : W p l e room_1 s m #[Value.ref b] below meth c s₁.heap [] 0 0 (lw_Z below #[Value.ref b] s) (entryFrame m ([Value.ref b] : List Value).toArray 7) := by
      rw [hh0]
      exact whole_start l hflags hbd ⟨B.exec, B.bytes, B.returns, hml, hown, hts, hX, hbl, B.notSynchronized, hgv⟩
    obtain ⟨t, a1, o, b1, b2, b3⟩ := K s₁ rfl X₀
    exact ⟨t, o, a1, b1, b2, b3⟩
theorem lw_pre_spec {args : Array Value} {s : State} (h : (Jvm.Cond.and given_1 narrow_1).before args s = true) (hr : rest_1_c.before args s = true) : ∃ (b : Addr) (xs : List Int32), lw_P b xs args s := by
  have hs := flat_of_before _ h
  have hq := flat_of_before _ hr
  have hc : (Cond.count 1).before args s = true := hs _ (by decide +kernel)
  have harr : (Cond.arrayOf (.arg 0) .int).before args s = true := hs _ (by decide +kernel)
  have hle : (Cond.le (.length (.arg 0)) (.int 2048)).before args s = true := hs _ (by decide +kernel)
  have hlen : (Cond.isInt (.length (.arg 0))).before args s = true := hq _ (by decide +kernel)
  have hall : (Cond.all (.arg 0) (.isInt (.elem (.arg 0) (.index 0)))).before args s = true := hq _ (by decide +kernel)
  obtain ⟨b, xs, hb, hx⟩ := State.ints_of_pre rfl harr hlen hall
  have hsm : xs.length < 2 ^ 31 := hx.choose_spec.2.2.2
  have hev : (Term.length (.arg 0)).eval args s none [] s = some (.int xs.length.toInt32) := hx.length_eval hb
  have hv := Cond.le_ints hev (show (Term.int 2048).eval args s none [] s = some (.int 2048) from rfl)
  have hd : xs.length.toInt32 ≤ 2048 := by
    simpa [Cond.before, Cond.holds, hv] using hle
  have hN : xs.length ≤ 2048 := (Int32.ofNat_le_ofNat hsm (by decide)).mp (show Int32.ofNat xs.length ≤ Int32.ofNat 2048 from hd)
  exact ⟨b, xs, Cond.one_arg hc (show args[0]? = some (.ref b) from hb), hx, hN, h⟩
theorem lw_comes (l : Launch) (hflags : l.flags = flags0) : Comes l x (Jvm.Cond.code x code maxLocals ret :: tables_1) room_1 (fun tb e args s => Calls_1 tb e args s ∧ rest_1 tb e args s ∧ Pre_1 tb e args s)
    (fun _ _ args s o t => lw_Q args s o t) := by
  intro p e ha hc hk s m args below hf hfit hheap happ hpre
  obtain ⟨b, xs, hP⟩ := lw_pre_spec hpre.2.2 hpre.2.1
  obtain ⟨k, o, h1, h2, h3, hQ⟩ := lw_walk l hflags b xs p e ha hc hk s m args below hf ((Spec.applies_iff_loose hf).mp happ).1 hP trivial
  exact ⟨k, o, h1, h2, h3, hQ⟩
theorem lw_frame {s t : State} {o : Outcome} {args : Array Value} (h : Framed s o t [] 601024 7293034) :
    Framed s o t (fieldLocs frame_1_writes args s ++ arrayLocs frame_1_arrays args s ++ staticLocs frame_1_statics s) 601024 7293034 := h
theorem lw_limb (L : Cond) (hL : ∀ (args : Array Value) (s t : State), L.after args s (.returned (some (.int 1))) t = true) :
    ArmFor flags0 classFile x code maxLocals ret World_1 tables_1 room_1 Calls_1 rest_1 Pre_1
      (fun tb e a s o t => postC L tb e a s o t ∧ Framed s o t (fieldLocs frame_1_writes a s ++ arrayLocs frame_1_arrays a s ++ staticLocs frame_1_statics s) 601024 7293034) := by
  intro l hflags _ _ p e ha hc hk s m args below hf hfit hheap happ hpre
  obtain ⟨k, o, h1, h2, h3, rfl, hF⟩ := lw_comes l hflags p e ha hc hk s m args below hf hfit hheap happ hpre
  exact ⟨k, _, h1, h2, h3, hL args s _, lw_frame hF⟩
theorem i_vc : Claimed_1_1 ∧ Claimed_1_2 := ⟨lw_limb limb_1_1 (fun args s t => by simp [limb_1_1, Cond.after, Cond.holds, Cond.value]), lw_limb limb_1_2 (fun args s t => Cond.after_iff.mpr (by
  first | (rw [show limb_1_2 = Cond.eq .result (.int 1) from rfl, Cond.eq_ints (x := 1) (y := 1) rfl rfl]; simp; done) | (simp [limb_1_2, Cond.value, Term.eval]; done)))⟩
end
