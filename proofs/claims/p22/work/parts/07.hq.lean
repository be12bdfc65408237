/-! Making cells, calls, ends, throws, handlers. -/
section HQ9
variable {p : Program} {l : Launch} {e : Env} {R : Room} {s : State} {m : MethodId} {args : Array Value} {below : List Frame} {meth : Method} {c : Code} {H : Heap} {locs : List Loc} {cells slots : Nat} {Q : State → Prop}
variable {cc : ByteArray} {nL pc : Nat} {own : String} {G : hG} {f : hM} {ls : Array Slot} {rest : List Value} {a : Nat}
theorem hB.le (B0 : hB p l s m args meth c cc nL own G) : ∀ q : Nat, s.heap.size ≤ q → hFr G q := fun _ h => Nat.le_trans B0.2.2.2.2.2.2.1.2.2.2.2.2.2 h
theorem hpush_nin {L : List Nat} {g : Nat → va_E} {q : Nat} {e1 : va_E} {A : Nat → Prop} (hD1 : va_D A (([] ++ va_pl L g) ++ [(q, e1)])) : q ∉ L := fun hq => by
  obtain ⟨k, hk⟩ := va_pl_get (X := []) (f := g) hq
  have hl := (List.getElem?_eq_some_iff.mp hk).1
  have h1 : (([] ++ va_pl L g) ++ [(q, e1)])[k]? = some (q, g q) := by rw [List.getElem?_append_left hl]; exact hk
  have h2 : (([] ++ va_pl L g) ++ [(q, e1)])[([] ++ va_pl L g).length]? = some (q, e1) := by rw [List.getElem?_append_right (Nat.le_refl _), Nat.sub_self]; rfl
  have := hD1.1 _ _ _ _ h1 h2 rfl
  omega
theorem hW.push {L : List Nat} {g : Nat → va_E} {q : Nat} {e1 : va_E} {H1 : Heap} (hf : ∀ a e, f a = some e → a ∈ L ∧ g a = e) (hP1 : va_P G.1 hC (([] ++ va_pl L g) ++ [(q, e1)]) H1) (hD1 : va_D (hFr G) (([] ++ va_pl L g) ++ [(q, e1)])) : f q = none ∧ hW G (va_up f q (some e1)) H1 := by
  have hq : q ∉ L := hpush_nin hD1
  have e9 : (([] ++ va_pl L g) ++ [(q, e1)]) = va_pl (L ++ [q]) (va_up g q e1) := by rw [List.nil_append]; exact va_pl_push hq
  have h0 : f q = none := by
    cases h : f q with
    | none => rfl
    | some x => exact absurd (hf q x h).1 hq
  rw [e9] at hP1 hD1
  refine ⟨h0, L ++ [q], va_up g q e1, fun b x hb => ?_, hP1, hD1⟩
  by_cases hba : b = q
  · rw [hba, va_up_self] at hb
    cases hb
    rw [hba, va_up_self]
    exact ⟨List.mem_append_right _ List.mem_cons_self, rfl⟩
  · rw [va_up_ne _ _ hba] at hb
    rw [va_up_ne _ _ hba]
    obtain ⟨h1, h2⟩ := hf b x hb
    exact ⟨List.mem_append_left _ h1, h2⟩
theorem hp_new (B0 : hB p l s m args meth c cc nL own G) (hw : hW G f H) (hS : va_S (hFr G) s.heap H locs) (ci : Nat) {C : String} {T : u_T} {N : Nat} (hc : hC[ci]? = some (C, T, N)) (hin : ∀ w ∈ u_ws C T N, w ∈ gW) (ty0 : Nat → FieldType) (hty : ∀ k, k < N → parseFieldDescriptor (T k).2.2.1 = some (ty0 k)) {index : Nat} (hcl : Cond.classLink own index C ∈ gW) (hinst : Cond.instantiable C N ∈ gW) (hini : Cond.initialized C ∈ gW) {fs : List Value} (hfs : ∀ j, j < N → defaultValue (ty0 j) = vp_V fs j) (hcells : cells + 1 ≤ R.cells) (hslots : slots + N ≤ R.slots) (hdg : decode cc pc = .ok (.new index, 3))
    (kk : ∀ (q : Nat) (H1 : Heap) (f1 : hM), f q = none → f1 = va_up f q (some (.inr (ci, fs))) → hW G f1 H1 → va_S (hFr G) s.heap H1 locs → W p l e R s m args below meth c H1 locs (cells + 1) (slots + N) Q (F0 m (pc + 3) ls (.ref q :: rest))) : W p l e R s m args below meth c H locs cells slots Q (F0 m pc ls rest) := by
  have hA := B0.le
  obtain ⟨hx, hb, hml, hown, hts, hlk, hk0, hl9⟩ := B0
  obtain ⟨L, g, hf, hP, hD⟩ := hw
  exact va_new (D := G.1) (cl := hC) (tys := hTy G) (ws := [] ++ va_pl L g) hx hb hts hin ty0 hty hown (hts _ hcl) (hts _ hinst) (hts _ hini) hk0.1 hP hD hS hA hc hfs hcells hslots hdg (fun q H1 hP1 hD1 hS1 => by
    obtain ⟨h0, hw1⟩ := hW.push hf hP1 hD1
    exact kk q H1 _ h0 rfl hw1 hS1)
theorem hcls_of {U : State} {cA cB : ClassId} {ty : FieldType} (h1 : va_RA U cA ty) (h2 : va_RA U cB ty) (hp : ∀ C, ty ≠ .object C) : cA = cB := by
  cases ty <;> first | (exact absurd rfl (hp _)) | (exact Option.some.inj (Eq.trans (Eq.symm h1) h2))
theorem hp_newaI (B0 : hB p l s m args meth c cc nL own G) (hw : hW G f H) (hS : va_S (hFr G) s.heap H locs) (harr : Cond.arrayClass .int ∈ gW) {n : Int32} {N' : Nat} (hn : ¬ n < 0) (hN : n.toNatClampNeg = N') (hbytes : N' * componentBytes .int ≤ 536870912) (hcells : cells + 1 ≤ R.cells) (hslots : slots + N' ≤ R.slots) (hdg : decode cc pc = .ok (.newarray .int, 2))
    (kk : ∀ (q : Nat) (H1 : Heap) (f1 : hM), f q = none → f1 = va_up f q (some (.inl (cI G, N', .inl (fun _ => 0)))) → hW G f1 H1 → va_S (hFr G) s.heap H1 locs → W p l e R s m args below meth c H1 locs (cells + 1) (slots + N') Q (F0 m (pc + 2) ls (.ref q :: rest))) : W p l e R s m args below meth c H locs cells slots Q (F0 m pc ls (.int n :: rest)) := by
  have hA := B0.le
  obtain ⟨hx, hb, hml, hown, hts, hlk, hk0, hl9⟩ := B0
  obtain ⟨L, g, hf, hP, hD⟩ := hw
  refine va_newa (atype := .int) (ty := .int) (D := G.1) (cl := hC) (tys := hTy G) (ws := [] ++ va_pl L g) (a0 := (N', .inl (fun _ => 0))) hx hb (hts _ harr) rfl hk0.1 hP hD hS hA (fun cA => rfl) hn hN hbytes hcells hslots hdg (fun q cA H1 hK1 hP1 hD1 hS1 => ?_)
  have hcc : cA = cI G := hcls_of (hK1.2 3 (cA, .int) rfl).2 (hk0.1.2 0 (cI G, .int) rfl).2 (fun C h => by cases h)
  rw [hcc] at hP1 hD1
  obtain ⟨h0, hw1⟩ := hW.push hf hP1 hD1
  exact kk q H1 _ h0 rfl hw1 hS1
theorem hp_newaZ (B0 : hB p l s m args meth c cc nL own G) (hw : hW G f H) (hS : va_S (hFr G) s.heap H locs) (harr : Cond.arrayClass .boolean ∈ gW) {n : Int32} {N' : Nat} (hn : ¬ n < 0) (hN : n.toNatClampNeg = N') (hbytes : N' * componentBytes .boolean ≤ 536870912) (hcells : cells + 1 ≤ R.cells) (hslots : slots + N' ≤ R.slots) (hdg : decode cc pc = .ok (.newarray .boolean, 2))
    (kk : ∀ (q : Nat) (H1 : Heap) (f1 : hM), f q = none → f1 = va_up f q (some (.inl (cZ G, N', .inl (fun _ => 0)))) → hW G f1 H1 → va_S (hFr G) s.heap H1 locs → W p l e R s m args below meth c H1 locs (cells + 1) (slots + N') Q (F0 m (pc + 2) ls (.ref q :: rest))) : W p l e R s m args below meth c H locs cells slots Q (F0 m pc ls (.int n :: rest)) := by
  have hA := B0.le
  obtain ⟨hx, hb, hml, hown, hts, hlk, hk0, hl9⟩ := B0
  obtain ⟨L, g, hf, hP, hD⟩ := hw
  refine va_newa (atype := .boolean) (ty := .boolean) (D := G.1) (cl := hC) (tys := hTy G) (ws := [] ++ va_pl L g) (a0 := (N', .inl (fun _ => 0))) hx hb (hts _ harr) rfl hk0.1 hP hD hS hA (fun cA => rfl) hn hN hbytes hcells hslots hdg (fun q cA H1 hK1 hP1 hD1 hS1 => ?_)
  have hcc : cA = cZ G := hcls_of (hK1.2 3 (cA, .boolean) rfl).2 (hk0.1.2 1 (cZ G, .boolean) rfl).2 (fun C h => by cases h)
  rw [hcc] at hP1 hD1
  obtain ⟨h0, hw1⟩ := hW.push hf hP1 hD1
  exact kk q H1 _ h0 rfl hw1 hS1
theorem hp_newaJ (B0 : hB p l s m args meth c cc nL own G) (hw : hW G f H) (hS : va_S (hFr G) s.heap H locs) (harr : Cond.arrayClass .long ∈ gW) {n : Int32} {N' : Nat} (hn : ¬ n < 0) (hN : n.toNatClampNeg = N') (hbytes : N' * componentBytes .long ≤ 536870912) (hcells : cells + 1 ≤ R.cells) (hslots : slots + N' ≤ R.slots) (hdg : decode cc pc = .ok (.newarray .long, 2))
    (kk : ∀ (q : Nat) (H1 : Heap) (f1 : hM), f q = none → f1 = va_up f q (some (.inl (cJ G, N', .inr (.inl (fun _ => 0))))) → hW G f1 H1 → va_S (hFr G) s.heap H1 locs → W p l e R s m args below meth c H1 locs (cells + 1) (slots + N') Q (F0 m (pc + 2) ls (.ref q :: rest))) : W p l e R s m args below meth c H locs cells slots Q (F0 m pc ls (.int n :: rest)) := by
  have hA := B0.le
  obtain ⟨hx, hb, hml, hown, hts, hlk, hk0, hl9⟩ := B0
  obtain ⟨L, g, hf, hP, hD⟩ := hw
  refine va_newa (atype := .long) (ty := .long) (D := G.1) (cl := hC) (tys := hTy G) (ws := [] ++ va_pl L g) (a0 := (N', .inr (.inl (fun _ => 0)))) hx hb (hts _ harr) rfl hk0.1 hP hD hS hA (fun cA => rfl) hn hN hbytes hcells hslots hdg (fun q cA H1 hK1 hP1 hD1 hS1 => ?_)
  have hcc : cA = cJ G := hcls_of (hK1.2 3 (cA, .long) rfl).2 (hk0.1.2 2 (cJ G, .long) rfl).2 (fun C h => by cases h)
  rw [hcc] at hP1 hD1
  obtain ⟨h0, hw1⟩ := hW.push hf hP1 hD1
  exact kk q H1 _ h0 rfl hw1 hS1
theorem hp_alenI (B0 : hB p l s m args meth c cc nL own G) (hw : hW G f H) {n : Nat} {x : Nat → Int32} (ha : f a = some (.inl (cI G, n, .inl x))) {v : Int32} (hv : Int32.ofNat n = v) (hdg : decode cc pc = .ok (.arraylength, 1))
    (kk : W p l e R s m args below meth c H locs cells slots Q (F0 m (pc + 1) ls (.int v :: rest))) : W p l e R s m args below meth c H locs cells slots Q (F0 m pc ls (.ref a :: rest)) := by
  obtain ⟨hx, hb, hml, hown, hts, hlk, hk0, hl⟩ := B0
  obtain ⟨L, g, hf, hP, hD⟩ := hw
  obtain ⟨hL, hg⟩ := hf a _ ha
  obtain ⟨j, hj⟩ := va_pl_get (X := []) (f := g) hL
  rw [hg] at hj
  exact va_alen (D := G.1) (cl := hC) (tys := hTy G) hx hb hk0.1 hP j 0 hj (ty := .int) rfl hv hdg kk
theorem hp_alenZ (B0 : hB p l s m args meth c cc nL own G) (hw : hW G f H) {n : Nat} {x : Nat → Int32} (ha : f a = some (.inl (cZ G, n, .inl x))) {v : Int32} (hv : Int32.ofNat n = v) (hdg : decode cc pc = .ok (.arraylength, 1))
    (kk : W p l e R s m args below meth c H locs cells slots Q (F0 m (pc + 1) ls (.int v :: rest))) : W p l e R s m args below meth c H locs cells slots Q (F0 m pc ls (.ref a :: rest)) := by
  obtain ⟨hx, hb, hml, hown, hts, hlk, hk0, hl⟩ := B0
  obtain ⟨L, g, hf, hP, hD⟩ := hw
  obtain ⟨hL, hg⟩ := hf a _ ha
  obtain ⟨j, hj⟩ := va_pl_get (X := []) (f := g) hL
  rw [hg] at hj
  exact va_alen (D := G.1) (cl := hC) (tys := hTy G) hx hb hk0.1 hP j 1 hj (ty := .boolean) rfl hv hdg kk
/-! calls -/
theorem hp_go {mc ms : Nat} {st0 : List Value} {av : Array Value} {P : Option Value → hM → Prop} {PX : String → hM → Prop} (B0 : hB p l s m args meth c cc nL own G) (hS : va_S (hFr G) s.heap H locs)
    (hr : vx_Run p l e R s m args below meth c H locs cells slots mc ms (F0 m pc ls st0) rest (hQ G P av) (hX G PX) (hFr G))
    (kx : ∀ (E : String) (ce : Cell) (q9 : Addr) (f1 : hM) (H1 : Heap) (locs1 : List Loc), PX E f1 → hW G f1 H1 → va_S (hFr G) s.heap H1 locs1 → H1[q9]? = some ce → ce.vm = .none → s.vm.findClass E = some ce.cls → vx_W p l e R s m args below meth c H1 locs1 (cells + mc) (slots + ms) Q (F0 m pc ls rest) q9)
    (kk : ∀ (v : Option Value) (f1 : hM) (H1 : Heap) (locs1 : List Loc), P v f1 → hW G f1 H1 → va_S (hFr G) s.heap H1 locs1 → W p l e R s m args below meth c H1 locs1 (cells + mc) (slots + ms) Q (F0 m (pc + 3) ls (v.toList ++ rest))) : W p l e R s m args below meth c H locs cells slots Q (F0 m pc ls st0) := by
  intro T hT X
  rcases hr T hT X with ⟨v, st₀, t, T', L, h0, X', hL, e1, e2, ⟨⟨v2, f1, hv, hp, hw1⟩, hF⟩, st⟩ | ⟨q, st₀, t, T', L, E, ce, h0, X', hL, e1, e2, ⟨⟨f1, hp, hw1⟩, hF⟩, hce, hcv, hcl, st⟩
  · cases hv
    obtain ⟨k1, k2, k3⟩ := vx_keep h0 e1 hS (fun _ _ h => h) (fun _ h => h) hL hF
    obtain ⟨t2, a1, b1⟩ := kk v f1 T'.heap (locs ++ L) hp (by rw [e1]; exact hw1) k3 T' rfl X'
    exact ⟨t2, st t2 a1, b1⟩
  · obtain ⟨k1, k2, k3⟩ := vx_keep h0 e1 hS (fun _ _ h => h) (fun _ h => h) hL hF
    obtain ⟨t2, a1, b1⟩ := kx E ce q f1 T'.heap (locs ++ L) hp (by rw [e1]; exact hw1) k3 (by rw [e1]; exact hce) hcv hcl T' rfl X'
    exact ⟨t2, st.trans a1, b1⟩
theorem hPc_of {av : List Value} (B0 : hB p l s m args meth c cc nL own G) (hw : hW G f H) (hS : va_S (hFr G) s.heap H locs) : ∀ U : State, U.heap = H → s.WarmedH U.vm → hPre G av f av.toArray U := fun U hU hW9 =>
  ⟨rfl, hK.warm B0.2.2.2.2.2.2.1 hW9 (by rw [hU]; exact hS.1) (fun q h1 h2 => by rw [hU]; exact hS.2.1 q h1 h2), by rw [hU]; exact hw⟩
theorem hcell_of {ci : Nat} {C : String} {T : u_T} {N : Nat} {fs : List Value} {b : Nat} (B0 : hB p l s m args meth c cc nL own G) (hw : hW G f H) (hc : hC[ci]? = some (C, T, N)) (hb : f b = some (.inr (ci, fs))) : ∃ cellB : Cell, H[b]? = some cellB ∧ cellB.vm.isStatics = false ∧ s.vm.findClass C = some cellB.cls := by
  obtain ⟨L, g, hf, hP, hD⟩ := hw
  obtain ⟨hL, hg⟩ := hf b _ hb
  obtain ⟨j, hj⟩ := va_pl_get (X := []) (f := g) hL
  rw [hg] at hj
  exact va_recv (q := (C, T, N)) B0.2.2.2.2.2.2.1.1 hP hc hj
/-- an instance method: its words, once for all calls -/
def hMV (y : MethodName) (bytes : ByteArray) (maxL : Nat) (ret : Option FieldType) (n : Nat) : Prop :=
  Cond.code y bytes maxL ret ∈ gW ∧ Cond.instanceMethod y ∈ gW ∧ Cond.selects y.cls y y ∈ gW ∧ Cond.initialized y.cls ∈ gW ∧ (y.cls ≠ "java/lang/invoke/MethodHandle" ∧ y.cls ≠ "java/lang/invoke/VarHandle") ∧ (parseMethodDescriptor y.desc).map (fun d => d.parameters.length) = some n
def hMS (y : MethodName) (bytes : ByteArray) (maxL : Nat) (ret : Option FieldType) (n : Nat) : Prop :=
  Cond.code y bytes maxL ret ∈ gW ∧ Cond.static y ∈ gW ∧ Cond.initialized y.cls ∈ gW ∧ (y.cls ≠ "java/lang/invoke/MethodHandle" ∧ y.cls ≠ "java/lang/invoke/VarHandle") ∧ (parseMethodDescriptor y.desc).map (fun d => d.parameters.length) = some n
def hMI (y : MethodName) (bytes : ByteArray) (maxL : Nat) (n : Nat) : Prop :=
  Cond.code y bytes maxL none ∈ gW ∧ Cond.instanceMethod y ∈ gW ∧ Cond.initialized y.cls ∈ gW ∧ y.name = "<init>" ∧ (y.cls ≠ "java/lang/invoke/MethodHandle" ∧ y.cls ≠ "java/lang/invoke/VarHandle") ∧ (parseMethodDescriptor y.desc).map (fun d => d.parameters.length) = some n
theorem hlen_of {y : MethodName} {n : Nat} (h2 : (parseMethodDescriptor y.desc).map (fun d => d.parameters.length) = some n) : ∀ sig, parseMethodDescriptor y.desc = some sig → n = sig.parameters.length := fun sig h => by
  rw [h] at h2
  exact (Option.some.inj h2).symm
theorem hp_V {y : MethodName} {bytes : ByteArray} {maxL n index : Nat} {ret : Option FieldType} {fr lo mc ms ci : Nat} {T : u_T} {N : Nat} {fs As st0 : List Value} {b : Nat} {P : Option Value → hM → Prop} {PX : String → hM → Prop} (B0 : hB p l s m args meth c cc nL own G) (hw : hW G f H) (hS : va_S (hFr G) s.heap H locs)
    (hM9 : CT l y (.code y bytes maxL ret) fr lo mc ms G (.ref b :: As) f P PX) (hm : hMV y bytes maxL ret n) (hlm : Cond.methodLink own index y ∈ gW) (hc : hC[ci]? = some (y.cls, T, N)) (hb : f b = some (.inr (ci, fs))) (hst : st0 = As.reverse ++ .ref b :: rest) (hn : As.length = n) (hsz : ls.size = nL) (hroom : (rest.map fun v => v.category).sum ≤ 8)
    (hR : (fr + 1 ≤ R.frames ∧ 8 + (maxL + 11) + lo ≤ R.locals) ∧ cells + mc ≤ R.cells ∧ slots + ms ≤ R.slots) (hdg : decode cc pc = .ok (.invokevirtual index, 3))
    (kx : ∀ (E : String) (ce : Cell) (q9 : Addr) (f1 : hM) (H1 : Heap) (locs1 : List Loc), PX E f1 → hW G f1 H1 → va_S (hFr G) s.heap H1 locs1 → H1[q9]? = some ce → ce.vm = .none → s.vm.findClass E = some ce.cls → vx_W p l e R s m args below meth c H1 locs1 (cells + mc) (slots + ms) Q (F0 m pc ls rest) q9)
    (kk : ∀ (v : Option Value) (f1 : hM) (H1 : Heap) (locs1 : List Loc), P v f1 → hW G f1 H1 → va_S (hFr G) s.heap H1 locs1 → W p l e R s m args below meth c H1 locs1 (cells + mc) (slots + ms) Q (F0 m (pc + 3) ls (v.toList ++ rest))) : W p l e R s m args below meth c H locs cells slots Q (F0 m pc ls st0) := by
  have B1 := B0
  obtain ⟨hx, hb9, hml, hown, hts, hlk, hk0, hl⟩ := B0
  obtain ⟨m1, m2, m3, m4, m5, m6⟩ := hm
  exact hp_go B1 hS (vx_runV (C := y.cls) (ws := Cond.code y bytes maxL ret :: gW) (rm := { frames := fr, cells := mc, slots := ms, locals := lo }) (Ts := gW) (bytes := bytes) (maxL := maxL) (ret := ret) (n := n) (As := As) (rest := rest) ⟨hx, hb9, hml, hown, hts⟩ hM9
    ⟨⟨rfl, rfl, hR.1.1, hR.1.2, gW_pay hts m1, List.mem_cons_self, hts _ m1, hts _ m4, m5, hlen_of m6, hts _ hlm⟩, hts _ m2, hts _ m3⟩
    ⟨hPre.blind, hcell_of B1 hw hc hb, hPc_of B1 hw hS⟩ rfl hn hsz hst (lv_room hroom) hdg hR.2) kx kk
theorem hp_S {y : MethodName} {bytes : ByteArray} {maxL n index : Nat} {ret : Option FieldType} {fr lo mc ms : Nat} {As st0 : List Value} {P : Option Value → hM → Prop} {PX : String → hM → Prop} (B0 : hB p l s m args meth c cc nL own G) (hw : hW G f H) (hS : va_S (hFr G) s.heap H locs)
    (hM9 : CT l y (.code y bytes maxL ret) fr lo mc ms G As f P PX) (hm : hMS y bytes maxL ret n) (hlm : Cond.methodLink own index y ∈ gW) (hst : st0 = As.reverse ++ rest) (hn : As.length = n) (hsz : ls.size = nL) (hroom : (rest.map fun v => v.category).sum ≤ 8)
    (hR : (fr + 1 ≤ R.frames ∧ 8 + (maxL + 11) + lo ≤ R.locals) ∧ cells + mc ≤ R.cells ∧ slots + ms ≤ R.slots) (hdg : decode cc pc = .ok (.invokestatic index, 3))
    (kx : ∀ (E : String) (ce : Cell) (q9 : Addr) (f1 : hM) (H1 : Heap) (locs1 : List Loc), PX E f1 → hW G f1 H1 → va_S (hFr G) s.heap H1 locs1 → H1[q9]? = some ce → ce.vm = .none → s.vm.findClass E = some ce.cls → vx_W p l e R s m args below meth c H1 locs1 (cells + mc) (slots + ms) Q (F0 m pc ls rest) q9)
    (kk : ∀ (v : Option Value) (f1 : hM) (H1 : Heap) (locs1 : List Loc), P v f1 → hW G f1 H1 → va_S (hFr G) s.heap H1 locs1 → W p l e R s m args below meth c H1 locs1 (cells + mc) (slots + ms) Q (F0 m (pc + 3) ls (v.toList ++ rest))) : W p l e R s m args below meth c H locs cells slots Q (F0 m pc ls st0) := by
  have B1 := B0
  obtain ⟨hx, hb9, hml, hown, hts, hlk, hk0, hl⟩ := B0
  obtain ⟨m1, m2, m4, m5, m6⟩ := hm
  exact hp_go B1 hS (vx_runS (ws := Cond.code y bytes maxL ret :: gW) (rm := { frames := fr, cells := mc, slots := ms, locals := lo }) (Ts := gW) (bytes := bytes) (maxL := maxL) (ret := ret) (n := n) (As := As) (rest := rest) ⟨hx, hb9, hml, hown, hts⟩ hM9
    ⟨⟨rfl, rfl, hR.1.1, hR.1.2, gW_pay hts m1, List.mem_cons_self, hts _ m1, hts _ m4, m5, hlen_of m6, hts _ hlm⟩, hts _ m2⟩
    ⟨hPre.blind, hPc_of B1 hw hS⟩ rfl hn hsz hst (lv_room hroom) hdg hR.2) kx kk
theorem hp_I {y : MethodName} {bytes : ByteArray} {maxL n index : Nat} {fr lo mc ms : Nat} {As st0 : List Value} {b : Nat} {P : Option Value → hM → Prop} {PX : String → hM → Prop} (B0 : hB p l s m args meth c cc nL own G) (hw : hW G f H) (hS : va_S (hFr G) s.heap H locs)
    (hM9 : CT l y (.code y bytes maxL none) fr lo mc ms G (.ref b :: As) f P PX) (hm : hMI y bytes maxL n) (hlm : Cond.methodLink own index y ∈ gW) (hst : st0 = As.reverse ++ .ref b :: rest) (hn : As.length = n) (hsz : ls.size = nL) (hroom : (rest.map fun v => v.category).sum ≤ 8)
    (hR : (fr + 1 ≤ R.frames ∧ 8 + (maxL + 11) + lo ≤ R.locals) ∧ cells + mc ≤ R.cells ∧ slots + ms ≤ R.slots) (hdg : decode cc pc = .ok (.invokespecial index, 3))
    (kx : ∀ (E : String) (ce : Cell) (q9 : Addr) (f1 : hM) (H1 : Heap) (locs1 : List Loc), PX E f1 → hW G f1 H1 → va_S (hFr G) s.heap H1 locs1 → H1[q9]? = some ce → ce.vm = .none → s.vm.findClass E = some ce.cls → vx_W p l e R s m args below meth c H1 locs1 (cells + mc) (slots + ms) Q (F0 m pc ls rest) q9)
    (kk : ∀ (v : Option Value) (f1 : hM) (H1 : Heap) (locs1 : List Loc), P v f1 → hW G f1 H1 → va_S (hFr G) s.heap H1 locs1 → W p l e R s m args below meth c H1 locs1 (cells + mc) (slots + ms) Q (F0 m (pc + 3) ls (v.toList ++ rest))) : W p l e R s m args below meth c H locs cells slots Q (F0 m pc ls st0) := by
  have B1 := B0
  obtain ⟨hx, hb9, hml, hown, hts, hlk, hk0, hl⟩ := B0
  obtain ⟨m1, m2, m4, m7, m5, m6⟩ := hm
  exact hp_go B1 hS (vx_runI (ws := Cond.code y bytes maxL none :: gW) (rm := { frames := fr, cells := mc, slots := ms, locals := lo }) (Ts := gW) (bytes := bytes) (maxL := maxL) (n := n) (As := As) (rest := rest) ⟨hx, hb9, hml, hown, hts⟩ hM9
    ⟨⟨rfl, rfl, hR.1.1, hR.1.2, gW_pay hts m1, List.mem_cons_self, hts _ m1, hts _ m4, m5, hlen_of m6, hts _ hlm⟩, m7, hts _ m2⟩
    ⟨hPre.blind, hPc_of B1 hw hS⟩ rfl hn hsz hst (lv_room hroom) hdg hR.2) kx kk
theorem hp_IN {host : String} {y : MethodName} {bytes : ByteArray} {maxL n index : Nat} {fr lo mc ms : Nat} {As st0 : List Value} {b : Nat} {P : Option Value → hM → Prop} {PX : String → hM → Prop} (B0 : hB p l s m args meth c cc nL own G) (hw : hW G f H) (hS : va_S (hFr G) s.heap H locs)
    (hM9 : CT l y (.code y bytes maxL none) fr lo mc ms G (.ref b :: As) f P PX) (hm : hMI y bytes maxL n) (hlm : Cond.methodLinkNest own index y host ∈ hOt) (hst : st0 = As.reverse ++ .ref b :: rest) (hn : As.length = n) (hsz : ls.size = nL) (hroom : (rest.map fun v => v.category).sum ≤ 8)
    (hR : (fr + 1 ≤ R.frames ∧ 8 + (maxL + 11) + lo ≤ R.locals) ∧ cells + mc ≤ R.cells ∧ slots + ms ≤ R.slots) (hdg : decode cc pc = .ok (.invokespecial index, 3))
    (kx : ∀ (E : String) (ce : Cell) (q9 : Addr) (f1 : hM) (H1 : Heap) (locs1 : List Loc), PX E f1 → hW G f1 H1 → va_S (hFr G) s.heap H1 locs1 → H1[q9]? = some ce → ce.vm = .none → s.vm.findClass E = some ce.cls → vx_W p l e R s m args below meth c H1 locs1 (cells + mc) (slots + ms) Q (F0 m pc ls rest) q9)
    (kk : ∀ (v : Option Value) (f1 : hM) (H1 : Heap) (locs1 : List Loc), P v f1 → hW G f1 H1 → va_S (hFr G) s.heap H1 locs1 → W p l e R s m args below meth c H1 locs1 (cells + mc) (slots + ms) Q (F0 m (pc + 3) ls (v.toList ++ rest))) : W p l e R s m args below meth c H locs cells slots Q (F0 m pc ls st0) := by
  have B1 := B0
  obtain ⟨hx, hb9, hml, hown, hts, hlk, hk0, hl⟩ := B0
  obtain ⟨m1, m2, m4, m7, m5, m6⟩ := hm
  exact hp_go B1 hS (vx_runIN (host := host) (ws := Cond.code y bytes maxL none :: gW) (rm := { frames := fr, cells := mc, slots := ms, locals := lo }) (Ts := gW) (bytes := bytes) (maxL := maxL) (n := n) (As := As) (rest := rest) ⟨hx, hb9, hml, hown, hts⟩ hM9
    ⟨⟨⟨rfl, rfl, hR.1.1, hR.1.2, gW_pay hts m1, List.mem_cons_self⟩, hts _ m1, hts _ m4, m5, hlen_of m6, va_Nw.use rfl (hk0.2.2.2.1 _ hlm)⟩, m7, hts _ m2⟩
    ⟨hPre.blind, hPc_of B1 hw hS⟩ rfl hn hsz hst (lv_room hroom) hdg hR.2) kx kk
/-! ends -/
variable {P : Option Value → hM → Prop} {PX : String → hM → Prop} {mc ms : Nat}
theorem hp_iret {v : Int32} (B0 : hB p l s m args meth c cc nL own G) (hw : hW G f H) (hS : va_S (hFr G) s.heap H locs) (hr : meth.sig.returnType = some .int) (hcs : cells ≤ mc ∧ slots ≤ ms) (hdg : decode cc pc = .ok (.ireturn, 1)) (hP : P (some (.int v)) f) : W p l e R s m args below meth c H locs cells slots (vx_MQ below (hQ G P) (hX G PX) args s mc ms (hFr G)) (F0 m pc ls [.int v]) := by
  obtain ⟨hx, hb, hml, hown, hts, hlk, hk0, hl⟩ := B0
  exact W.widen hcs.1 hcs.2 (vx_ret (W.iret (v := v) hx hb hr (fun t ht _ => ⟨⟨_, f, rfl, hP, by rw [ht]; exact hw⟩, hS.F ht⟩) hS.2.2 hdg hlk))
theorem hp_zret {v : Int32} (B0 : hB p l s m args meth c cc nL own G) (hw : hW G f H) (hS : va_S (hFr G) s.heap H locs) (hr : meth.sig.returnType = some .boolean) (hcs : cells ≤ mc ∧ slots ≤ ms) (hn : narrow .boolean (.int v) = .int v) (hdg : decode cc pc = .ok (.ireturn, 1)) (hP : P (some (.int v)) f) : W p l e R s m args below meth c H locs cells slots (vx_MQ below (hQ G P) (hX G PX) args s mc ms (hFr G)) (F0 m pc ls [.int v]) := by
  obtain ⟨hx, hb, hml, hown, hts, hlk, hk0, hl⟩ := B0
  exact W.widen hcs.1 hcs.2 (vx_ret (W.zret (v := v) (ty := .boolean) hx hb hr hn (fun t ht _ => ⟨⟨_, f, rfl, hP, by rw [ht]; exact hw⟩, hS.F ht⟩) hS.2.2 hdg hlk))
theorem hp_vret (B0 : hB p l s m args meth c cc nL own G) (hw : hW G f H) (hS : va_S (hFr G) s.heap H locs) (hr : meth.sig.returnType = none) (hcs : cells ≤ mc ∧ slots ≤ ms) (hdg : decode cc pc = .ok (.return_, 1)) (hP : P none f) : W p l e R s m args below meth c H locs cells slots (vx_MQ below (hQ G P) (hX G PX) args s mc ms (hFr G)) (F0 m pc ls []) := by
  obtain ⟨hx, hb, hml, hown, hts, hlk, hk0, hl⟩ := B0
  exact W.widen hcs.1 hcs.2 (vx_ret (W.vret hx hb hr (fun t ht _ => ⟨⟨_, f, rfl, hP, by rw [ht]; exact hw⟩, hS.F ht⟩) hS.2.2 hdg hlk))
theorem hp_aret {v : Value} {rt : FieldType} (B0 : hB p l s m args meth c cc nL own G) (hw : hW G f H) (hS : va_S (hFr G) s.heap H locs) (hr : meth.sig.returnType = some rt) (hrt : (∃ n, rt = .object n) ∨ ∃ t, rt = .array t) (hv : v = .null ∨ ∃ a, v = .ref a) (hcs : cells ≤ mc ∧ slots ≤ ms) (hdg : decode cc pc = .ok (.areturn, 1)) (hP : P (some v) f) : W p l e R s m args below meth c H locs cells slots (vx_MQ below (hQ G P) (hX G PX) args s mc ms (hFr G)) (F0 m pc ls [v]) := by
  obtain ⟨hx, hb, hml, hown, hts, hlk, hk0, hl⟩ := B0
  exact W.widen hcs.1 hcs.2 (vx_ret (W.aret (v := v) hx hb hr hrt hv (fun t ht _ => ⟨⟨_, f, rfl, hP, by rw [ht]; exact hw⟩, hS.F ht⟩) hS.2.2 hdg hlk))
theorem hp_lret {v : Int64} (B0 : hB p l s m args meth c cc nL own G) (hw : hW G f H) (hS : va_S (hFr G) s.heap H locs) (hr : meth.sig.returnType = some .long) (hcs : cells ≤ mc ∧ slots ≤ ms) (hdg : decode cc pc = .ok (.lreturn, 1)) (hP : P (some (.long v)) f) : W p l e R s m args below meth c H locs cells slots (vx_MQ below (hQ G P) (hX G PX) args s mc ms (hFr G)) (F0 m pc ls [.long v]) := by
  obtain ⟨hx, hb, hml, hown, hts, hlk, hk0, hl⟩ := B0
  exact W.widen hcs.1 hcs.2 (vx_ret (W.lret (v := v) hx hb hr (fun t ht _ => ⟨⟨_, f, rfl, hP, by rw [ht]; exact hw⟩, hS.F ht⟩) hS.2.2 hdg hlk))
/-- a callee's throw goes on to the caller -/
theorem hp_out {E : String} {ce : Cell} {q : Addr} (B0 : hB p l s m args meth c cc nL own G) (hw : hW G f H) (hS : va_S (hFr G) s.heap H locs) (hout : ∀ x ∈ c.exceptionTable.toList, False) (hce : H[q]? = some ce) (hcv : ce.vm = .none) (hcl : s.vm.findClass E = some ce.cls) (hcs : cells ≤ mc ∧ slots ≤ ms) (hP : PX E f) : vx_W p l e R s m args below meth c H locs cells slots (vx_MQ below (hQ G P) (hX G PX) args s mc ms (hFr G)) (F0 m pc ls rest) q := by
  obtain ⟨hx, hb, hml, hown, hts, hlk, hk0, hl⟩ := B0
  exact vx_out (fun x h => (hout x h).elim) hlk hce hcv hcl (fun t ht _ => ⟨⟨f, hP, by rw [ht]; exact hw⟩, hS.F ht⟩) hS.2.2 hcs.1 hcs.2
/-- the words of a throw -/
theorem hat_of {own cls : String} {ic : Nat} {names : List String} {args : Array Value} {s : State} {G : hG} (hts : ∀ w ∈ gW, w.before args s = true) (hk0 : hK G s) (h1 : ∀ w ∈ (vx_atS own ic cls names).filter goodWord, w ∈ gW) (h2 : ∀ w ∈ (vx_atS own ic cls names).filter (fun w => !goodWord w), w ∈ hOt) : ∀ w ∈ vx_atS own ic cls names, w.before args s = true := by
  intro w hw
  by_cases g : goodWord w = true
  · exact hts w (h1 w (List.mem_filter.mpr ⟨hw, g⟩))
  · have h9 : w ∈ hOt := h2 w (List.mem_filter.mpr ⟨hw, by cases hg : goodWord w with | true => exact absurd hg g | false => rfl⟩)
    exact va_Nw.use (hOw_tabs (List.mem_filter.mp h9).2) (hk0.2.2.2.1 w h9)
theorem hp_throw {cls text : String} {names : List String} {ik is ic : Nat} (B0 : hB p l s m args meth c cc nL own G) (hw : hW G f H) (hS : va_S (hFr G) s.heap H locs) (hout : ∀ x ∈ c.exceptionTable.toList, False)
    (hn9 : Bundle.fit cls = true ∧ (∀ n ∈ names, Bundle.fit n = true)) (hk : Cond.classLink own ik cls ∈ gW) (hini : Cond.initialized cls ∈ gW) (hstr : (own, is, text) ∈ hStr)
    (h1 : ∀ w ∈ (vx_atS own ic cls names).filter goodWord, w ∈ gW) (h2 : ∀ w ∈ (vx_atS own ic cls names).filter (fun w => !goodWord w), w ∈ hOt) (hgood : ∀ w ∈ Cond.classLink own ik cls :: Cond.initialized cls :: vx_atS own ic cls names, vx_ot w = true)
    (hsz : ls.size = nL) (d0 : decode cc pc = .ok (.new ik, 3)) (d3 : decode cc (pc + 3) = .ok (.dup, 1)) (d4 : decode cc (pc + 4) = .ok (.ldc is, 2)) (d6 : decode cc (pc + 6) = .ok (.invokespecial ic, 3)) (d9 : decode cc (pc + 9) = .ok (.athrow, 1))
    (hR : (names.length + 3 < R.frames ∧ (rest.map fun v => v.category).sum + (13 * (names.length + 1) + 43) ≤ R.locals) ∧ cells + 1 ≤ R.cells ∧ slots + 6 ≤ R.slots) (hcs : cells + 1 ≤ mc ∧ slots + 6 ≤ ms) (hP : PX cls f) :
    W p l e R s m args below meth c H locs cells slots (vx_MQ below (hQ G P) (hX G PX) args s mc ms (hFr G)) (F0 m pc ls rest) := by
  obtain ⟨hx, hb, hml, hown, hts, hlk, hk0, hl⟩ := B0
  obtain ⟨sa, hsa⟩ := hk0.2.2.2.2.1 _ hstr
  exact vx_throwS hx hb hl (own := own) (cls := cls) (text := text) (names := names) (ik := ik) (is := is) (ic := ic) (sa := sa) (A := hFr G) hown hn9.1 hn9.2 (hts _ hk) (hts _ hini) hsa (hat_of hts hk0 h1 h2) hgood hk0.2.1 hk0.2.2.1 hS (hsz.trans hml.symm) d0 d3 d4 d6 d9
    (fun x h => (hout x h).elim) hR.1.1 hR.1.2 hR.2.1 hR.2.2 hlk (fun t _ z1 z2 => by
      refine ⟨⟨f, hP, ?_⟩, Nat.le_trans hS.1 z1, fun q g1 g2 => ?_⟩
      · obtain ⟨L, g, hf, hP9, hD⟩ := hw
        exact ⟨L, g, hf, hP9.kept (fun k q hk9 => z2 q.1 (hP9 k q hk9).lt), hD⟩
      · rw [z2 q (Nat.lt_of_lt_of_le g1 hS.1)]
        exact hS.2.1 q g1 g2) hS.2.2 hcs.1 hcs.2
/-- a concrete number on the stack by its name -/
theorem hp_c {x v : Int32} (h : x = v) (k : W p l e R s m args below meth c H locs cells slots Q (F0 m pc ls (.int v :: rest))) : W p l e R s m args below meth c H locs cells slots Q (F0 m pc ls (.int x :: rest)) := by rw [h]; exact k
end HQ9
/-! natives: arraycopy, clone; a static call of a method with handlers; a throw that a handler takes -/
section HQ10
variable {p : Program} {l : Launch} {e : Env} {R : Room} {s : State} {m : MethodId} {args : Array Value} {below : List Frame} {meth : Method} {c : Code} {H : Heap} {locs : List Loc} {cells slots : Nat} {Q : State → Prop}
variable {cc : ByteArray} {nL pc : Nat} {own : String} {G : hG} {f : hM} {ls : Array Slot} {rest : List Value} {a : Nat}
theorem hp_copyI {index a0 n0 n1 : Nat} {x y : Nat → Int32} {sp dp n : Int32} (B0 : hB p l s m args meth c cc nL own G) (hw : hW G f H) (hS : va_S (hFr G) s.heap H locs) (hsz : ls.size = nL) (hlm : Cond.methodLink own index arraycopyName ∈ gW) (hnat : Cond.native arraycopyName ∈ gW) (hst : Cond.static arraycopyName ∈ gW) (hini : Cond.initialized "java/lang/System" ∈ gW)
    (ha0 : f a0 = some (.inl (cI G, n0, .inl x))) (ha1 : f a = some (.inl (cI G, n1, .inl y))) (h1 : ¬ sp < 0) (h2 : ¬ dp < 0) (h3 : ¬ n < 0) (h4 : sp.toNatClampNeg + n.toNatClampNeg ≤ n0) (h5 : dp.toNatClampNeg + n.toNatClampNeg ≤ n1)
    (hR : 1 ≤ R.frames ∧ (rest.map fun v => v.category).sum + (nativeFrameWords "java/lang/System" "arraycopy" 5 + 11) ≤ R.locals) (hdg : decode cc pc = .ok (.invokestatic index, 3))
    (kk : ∀ (H1 : Heap) (locs1 : List Loc) (f1 : hM), f1 = va_up f a (some (.inl (cI G, n1, .inl (va_cpy x y sp.toNatClampNeg dp.toNatClampNeg n.toNatClampNeg)))) → hW G f1 H1 → va_S (hFr G) s.heap H1 locs1 → W p l e R s m args below meth c H1 locs1 cells slots Q (F0 m (pc + 3) ls rest)) : W p l e R s m args below meth c H locs cells slots Q (F0 m pc ls (.int n :: .int dp :: .ref a :: .int sp :: .ref a0 :: rest)) := by
  obtain ⟨hx, hb, hml, hown, hts, hlk, hk0, hl9⟩ := B0
  obtain ⟨L, g, hf, hP, hD⟩ := hw
  obtain ⟨hL, hg⟩ := hf a _ ha1
  obtain ⟨hL0, hg0⟩ := hf a0 _ ha0
  obtain ⟨j, hj0⟩ := va_pl_get (X := []) (f := g) hL
  obtain ⟨j2, hj2⟩ := va_pl_get (X := []) (f := g) hL0
  have hj := hj0
  rw [hg] at hj
  rw [hg0] at hj2
  exact va_copyi (D := G.1) (cl := hC) (tys := hTy G) hx hb (hml.trans hsz.symm) hown (hts _ hlm) (hts _ hnat) (hts _ hst) (hts _ hini) hk0.1 hP hD hS j2 j 0 0 hj2 hj (ty := .int) rfl rfl rfl h1 h2 h3 h4 h5 (fun _ _ => rfl) hR.1 hR.2 hdg (fun H1 locs1 hP1 hD1 hS1 => kk H1 locs1 _ rfl (hW.set (e0 := .inl (cI G, n1, .inl y)) hf hD hL hj0 hP1 hD1) hS1)
theorem hp_cloneI {index n0 : Nat} {x : Nat → Int32} (B0 : hB p l s m args meth c cc nL own G) (hw : hW G f H) (hS : va_S (hFr G) s.heap H locs) (hsz : ls.size = nL) (hlm : Cond.methodLink own index ⟨"[I", "clone", "()Ljava/lang/Object;"⟩ ∈ gW) (hsame : Cond.sameMethod "[I" "java/lang/Object" "clone" "()Ljava/lang/Object;" ∈ gW) (hnat : Cond.native ⟨"java/lang/Object", "clone", "()Ljava/lang/Object;"⟩ ∈ gW) (hinst : Cond.instanceMethod ⟨"java/lang/Object", "clone", "()Ljava/lang/Object;"⟩ ∈ gW)
    (hsel : Cond.selects "[I" ⟨"[I", "clone", "()Ljava/lang/Object;"⟩ ⟨"java/lang/Object", "clone", "()Ljava/lang/Object;"⟩ ∈ gW) (hcl : Cond.castable "[I" "java/lang/Cloneable" ∈ hOt) (ha0 : f a = some (.inl (cI G, n0, .inl x)))
    (hR : (1 ≤ R.frames ∧ (rest.map fun v => v.category).sum + 14 ≤ R.locals) ∧ cells + 1 ≤ R.cells ∧ slots + n0 ≤ R.slots) (hdg : decode cc pc = .ok (.invokevirtual index, 3))
    (kk : ∀ (q : Nat) (H1 : Heap) (f1 : hM), f q = none → f1 = va_up f q (some (.inl (cI G, n0, .inl x))) → hW G f1 H1 → va_S (hFr G) s.heap H1 locs → W p l e R s m args below meth c H1 locs (cells + 1) (slots + n0) Q (F0 m (pc + 3) ls (.ref q :: rest))) : W p l e R s m args below meth c H locs cells slots Q (F0 m pc ls (.ref a :: rest)) := by
  have hA := B0.le
  obtain ⟨hx, hb, hml, hown, hts, hlk, hk0, hl9⟩ := B0
  obtain ⟨L, g, hf, hP, hD⟩ := hw
  obtain ⟨hL0, hg0⟩ := hf a _ ha0
  obtain ⟨j2, hj2⟩ := va_pl_get (X := []) (f := g) hL0
  rw [hg0] at hj2
  have hnm : s.vm.findClass "[I" = some (cI G) := (hk0.1.2 0 (cI G, .int) rfl).2
  exact va_clone (D := G.1) (cl := hC) (tys := hTy G) (ws := [] ++ va_pl L g) (ty := .int) (x := (n0, .inl x)) hx hb (hml.trans hsz.symm) hown (hts _ hlm) (hts _ hsame) (hts _ hnat) (hts _ hinst) (hts _ hsel) (hk0.2.2.2.1 _ hcl) hk0.1 hP hD hS hA j2 0 hj2 rfl hnm
    (fun i v hv => by
      have h9 : (arrV (cI G) n0 (fun j => .int (x j))).slots[i]? = some v := hv
      have hi : i < n0 := by
        have := (Array.getElem?_eq_some_iff.mp h9).1
        rw [arrV_size] at this
        exact this
      rw [arrV_read _ _ hi] at h9
      cases h9
      rfl) hR.1.1 hR.1.2 hR.2.1 hR.2.2 hdg (fun q H1 _ hP1 hD1 hS1 => by
    obtain ⟨h0, hw1⟩ := hW.push hf hP1 hD1
    exact kk q H1 _ h0 rfl hw1 hS1)
theorem hp_castI {index : Nat} {n0 : Nat} {x : Nat → Int32} (B0 : hB p l s m args meth c cc nL own G) (hw : hW G f H) (hlm : Cond.classLink own index "[I" ∈ gW) (ha0 : f a = some (.inl (cI G, n0, .inl x))) (hdg : decode cc pc = .ok (.checkcast index, 3))
    (kk : W p l e R s m args below meth c H locs cells slots Q (F0 m (pc + 3) ls (.ref a :: rest))) : W p l e R s m args below meth c H locs cells slots Q (F0 m pc ls (.ref a :: rest)) := by
  obtain ⟨hx, hb, hml, hown, hts, hlk, hk0, hl9⟩ := B0
  obtain ⟨L, g, hf, hP, hD⟩ := hw
  obtain ⟨hL0, hg0⟩ := hf a _ ha0
  obtain ⟨j2, hj2⟩ := va_pl_get (X := []) (f := g) hL0
  rw [hg0] at hj2
  exact va_castA (D := G.1) (cl := hC) hx hb hown (hts _ hlm) hP j2 hj2 (hk0.1.2 0 (cI G, .int) rfl).2 hdg kk
def hMH (y : MethodName) (bytes : ByteArray) (maxL : Nat) (ret : Option FieldType) (hh : List (Nat × Nat × Nat × Nat)) (n : Nat) : Prop :=
  Cond.codeWith y bytes maxL ret hh ∈ gW ∧ Cond.static y ∈ gW ∧ Cond.initialized y.cls ∈ gW ∧ (y.cls ≠ "java/lang/invoke/MethodHandle" ∧ y.cls ≠ "java/lang/invoke/VarHandle") ∧ (parseMethodDescriptor y.desc).map (fun d => d.parameters.length) = some n
theorem hp_SH {y : MethodName} {bytes : ByteArray} {maxL n index : Nat} {ret : Option FieldType} {hh : List (Nat × Nat × Nat × Nat)} {fr lo mc ms : Nat} {As st0 : List Value} {P : Option Value → hM → Prop} {PX : String → hM → Prop} (B0 : hB p l s m args meth c cc nL own G) (hw : hW G f H) (hS : va_S (hFr G) s.heap H locs)
    (hM9 : CT l y (.codeWith y bytes maxL ret hh) fr lo mc ms G As f P PX) (hm : hMH y bytes maxL ret hh n) (hlm : Cond.methodLink own index y ∈ gW) (hst : st0 = As.reverse ++ rest) (hn : As.length = n) (hsz : ls.size = nL) (hroom : (rest.map fun v => v.category).sum ≤ 8)
    (hR : (fr + 1 ≤ R.frames ∧ 8 + (maxL + 11) + lo ≤ R.locals) ∧ cells + mc ≤ R.cells ∧ slots + ms ≤ R.slots) (hdg : decode cc pc = .ok (.invokestatic index, 3))
    (kx : ∀ (E : String) (ce : Cell) (q9 : Addr) (f1 : hM) (H1 : Heap) (locs1 : List Loc), PX E f1 → hW G f1 H1 → va_S (hFr G) s.heap H1 locs1 → H1[q9]? = some ce → ce.vm = .none → s.vm.findClass E = some ce.cls → vx_W p l e R s m args below meth c H1 locs1 (cells + mc) (slots + ms) Q (F0 m pc ls rest) q9)
    (kk : ∀ (v : Option Value) (f1 : hM) (H1 : Heap) (locs1 : List Loc), P v f1 → hW G f1 H1 → va_S (hFr G) s.heap H1 locs1 → W p l e R s m args below meth c H1 locs1 (cells + mc) (slots + ms) Q (F0 m (pc + 3) ls (v.toList ++ rest))) : W p l e R s m args below meth c H locs cells slots Q (F0 m pc ls st0) := by
  have B1 := B0
  obtain ⟨hx, hb9, hml, hown, hts, hlk, hk0, hl⟩ := B0
  obtain ⟨m1, m2, m4, m5, m6⟩ := hm
  exact hp_go B1 hS (vx_runSX (hh := hh) (ws := Cond.codeWith y bytes maxL ret hh :: gW) (rm := { frames := fr, cells := mc, slots := ms, locals := lo }) (Ts := gW) (bytes := bytes) (maxL := maxL) (ret := ret) (n := n) (As := As) (rest := rest) ⟨hx, hb9, hml, hown, hts⟩ hM9
    ⟨⟨rfl, rfl, hR.1.1, hR.1.2, gW_pay hts m1, List.mem_cons_self⟩, hts _ m1, hts _ m4, m5, hlen_of m6, hts _ hlm, hts _ m2⟩
    ⟨hPre.blind, hPc_of B1 hw hS⟩ rfl hn hsz hst (lv_room hroom) hdg hR.2) kx kk
/-- caught here: the rows ahead name other classes -/
theorem hp_catch {name : String} {E : String} {ce : Cell} {q : Addr} (B0 : hB p l s m args meth c cc nL own G) (pre : List ExceptionTableEntry) (x : ExceptionTableEntry) (suf : List ExceptionTableEntry) (hsplit : c.exceptionTable.toList = pre ++ x :: suf)
    (hpass : ∀ z ∈ pre, covers z pc = false ∨ (z.catchType ≠ 0 ∧ ∃ nm : String, Cond.classLink own z.catchType nm ∈ gW ∧ (E, nm) ∈ hNcs)) (hx9 : covers x pc = true) (h0 : x.catchType ≠ 0) (hlink : Cond.classLink own x.catchType name ∈ gW) (hcast : Cond.castable E name ∈ hOt) (hce : H[q]? = some ce) (hcv : ce.vm = .none) (hcl : s.vm.findClass E = some ce.cls)
    (kk : W p l e R s m args below meth c H locs cells slots Q (F0 m x.handlerPc ls [.ref q])) : vx_W p l e R s m args below meth c H locs cells slots Q (F0 m pc ls rest) q := by
  obtain ⟨hx, hb, hml, hown, hts, hlk, hk0, hl9⟩ := B0
  exact vx_catch (E := E) hown pre x suf hsplit (fun z hz => by
    rcases hpass z hz with h | ⟨h1, nm, h2, h3⟩
    · exact Or.inl h
    · exact Or.inr ⟨h1, nm, hts _ h2, hk0.2.2.2.2.2.1 (E, nm) h3⟩) hx9 h0 (hts _ hlink) (va_Nw.use rfl (hk0.2.2.2.1 _ hcast)) hce hcv hcl kk
end HQ10
/-! the words of a throw -/
def tNm : List String := ["java/lang/RuntimeException", "java/lang/Exception"]
theorem hall_of {L B : List Cond} (h : L.all (fun w => decide (w ∈ B)) = true) : ∀ w ∈ L, w ∈ B := fun w hw => of_decide_eq_true (List.all_eq_true.mp h w hw)
theorem hallb_of {L : List Cond} {b : Cond → Bool} (h : L.all b = true) : ∀ w ∈ L, b w = true := fun w hw => List.all_eq_true.mp h w hw
