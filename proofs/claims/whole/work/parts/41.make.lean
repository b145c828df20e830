/-! MAKING: constructors, and what they make -/
def jNE {S : Type} (g : jG) (W0 : va_W) (P : S → Prop) (W1 : S → va_W) (sz : Nat) : Array Value → State → Outcome → State → Prop := fun _ st oc t =>
  (∃ u : S, oc = .returned none ∧ P u ∧ va_P g.1 classes (W1 u) t.heap ∧ va_D (va_A W0 sz) (W1 u)) ∧ va_F (va_A W0 sz) st t
/-- the nest mates' constructors that are called -/
def nwA (U : State) : Prop := (va_Nw (.methodLinkNest RX3 3 yX2_init "HashSigner") U ∧ va_Nw (.methodLinkNest RX4 1 yX2_init "HashSigner") U) ∧ va_Nw (.methodLinkNest RX5 25 yX4_init "HashSigner") U ∧ va_Nw (.methodLinkNest RX5 32 yX3_init "HashSigner") U
theorem nwA.warm {s U : State} (hW : s.WarmedH U.vm) (h : nwA s) : nwA U := ⟨⟨h.1.1.warmM hW, h.1.2.warmM hW⟩, h.2.1.warmM hW, h.2.2.warmM hW⟩
theorem nwA.same {u U : State} (e : u.vm = U.vm) (h : nwA u) : nwA U := ⟨⟨h.1.1.same rfl e, h.1.2.same rfl e⟩, h.2.1.same rfl e, h.2.2.same rfl e⟩
def jPN (g : jG) (As : List Value) (W0 : va_W) (sz : Nat) : Array Value → State → Prop := fun a U => jP g As W0 sz a U ∧ nwA U
theorem jPN.blind {g : jG} {As : List Value} {W0 : va_W} {sz : Nat} : FrameBlind (jPN g As W0 sz) := fun a U gg mk h => ⟨jP.blind a U gg mk h.1, h.2.same (u := U) (U := U.calling gg mk a) rfl⟩
/-- THE CONTRACT of a constructor: mc cells of ms slots are new -/
def jN {S : Type} (l : Launch) (g : jG) (y : MethodName) (ws : List Cond) (rm : Room) (As : List Value) (W0 : va_W) (P : S → Prop) (W1 : S → va_W) (mc ms : Nat) : Prop :=
  ∀ sz : Nat, Met l y ws rm (jPN g As W0 sz) (jNE g W0 P W1 sz) mc ms (va_A W0 sz)
section JM
variable {p : Program} {l : Launch} {e : Env} {R : Room} {s : State} {m : MethodId} {args : Array Value} {below : List Frame} {meth : Method} {c : Code} {g : jG} {A : Nat → Prop} {nL : Nat} {Q : State → Prop} {cells slots : Nat}
variable {ws : va_W} {lv : List (Nat × Value)} {pc : Nat} {st : List Value} {cc : ByteArray} {own : String} {Ts : List Cond}
def jRN {S : Type} (p : Program) (l : Launch) (e : Env) (R : Room) (s : State) (m : MethodId) (args : Array Value) (below : List Frame) (meth : Method) (c : Code) (g : jG) (A : Nat → Prop) (nL : Nat) (Q : State → Prop) (cc : ByteArray) (P : S → Prop) (W1 : S → va_W) (mc ms : Nat) : Prop :=
  ∀ u : S, P u → ∀ (pc : Nat) (lv : List (Nat × Value)), decode cc pc = .ok (.return_, 1) → J p l e R s m args below meth c g A nL Q mc ms (W1 u) lv pc []
theorem jN.of {S : Type} {y : MethodName} {ws0 ws' : List Cond} {rm : Room} {As : List Value} {W0 : va_W} {P : S → Prop} {W1 : S → va_W} {mc ms maxL : Nat}
    (hy : plainName y.cls = true) (hw : ws0 = Cond.code y cc maxL none :: ws') (ho : y.cls = own) (hi0 : y.name = "<init>") (hn : (lg_sl As).length ≤ maxL)
    (body : ∀ (p : Program) (e : Env) (s : State) (m : MethodId) (below : List Frame) (meth : Method) (c : Code) (A : Nat → Prop) (Q : State → Prop), meth.name = "<init>" → nwA s → jOK p s m As.toArray c g A cc maxL own ws0 → jRN p l e rm s m As.toArray below meth c g A maxL Q cc P W1 mc ms → J p l e rm s m As.toArray below meth c g A maxL Q 0 0 W0 (lv_args 0 As) 0 []) :
    jN l g y ws0 rm As W0 P W1 mc ms := by
  intro sz
  refine Met.ofW (cc := cc) (maxL := maxL) (ret := none) hy hw ?_
  intro p e s m args below meth c s₁ B hml hv0
  obtain ⟨⟨rfl, hsz, hP, hK, hD0, hZ⟩, hNW⟩ := hv0
  have hx := B.exec
  have hb := B.bytes
  have hr := B.returns
  have hts := atoms_spec (ws := ws0) B.pre
  have hown : s.vm.findClass y.cls = some m.cls := findClass_of_methodNamed B.named
  have hin : meth.name = "<init>" := (name_of_methodNamed B.named B.method).1.trans hi0
  subst hsz
  have hD := hD0.self (sz := s.heap.size)
  have hA : ∀ q : Nat, s.heap.size ≤ q → va_A W0 s.heap.size q := fun q h => Or.inr h
  have hS : va_S (va_A W0 s.heap.size) s.heap s.heap [] := va_S.rf
  have hl := lv_entry As (n := maxL) hn
  rw [lg_entry_eq]
  refine body p e s m below meth c (va_A W0 s.heap.size) _ hin hNW ⟨⟨hx, hb, hml, ho ▸ hown, hts⟩, hK, hA, hZ⟩ ?_ s.heap [] _ hP hD hS hl
  intro u hu pc lv hd H locs ls hP1 hD1 hS1 hl1
  exact W.vret hx hb hr (fun t ht _ => ⟨⟨u, rfl, hu, by rw [ht]; exact hP1, hD1⟩, hS1.F ht⟩) hS1.2.2 hd
theorem j_widen (k n : Nat) (h1 : cells ≤ k) (h2 : slots ≤ n) (kk : J p l e R s m args below meth c g A nL Q k n ws lv pc st) : J p l e R s m args below meth c g A nL Q cells slots ws lv pc st :=
  fun H locs ls hP hD hS hl => W.widen h1 h2 (kk H locs ls hP hD hS hl)
theorem j_objInit (hX : jOK p s m args c g A cc nL own Ts) {index : Nat} {a : Nat} (h1 : Cond.methodLink own index Lib.objectInit ∈ Ts) (h2 : Cond.instanceMethod Lib.objectInit ∈ Ts) (h3 : Cond.code Lib.objectInit ⟨#[177]⟩ 1 none ∈ Ts) (hF : 1 ≤ R.frames) (hL : (st.map fun v => v.category).sum + 12 ≤ R.locals) (hd : decode cc pc = .ok (.invokespecial index, 3)) (kk : J p l e R s m args below meth c g A nL Q cells slots ws lv (pc + 3) st) : J p l e R s m args below meth c g A nL Q cells slots ws lv pc (.ref a :: st) :=
  fun H locs ls hP hD hS hl => W.objInit hX.1.1 hX.1.2.1 hX.1.2.2.2.1 (hX.1.2.2.2.2 _ h1) (hX.1.2.2.2.2 _ h2) (hX.1.2.2.2.2 _ h3) rfl (hl.1.trans hX.1.2.2.1.symm) rfl hd hF (by show 2 * 0 + _ + 12 ≤ R.locals; omega) (kk H locs ls hP hD hS hl)
theorem j_new (hX : jOK p s m args c g A cc nL own Ts) {index ci N : Nat} {C : String} {T : u_T} {fs : List Value} (hin : ∀ w ∈ u_ws C T N, w ∈ Ts) (ty : Nat → FieldType) (hty : ∀ k, k < N → parseFieldDescriptor (T k).2.2.1 = some (ty k)) (hcl : Cond.classLink own index C ∈ Ts) (hinst : Cond.instantiable C N ∈ Ts) (hini : Cond.initialized C ∈ Ts) (hc : classes[ci]? = some (C, T, N)) (hfs : ∀ j, j < N → defaultValue (ty j) = vp_V fs j) (hcells : cells + 1 ≤ R.cells) (hslots : slots + N ≤ R.slots) (hd : decode cc pc = .ok (.new index, 3)) (kk : ∀ a : Nat, J p l e R s m args below meth c g A nL Q (cells + 1) (slots + N) (ws ++ [(a, .inr (ci, fs))]) lv (pc + 3) (.ref a :: st)) : J p l e R s m args below meth c g A nL Q cells slots ws lv pc st :=
  fun H locs ls hP hD hS hl => va_new hX.1.1 hX.1.2.1 hX.1.2.2.2.2 hin ty hty hX.1.2.2.2.1 (hX.1.2.2.2.2 _ hcl) (hX.1.2.2.2.2 _ hinst) (hX.1.2.2.2.2 _ hini) hX.2.1 hP hD hS hX.2.2.1 hc hfs hcells hslots hd (fun q H1 hP1 hD1 hS1 => kk q H1 locs ls hP1 hD1 hS1 hl)
theorem j_newa (hX : jOK p s m args c g A cc nL own Ts) {atype : ArrayType} {ty : FieldType} {n : Nat} {a0 : vp_A} (t0 : Nat) {cA : ClassId} (ht0 : (jT g)[t0]? = some (cA, ty)) (hRA : ∀ (U : State) (k : ClassId), va_RA U k ty = (U.vm.findClass ("[" ++ ty.toString) = some k)) (harr : Cond.arrayClass (newarray.typeOf atype) ∈ Ts) (hty : newarray.typeOf atype = ty) (ha : ∀ k : ClassId, vp_cell k a0 = arrV k n (fun _ => defaultValue ty)) (hn : n < 2 ^ 31) (hbytes : n * componentBytes ty ≤ 536870912) (hcells : cells + 1 ≤ R.cells) (hslots : slots + n ≤ R.slots) (hd : decode cc pc = .ok (.newarray atype, 2)) (kk : ∀ a : Nat, J p l e R s m args below meth c g A nL Q (cells + 1) (slots + n) (ws ++ [(a, .inl (cA, a0))]) lv (pc + 2) (.ref a :: st)) : J p l e R s m args below meth c g A nL Q cells slots ws lv pc (.int (nI n) :: st) := by
  intro H locs ls hP hD hS hl
  refine va_newa hX.1.1 hX.1.2.1 (hX.1.2.2.2.2 _ harr) hty hX.2.1 hP hD hS hX.2.2.1 ha (nI_pos hn) (nI_clamp hn) hbytes hcells hslots hd (fun q k H1 hK1 hP1 hD1 hS1 => ?_)
  have e1 := (hX.2.1.2 t0 _ ht0).2
  have e2 := (hK1.2 (jT g).length (k, ty) (by rw [List.getElem?_append_right (Nat.le_refl _), Nat.sub_self]; rfl)).2
  rw [hRA] at e1 e2
  have e3 : k = cA := Option.some.inj (e2.symm.trans e1)
  subst e3
  exact kk q H1 locs ls hP1 hD1 hS1 hl
theorem j_putF (hX : jOK p s m args c g A cc nL own Ts) (hin2 : meth.name = "<init>") {C : String} {T : u_T} {N index : Nat} {a : Nat} {fs : List Value} {v : Value} {ref : String} {ty : FieldType} (hin : ∀ w ∈ u_ws C T N, w ∈ Ts) (ty0 : Nat → FieldType) (hty : ∀ k, k < N → parseFieldDescriptor (T k).2.2.1 = some (ty0 k)) (hnm : ∀ a, a < N → ∀ b, b < N → a ≠ b → (T a).2.1 ≠ (T b).2.1) (ci q0 k : Nat) (hc : classes[ci]? = some (C, T, N)) (he : ws[q0]? = some (a, .inr (ci, fs))) (hk : k < N) (hm : Cond.fieldLink own index ref (T k).2.1 (T k).2.2.1 ∈ Ts) (hr : (T k).1 = ref) (hfin : (T k).2.2.2 = true) (hdecl : (T k).1 = own) (hty1 : ty0 k = ty) (hn : narrow ty v = v) (hfit : fits ty v = true) (hl0 : k < fs.length) (ws' : va_W) (hws : ws.set q0 (a, .inr (ci, fs.set k v)) = ws') (hd : decode cc pc = .ok (.putfield index, 3)) (kk : J p l e R s m args below meth c g A nL Q cells slots ws' lv (pc + 3) st) : J p l e R s m args below meth c g A nL Q cells slots ws lv pc (v :: .ref a :: st) :=
  fun H locs ls hP hD hS hl => va_putF hX.1.1 hX.1.2.1 hX.1.2.2.2.2 hin ty0 hty hnm hX.1.2.2.2.1 hX.2.1 hP hD hS q0 he hc k hk (hX.1.2.2.2.2 _ hm) (fun x h9 => hr ▸ h9) hfin hin2 hdecl ((hty k hk).trans (congrArg some hty1)) hn hfit hl0 hd (fun H1 locs1 hP1 hD1 hS1 => kk H1 locs1 ls (hws ▸ hP1) (hws ▸ hD1) hS1 hl)
/-- behind a constructor: the end of its contract -/
theorem jcallN {S : Type} {P : S → Prop} {W0 : va_W} {W1 : S → va_W} {H : Heap} {locs : List Loc} {ls : Array Slot} {rest st0 : List Value} {sz mc ms : Nat} {a : Array Value} {free : Addr → Prop} (hr : va_Run p l e R s m args below meth c H locs cells slots mc ms (F0 m pc ls st0) rest (jNE g W0 P W1 sz a) free) (hS : va_S A s.heap H locs) (hA : ∀ q, q < H.size → va_A W0 sz q → A q) (hf : ∀ q, free q → A q)
    (kk : ∀ (u : S) (H1 : Heap) (locs1 : List Loc), P u → va_P g.1 classes (W1 u) H1 → va_D (va_A W0 sz) (W1 u) → (∀ q : Nat, q < H.size → ¬ va_A W0 sz q → H1[q]? = H[q]?) → va_S A s.heap H1 locs1 → W p l e R s m args below meth c H1 locs1 (cells + mc) (slots + ms) Q (F0 m (pc + 3) ls rest)) : W p l e R s m args below meth c H locs cells slots Q (F0 m pc ls st0) := by
  intro T hT X
  obtain ⟨vv, st₀, t, T', L, h0, X', hL, e1, e2, ⟨⟨u, hv, hp, hb, hd⟩, hz, hk⟩, stp⟩ := hr T hT X
  cases hv
  rw [h0] at hz hk
  obtain ⟨t2, a1, b1⟩ := kk u T'.heap (locs ++ L) hp (by rw [e1]; exact hb) hd (fun q h1 h2 => by rw [e1]; exact hk q h1 h2)
    ⟨Nat.le_trans hS.1 (by rw [e1]; exact hz), fun q h1 h2 => by rw [e1, hk q (Nat.lt_of_lt_of_le h1 hS.1) (fun z => h2 (hA q (Nat.lt_of_lt_of_le h1 hS.1) z))]; exact hS.2.1 q h1 h2, fun q hq => by
      rcases List.mem_append.mp hq with h | h
      · exact hS.2.2 q h
      · exact hf _ (hL q h)⟩ T' rfl X'
  exact ⟨t2, stp t2 a1, b1⟩
theorem j_callI {S : Type} (hX : jOK p s m args c g A cc nL own Ts) {y : MethodName} {wsC ws' : List Cond} {rm : Room} {As : List Value} {W0 : va_W} {P : S → Prop} {W1 : S → va_W} {b : Nat} {bytes : ByteArray} {maxL index mc ms : Nat} (n : Nat) (hNW : nwA s) (hc : jN l g y wsC rm (.ref b :: As) W0 P W1 mc ms) (hG : GoodIn Ts wsC) (hini : Cond.initialized y.cls ∈ Ts) (hlink : Cond.methodLink own index y ∈ Ts) (hinst : Cond.instanceMethod y ∈ Ts) (hnm : y.name = "<init>") (hd0 : y.cls ≠ "java/lang/invoke/MethodHandle" ∧ y.cls ≠ "java/lang/invoke/VarHandle" ∧ (parseMethodDescriptor y.desc).map (fun d => d.parameters.length) = some n) (hw : wsC = Cond.code y bytes maxL none :: ws') (hrm : rm.cells = mc ∧ rm.slots = ms) (hR : rm.frames + 1 ≤ R.frames ∧ 8 + (maxL + 11) + rm.locals ≤ R.locals) (isC isR : List Nat) (hC : isC.map (fun i => ws[i]?) = W0.map some) (hnd : va_nd isC = true) (wr : va_W) (hwr : isR.map (fun i => ws[i]?) = wr.map some) (hndR : va_nd isR = true) (hdis : ∀ i ∈ isR, i ∉ isC) (hn : As.length = n) (rest : List Value) (hst : st = As.reverse ++ .ref b :: rest) (hro : (rest.map fun v => v.category).sum ≤ 8) (hf : cells + mc ≤ R.cells ∧ slots + ms ≤ R.slots) (hd : decode cc pc = .ok (.invokespecial index, 3)) (kk : ∀ u : S, P u → J p l e R s m args below meth c g A nL Q (cells + mc) (slots + ms) (wr ++ W1 u) lv (pc + 3) rest) : J p l e R s m args below meth c g A nL Q cells slots ws lv pc st := by
  intro H locs ls hP hD hS hl
  have hPc : va_P g.1 classes W0 H := jsub hP hC
  have hDc : va_D A W0 := hD.sub isC hnd hC
  have hFc := va_free (wc := W0) hD hS hX.2.2.1 isC hC
  refine jcallN (va_runI (As := As) (rest := rest) (bytes := bytes) (maxL := maxL) hX.1 (hc H.size) (cwI n hX.1.2.2.2.2 hG hw hrm.1 hrm.2 (hX.1.2.2.2.2 _ hini) (hX.1.2.2.2.2 _ hlink) (hX.1.2.2.2.2 _ hinst) hnm hd0 hR) ⟨jPN.blind, fun U hU hW => ⟨⟨rfl, by rw [hU], by rw [hU]; exact hPc, va_K.moved hW.alike hX.2.1, hDc.weaken (fun _ _ _ _ => trivial), by rw [hU]; exact sAll.moved hW.alike (hX.2.2.2.at_call hS hFc)⟩, hNW.warm hW⟩⟩ rfl hn hl.1 hst (lv_room hro) hd ⟨hf.1, hf.2⟩) hS (fun q _ h => hFc q h) hFc (fun u H1 locs1 hu hP1 hD1 hk hS1 => ?_)
  obtain ⟨a1, a2⟩ := va_join (wr := wr) (w1 := W1 u) hP hD isC isR hC hwr hndR hdis hk hFc hP1 hD1
  exact kk u hu H1 locs1 ls a1 a2 hS1 hl
theorem j_callIN {S : Type} (hX : jOK p s m args c g A cc nL own Ts) {y : MethodName} {wsC ws' : List Cond} {rm : Room} {As : List Value} {W0 : va_W} {P : S → Prop} {W1 : S → va_W} {b : Nat} {bytes : ByteArray} {maxL index mc ms : Nat} (n : Nat) (hNW : nwA s) (hc : jN l g y wsC rm (.ref b :: As) W0 P W1 mc ms) (hG : GoodIn Ts wsC) (hini : Cond.initialized y.cls ∈ Ts) {host : String} (hlink : va_Nw (.methodLinkNest own index y host) s) (hinst : Cond.instanceMethod y ∈ Ts) (hnm : y.name = "<init>") (hd0 : y.cls ≠ "java/lang/invoke/MethodHandle" ∧ y.cls ≠ "java/lang/invoke/VarHandle" ∧ (parseMethodDescriptor y.desc).map (fun d => d.parameters.length) = some n) (hw : wsC = Cond.code y bytes maxL none :: ws') (hrm : rm.cells = mc ∧ rm.slots = ms) (hR : rm.frames + 1 ≤ R.frames ∧ 8 + (maxL + 11) + rm.locals ≤ R.locals) (isC isR : List Nat) (hC : isC.map (fun i => ws[i]?) = W0.map some) (hnd : va_nd isC = true) (wr : va_W) (hwr : isR.map (fun i => ws[i]?) = wr.map some) (hndR : va_nd isR = true) (hdis : ∀ i ∈ isR, i ∉ isC) (hn : As.length = n) (rest : List Value) (hst : st = As.reverse ++ .ref b :: rest) (hro : (rest.map fun v => v.category).sum ≤ 8) (hf : cells + mc ≤ R.cells ∧ slots + ms ≤ R.slots) (hd : decode cc pc = .ok (.invokespecial index, 3)) (kk : ∀ u : S, P u → J p l e R s m args below meth c g A nL Q (cells + mc) (slots + ms) (wr ++ W1 u) lv (pc + 3) rest) : J p l e R s m args below meth c g A nL Q cells slots ws lv pc st := by
  intro H locs ls hP hD hS hl
  have hPc : va_P g.1 classes W0 H := jsub hP hC
  have hDc : va_D A W0 := hD.sub isC hnd hC
  have hFc := va_free (wc := W0) hD hS hX.2.2.1 isC hC
  refine jcallN (va_runIN (As := As) (rest := rest) (bytes := bytes) (maxL := maxL) hX.1 (hc H.size) ⟨va_cnB n hX.1.2.2.2.2 hG hw hrm.1 hrm.2 hlink (hX.1.2.2.2.2 _ hini) hd0 hR, hnm, hX.1.2.2.2.2 _ hinst⟩ ⟨jPN.blind, fun U hU hW => ⟨⟨rfl, by rw [hU], by rw [hU]; exact hPc, va_K.moved hW.alike hX.2.1, hDc.weaken (fun _ _ _ _ => trivial), by rw [hU]; exact sAll.moved hW.alike (hX.2.2.2.at_call hS hFc)⟩, hNW.warm hW⟩⟩ rfl hn hl.1 hst (lv_room hro) hd ⟨hf.1, hf.2⟩) hS (fun q _ h => hFc q h) hFc (fun u H1 locs1 hu hP1 hD1 hk hS1 => ?_)
  obtain ⟨a1, a2⟩ := va_join (wr := wr) (w1 := W1 u) hP hD isC isR hC hwr hndR hdis hk hFc hP1 hD1
  exact kk u hu H1 locs1 ls a1 a2 hS1 hl
end JM
