/-! MY OWN LAYER: one judgement J (world, locals, pc, stack), one form of contract jC, one row an instruction -/
abbrev classes : List vw_C := [(RX0, TX0, 6), (RX1, TX1, 5), (RX7, TX7, 2), (RX3, TX3, 2), (RX4, TX4, 2), (RX5, TX5, 8), (RX6, TX6, 5), (RX7, TX7, 2), (RX8, TX8, 6), (RX9, TX9, 4), (RX10, TX10, 14), (RX11, TX11, 43)]
abbrev jG : Type := va_G × ClassId × ClassId × ClassId × ClassId
abbrev jT (g : jG) : List (ClassId × FieldType) := [(g.2.1, .byte), (g.2.2.1, .int), (g.2.2.2.1, .long), (g.2.2.2.2, .boolean)]
abbrev bA (g : jG) (a n : Nat) (f : Nat → Int32) : Nat × va_E := (a, .inl (g.2.1, n, .inl f))
abbrev iA (g : jG) (a n : Nat) (f : Nat → Int32) : Nat × va_E := (a, .inl (g.2.2.1, n, .inl f))
abbrev lA (g : jG) (a n : Nat) (f : Nat → Int64) : Nat × va_E := (a, .inl (g.2.2.2.1, n, .inr (.inl f)))
abbrev zA (g : jG) (a n : Nat) (f : Nat → Int32) : Nat × va_E := (a, .inl (g.2.2.2.2, n, .inl f))
abbrev oB (a ci : Nat) (fs : List Value) : Nat × va_E := (a, .inr (ci, fs))
/-- a static array of the class: where it lies, what it holds, that nothing of A is it -/
def sS (C n d : String) (ty : FieldType) (N : Nat) (f : Nat → Value) (A : Nat → Prop) (U : State) (H : Heap) : Prop := ∃ t : Nat, va_Z C n d (.ref t) A U H ∧ va_T ty t N f A U H
def tabI (l : List Int32) : Nat → Value := fun j => .int (l.getD j 0)
def tabL (l : List Int64) : Nat → Value := fun j => .long (l.getD j 0)
def s_round : List Int64 := [1, 32898, -9223372036854742902, -9223372034707259392, 32907, 2147483649, -9223372034707259263, -9223372036854743031, 138, 136, 2147516425, 2147483658, 2147516555, -9223372036854775669, -9223372036854742903, -9223372036854743037, -9223372036854743038, -9223372036854775680, 32778, -9223372034707292150, -9223372034707259263, -9223372036854742912, 2147483649, -9223372034707259384]
def s_targets : List Int32 := [0, 10, 20, 5, 15, 16, 1, 11, 21, 6, 7, 17, 2, 12, 22, 23, 8, 18, 3, 13, 14, 24, 9, 19, 4]
def s_turns : List Int32 := [0, 1, 62, 28, 27, 36, 44, 6, 55, 20, 3, 10, 43, 25, 39, 41, 45, 15, 21, 8, 18, 2, 61, 56, 14]
def s_first : List Int32 := [1779033703, -1150833019, 1013904242, -1521486534, 1359893119, -1694144372, 528734635, 1541459225]
def s_cube : List Int32 := [1116352408, 1899447441, -1245643825, -373957723, 961987163, 1508970993, -1841331548, -1424204075, -670586216, 310598401, 607225278, 1426881987, 1925078388, -2132889090, -1680079193, -1046744716, -459576895, -272742522, 264347078, 604807628, 770255983, 1249150122, 1555081692, 1996064986, -1740746414, -1473132947, -1341970488, -1084653625, -958395405, -710438585, 113926993, 338241895, 666307205, 773529912, 1294757372, 1396182291, 1695183700, 1986661051, -2117940946, -1838011259, -1564481375, -1474664885, -1035236496, -949202525, -778901479, -694614492, -200395387, 275423344, 430227734, 506948616, 659060556, 883997877, 958139571, 1322822218, 1537002063, 1747873779, 1955562222, 2024104815, -2067236844, -1933114872, -1866530822, -1538233109, -1090935817, -965641998]
abbrev yHd : MethodName := ⟨"HashSigner$Hash", "digest", "(LHashSigner$Row;LHashSigner$Row;)V"⟩
def sAll (A : Nat → Prop) (U : State) (H : Heap) : Prop :=
  va_Nw (.declares yHd) U ∧ sS "HashSigner$HashOne" "ROUND_WORDS" "[J" .long 24 (tabL s_round) A U H ∧ sS "HashSigner$HashOne" "TARGETS" "[I" .int 25 (tabI s_targets) A U H ∧ sS "HashSigner$HashOne" "TURNS" "[I" .int 25 (tabI s_turns) A U H ∧
  sS "HashSigner$HashZero" "FIRST_SUMS" "[I" .int 8 (tabI s_first) A U H ∧ sS "HashSigner$HashZero" "CUBE_ROOTS" "[I" .int 64 (tabI s_cube) A U H
theorem sS.narrow {C n d : String} {ty : FieldType} {N : Nat} {f : Nat → Value} {A B : Nat → Prop} {U : State} {H : Heap} (h : sS C n d ty N f A U H) (hAB : ∀ q, B q → A q) : sS C n d ty N f B U H := h.elim fun t ht => ⟨t, ht.1.narrow hAB, ht.2.narrow hAB⟩
theorem sS.moved {C n d : String} {ty : FieldType} {N : Nat} {f : Nat → Value} {A : Nat → Prop} {u U : State} {H : Heap} (hvm : u.vm.Alike U.vm) (h : sS C n d ty N f A u H) : sS C n d ty N f A U H := h.elim fun t ht => ⟨t, va_Z.moved hvm ht.1, va_T.moved hvm ht.2⟩
theorem sS.kept {C n d : String} {ty : FieldType} {N : Nat} {f : Nat → Value} {A : Nat → Prop} {U : State} {H H1 : Heap} (h : sS C n d ty N f A U H) (hq : ∀ a : Nat, a < H.size → ¬ A a → H1[a]? = H[a]?) : sS C n d ty N f A U H1 := h.elim fun t ht => ⟨t, ht.1.kept hq, ht.2.kept hq⟩
theorem sAll.narrow {A B : Nat → Prop} {U : State} {H : Heap} (h : sAll A U H) (hAB : ∀ q, B q → A q) : sAll B U H := ⟨h.1, h.2.1.narrow hAB, h.2.2.1.narrow hAB, h.2.2.2.1.narrow hAB, h.2.2.2.2.1.narrow hAB, h.2.2.2.2.2.narrow hAB⟩
theorem sAll.moved {A : Nat → Prop} {u U : State} {H : Heap} (hvm : u.vm.Alike U.vm) (h : sAll A u H) : sAll A U H := ⟨va_tabs rfl (rfl : (u.setVm U.vm).vm = U.vm) (by rw [Cond.declares_setVm hvm]; exact h.1), h.2.1.moved hvm, h.2.2.1.moved hvm, h.2.2.2.1.moved hvm, h.2.2.2.2.1.moved hvm, h.2.2.2.2.2.moved hvm⟩
theorem sAll.kept {A : Nat → Prop} {U : State} {H H1 : Heap} (h : sAll A U H) (hq : ∀ a : Nat, a < H.size → ¬ A a → H1[a]? = H[a]?) : sAll A U H1 := ⟨h.1, h.2.1.kept hq, h.2.2.1.kept hq, h.2.2.2.1.kept hq, h.2.2.2.2.1.kept hq, h.2.2.2.2.2.kept hq⟩
/-- a method's start: its arguments, its cells, the tables' words on classes, the static arrays -/
def jP (g : jG) (As : List Value) (W0 : va_W) (sz : Nat) : Array Value → State → Prop := va_Pc As (fun U => U.heap.size = sz ∧ va_P g.1 classes W0 U.heap ∧ va_K g.1 classes (jT g) U ∧ va_D (fun _ => True) W0 ∧ sAll (va_A W0 sz) U U.heap)
/-- its end -/
def jE {S : Type} (g : jG) (W0 : va_W) (v : S → Option Value) (P : S → Prop) (W1 : S → va_W) (sz : Nat) : Array Value → State → Outcome → State → Prop := fun _ st oc t =>
  (∃ u : S, oc = .returned (v u) ∧ P u ∧ va_P g.1 classes (W1 u) t.heap) ∧ va_F (va_A W0 sz) st t
/-- THE CONTRACT of a method that makes no cell -/
def jC {S : Type} (l : Launch) (g : jG) (y : MethodName) (ws : List Cond) (rm : Room) (As : List Value) (W0 : va_W) (v : S → Option Value) (P : S → Prop) (W1 : S → va_W) : Prop :=
  ∀ sz : Nat, Met l y ws rm (jP g As W0 sz) (jE g W0 v P W1 sz) 0 0 (va_A W0 sz)
theorem jP.blind {g : jG} {As : List Value} {W0 : va_W} {sz : Nat} : FrameBlind (jP g As W0 sz) := fun a U gg mk h => by
  obtain ⟨q0, q1, qP, qK, qD, qS⟩ := h
  exact ⟨q0, q1, qP, va_K.moved (u := U) (U := U.calling gg mk a) (Vm.Alike.refl U.vm) qK, qD, sAll.moved (u := U) (U := U.calling gg mk a) (Vm.Alike.refl U.vm) qS⟩
/-- cells of a world put anew at their places -/
def jset : va_W → List Nat → va_W → va_W
  | ws, i :: is, w :: w1 => jset (ws.set i w) is w1
  | ws, _, _ => ws
theorem jset_spec : ∀ (is : List Nat) (w1 ws : va_W) (k : Nat) (q : Nat × va_E), (jset ws is w1)[k]? = some q → (∃ j : Nat, is[j]? = some k ∧ w1[j]? = some q) ∨ (ws[k]? = some q ∧ ∀ (j : Nat) (w : Nat × va_E), is[j]? = some k → w1[j]? = some w → False)
  | [], w1, ws, k, q, h => Or.inr ⟨by cases w1 <;> exact h, fun j w h1 => by simp at h1⟩
  | i :: is, [], ws, k, q, h => Or.inr ⟨h, fun j w _ h1 => by simp at h1⟩
  | i :: is, w :: w1, ws, k, q, h => by
    rcases jset_spec is w1 (ws.set i w) k q h with ⟨j, h1, h2⟩ | ⟨h1, h2⟩
    · exact Or.inl ⟨j + 1, by simpa using h1, by simpa using h2⟩
    · by_cases hk : i = k
      · subst hk
        rw [List.getElem?_set] at h1
        split at h1
        · split at h1
          · exact Or.inl ⟨0, rfl, by simpa using h1⟩
          · cases h1
        · rename_i hne
          exact absurd rfl hne
      · rw [List.getElem?_set_ne hk] at h1
        refine Or.inr ⟨h1, fun j w2 h3 h4 => ?_⟩
        cases j with
        | zero => exact hk (by simpa using h3)
        | succ j => exact h2 j w2 (by simpa using h3) (by simpa using h4)
theorem jset_ad {is : List Nat} {W0 w1 ws : va_W} (hC : is.map (fun i => ws[i]?) = W0.map some) (ha : w1.map Prod.fst = W0.map Prod.fst) {k : Nat} {q : Nat × va_E} (h : (jset ws is w1)[k]? = some q) : ∃ q0 : Nat × va_E, ws[k]? = some q0 ∧ q0.1 = q.1 := by
  rcases jset_spec is w1 ws k q h with ⟨j, h1, h2⟩ | ⟨h1, -⟩
  · have e1 : (is.map (fun i => ws[i]?))[j]? = some ws[k]? := by rw [List.getElem?_map, h1]; rfl
    rw [hC, List.getElem?_map] at e1
    have e2 : (w1.map Prod.fst)[j]? = some q.1 := by rw [List.getElem?_map, h2]; rfl
    rw [ha, List.getElem?_map] at e2
    cases hw : W0[j]? with
    | none => rw [hw] at e1; cases e1
    | some q0 =>
      rw [hw] at e1 e2
      exact ⟨q0, (Option.some.inj e1).symm, Option.some.inj e2⟩
  · exact ⟨q, h1, rfl⟩
theorem jset_ok {A : Nat → Prop} {D : va_G} {cl : List vw_C} {is : List Nat} {W0 w1 ws : va_W} {H H1 : Heap} (hP : va_P D cl ws H) (hD : va_D A ws) (hC : is.map (fun i => ws[i]?) = W0.map some) (ha : w1.map Prod.fst = W0.map Prod.fst)
    (hk : ∀ q : Nat, q < H.size → ¬ va_A W0 H.size q → H1[q]? = H[q]?) (hP1 : va_P D cl w1 H1) : va_P D cl (jset ws is w1) H1 ∧ va_D A (jset ws is w1) := by
  refine ⟨fun k q h => ?_, fun i j x y hx hy hxy => ?_, fun k q h => ?_⟩
  · rcases jset_spec is w1 ws k q h with ⟨j, h1, h2⟩ | ⟨h1, h2⟩
    · exact hP1 j q h2
    · refine (hP k q h1).kept (hk q.1 (hP k q h1).lt (fun hA => ?_))
      rcases hA with ⟨j, e, hj⟩ | hA
      · have e1 : (is.map (fun i => ws[i]?))[j]? = some (some (q.1, e)) := by rw [hC, List.getElem?_map, hj]; rfl
        rw [List.getElem?_map] at e1
        cases hi : is[j]? with
        | none => rw [hi] at e1; cases e1
        | some i =>
          rw [hi] at e1
          have e2 : ws[i]? = some (q.1, e) := Option.some.inj e1
          have hik := hD.1 i k _ _ e2 h1 rfl
          subst hik
          have e3 : (w1.map Prod.fst)[j]? = some q.1 := by rw [ha, List.getElem?_map, hj]; rfl
          rw [List.getElem?_map] at e3
          cases hw : w1[j]? with
          | none => rw [hw] at e3; cases e3
          | some w => exact h2 j w hi hw
      · exact absurd (hP k q h1).lt (Nat.not_lt.mpr hA)
  · obtain ⟨x0, a1, a2⟩ := jset_ad hC ha hx
    obtain ⟨y0, b1, b2⟩ := jset_ad hC ha hy
    exact hD.1 i j x0 y0 a1 b1 (by rw [a2, b2, hxy])
  · obtain ⟨x0, a1, a2⟩ := jset_ad hC ha h
    rw [← a2]
    exact hD.2 k x0 a1
section JL
variable {p : Program} {l : Launch} {e : Env} {R : Room} {s : State} {m : MethodId} {args : Array Value} {below : List Frame} {meth : Method} {c : Code} {g : jG} {A : Nat → Prop} {nL : Nat} {Q : State → Prop} {cells slots : Nat}
variable {ws : va_W} {lv : List (Nat × Value)} {pc : Nat} {st : List Value} {cc : ByteArray} {own : String} {Ts : List Cond}
/-- THE JUDGEMENT -/
def J (p : Program) (l : Launch) (e : Env) (R : Room) (s : State) (m : MethodId) (args : Array Value) (below : List Frame) (meth : Method) (c : Code) (g : jG) (A : Nat → Prop) (nL : Nat) (Q : State → Prop) (cells slots : Nat) (ws : va_W) (lv : List (Nat × Value)) (pc : Nat) (st : List Value) : Prop :=
  ∀ (H : Heap) (locs : List Loc) (ls : Array Slot), va_P g.1 classes ws H → va_D A ws → va_S A s.heap H locs → lv_has ls nL lv → W p l e R s m args below meth c H locs cells slots Q (F0 m pc ls st)
def jOK (p : Program) (s : State) (m : MethodId) (args : Array Value) (c : Code) (g : jG) (A : Nat → Prop) (cc : ByteArray) (nL : Nat) (own : String) (Ts : List Cond) : Prop :=
  CallFix p m c cc nL s args Ts own ∧ va_K g.1 classes (jT g) s ∧ (∀ q, s.heap.size ≤ q → A q) ∧ sAll A s s.heap
/-- what a return gives: the contract's end -/
def jR {S : Type} (p : Program) (l : Launch) (e : Env) (R : Room) (s : State) (m : MethodId) (args : Array Value) (below : List Frame) (meth : Method) (c : Code) (g : jG) (A : Nat → Prop) (nL : Nat) (Q : State → Prop) (cc : ByteArray) (v : S → Option Value) (P : S → Prop) (W1 : S → va_W) : Prop :=
  ∀ u : S, P u → ∀ (pc : Nat) (lv : List (Nat × Value)) (i : Instr), decode cc pc = .ok (i, 1) → (match v u with | none => i = .return_ | some (.int _) => i = .ireturn | some (.long _) => i = .lreturn | some (.ref _) => i = .areturn | _ => False) → J p l e R s m args below meth c g A nL Q 0 0 (W1 u) lv pc ((v u).toList)
theorem jC.of {S : Type} {y : MethodName} {ws0 ws' : List Cond} {rm : Room} {As : List Value} {W0 : va_W} {v : S → Option Value} {P : S → Prop} {W1 : S → va_W} {maxL : Nat} {ret : Option FieldType}
    (hy : plainName y.cls = true) (hw : ws0 = Cond.code y cc maxL ret :: ws') (ho : y.cls = own) (hn : (lg_sl As).length ≤ maxL)
    (hv : ∀ u, P u → match v u with | none => ret = none | some (.int x) => ∃ ty, ret = some ty ∧ narrow ty (.int x) = .int x | some (.long _) => ret = some .long | some (.ref _) => ∃ C, ret = some (.object C) | _ => False)
    (body : ∀ (p : Program) (e : Env) (s : State) (m : MethodId) (below : List Frame) (meth : Method) (c : Code) (A : Nat → Prop) (Q : State → Prop), jOK p s m As.toArray c g A cc maxL own ws0 → jR p l e rm s m As.toArray below meth c g A maxL Q cc v P W1 → J p l e rm s m As.toArray below meth c g A maxL Q 0 0 W0 (lv_args 0 As) 0 []) :
    jC l g y ws0 rm As W0 v P W1 := by
  intro sz
  refine Met.ofW (cc := cc) (maxL := maxL) (ret := ret) hy hw ?_
  intro p e s m args below meth c s₁ B hml hv0
  obtain ⟨rfl, hsz, hP, hK, hD0, hZ⟩ := hv0
  have hx := B.exec
  have hb := B.bytes
  have hr := B.returns
  have hts := atoms_spec (ws := ws0) B.pre
  have hown : s.vm.findClass y.cls = some m.cls := findClass_of_methodNamed B.named
  have hlocks := B.notSynchronized
  subst hsz
  have hD := hD0.self (sz := s.heap.size)
  have hA : ∀ q : Nat, s.heap.size ≤ q → va_A W0 s.heap.size q := fun q h => Or.inr h
  have hS : va_S (va_A W0 s.heap.size) s.heap s.heap [] := va_S.rf
  have hl := lv_entry As (n := maxL) hn
  rw [lg_entry_eq]
  refine body p e s m below meth c (va_A W0 s.heap.size) _ ⟨⟨hx, hb, hml, ho ▸ hown, hts⟩, hK, hA, hZ⟩ ?_ s.heap [] _ hP hD hS hl
  intro u hu pc lv i hd hi H locs ls hP1 hD1 hS1 hl1
  have hvu := hv u hu
  have hend : ∀ t : State, t.heap = H → jE g W0 v P W1 s.heap.size As.toArray s (.returned (v u)) t := fun t ht => ⟨⟨u, rfl, hu, by rw [ht]; exact hP1⟩, hS1.F ht⟩
  revert hvu hi hend
  cases v u with
  | none => intro hi hvu hend; subst hi; exact W.vret hx hb (hr.trans hvu) (fun t ht _ => hend t ht) hS1.2.2 hd
  | some x =>
    cases x with
    | int x => intro hi hvu hend; subst hi; obtain ⟨ty, h1, h2⟩ := hvu; exact W.zret hx hb (hr.trans h1) h2 (fun t ht _ => hend t ht) hS1.2.2 hd
    | long x => intro hi hvu hend; subst hi; exact W.lret hx hb (hr.trans hvu) (fun t ht _ => hend t ht) hS1.2.2 hd
    | ref x => intro hi hvu hend; subst hi; obtain ⟨C, h1⟩ := hvu; exact W.aret hx hb (hr.trans h1) (Or.inl ⟨C, rfl⟩) (Or.inr ⟨x, rfl⟩) (fun t ht _ => hend t ht) hS1.2.2 hd
    | _ => intro hi hvu; exact absurd hvu id
end JL
