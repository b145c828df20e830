theorem st_long {args : Array Value} {s : State} {C n d : String} {Ls : List Int64} {N : Nat} {A : Nat → Prop} (T : Cond) (hT : T.before args s = true) (hN : N < 2 ^ 31) (hl : (Cond.laysStatic C n d).before args s = true) (hini : (Cond.initialized C).before args s = true) (harr : Cond.arrayOf (.static C n d) .long ∈ flatC T) (hlen : Cond.eq (.length (.static C n d)) (.int (Int32.ofNat N)) ∈ flatC T) (hel : ∀ j, j < N → Cond.eq (.elem (.static C n d) (.int (Int32.ofNat j))) (.long (Ls.getD j 0)) ∈ flatC T) (hA : ∀ a : Nat, a < s.heap.size → ¬ A a) : sS C n d .long N (tabL Ls) A s s.heap := by
  obtain ⟨t, e1, h1⟩ := va_Tof (f := tabL Ls) (A := A) hN (flat_of_before T hT _ harr) (va_eqt (flat_of_before T hT _ hlen)) (fun j hj => va_eqtl (flat_of_before T hT _ (hel j hj))) hA
  exact ⟨t, va_Zref hl hini e1 hA, h1⟩
theorem st_int {args : Array Value} {s : State} {C n d : String} {Ls : List Int32} {N : Nat} {A : Nat → Prop} (T : Cond) (hT : T.before args s = true) (hN : N < 2 ^ 31) (hl : (Cond.laysStatic C n d).before args s = true) (hini : (Cond.initialized C).before args s = true) (harr : Cond.arrayOf (.static C n d) .int ∈ flatC T) (hlen : Cond.eq (.length (.static C n d)) (.int (Int32.ofNat N)) ∈ flatC T) (hel : ∀ j, j < N → Cond.eq (.elem (.static C n d) (.int (Int32.ofNat j))) (.int (Ls.getD j 0)) ∈ flatC T) (hA : ∀ a : Nat, a < s.heap.size → ¬ A a) : sS C n d .int N (tabI Ls) A s s.heap := by
  obtain ⟨t, e1, h1⟩ := va_Tof (f := tabI Ls) (A := A) hN (flat_of_before T hT _ harr) (va_eqt (flat_of_before T hT _ hlen)) (fun j hj => va_eqt (flat_of_before T hT _ (hel j hj))) hA
  exact ⟨t, va_Zref hl hini e1 hA, h1⟩
def startT : Cond := Jvm.Cond.and given_1 narrow_1
set_option maxRecDepth 100000 in
theorem el_ROUND_WORDS : (Cond.arrayOf (.static "HashSigner$HashOne" "ROUND_WORDS" "[J") .long ∈ flatC startT ∧ Cond.eq (.length (.static "HashSigner$HashOne" "ROUND_WORDS" "[J")) (.int (Int32.ofNat 24)) ∈ flatC startT) ∧ ∀ j, j < 24 → Cond.eq (.elem (.static "HashSigner$HashOne" "ROUND_WORDS" "[J") (.int (Int32.ofNat j))) (.long (s_round.getD j 0)) ∈ flatC startT := by decide +kernel
set_option maxRecDepth 100000 in
theorem el_TARGETS : (Cond.arrayOf (.static "HashSigner$HashOne" "TARGETS" "[I") .int ∈ flatC startT ∧ Cond.eq (.length (.static "HashSigner$HashOne" "TARGETS" "[I")) (.int (Int32.ofNat 25)) ∈ flatC startT) ∧ ∀ j, j < 25 → Cond.eq (.elem (.static "HashSigner$HashOne" "TARGETS" "[I") (.int (Int32.ofNat j))) (.int (s_targets.getD j 0)) ∈ flatC startT := by decide +kernel
set_option maxRecDepth 100000 in
theorem el_TURNS : (Cond.arrayOf (.static "HashSigner$HashOne" "TURNS" "[I") .int ∈ flatC startT ∧ Cond.eq (.length (.static "HashSigner$HashOne" "TURNS" "[I")) (.int (Int32.ofNat 25)) ∈ flatC startT) ∧ ∀ j, j < 25 → Cond.eq (.elem (.static "HashSigner$HashOne" "TURNS" "[I") (.int (Int32.ofNat j))) (.int (s_turns.getD j 0)) ∈ flatC startT := by decide +kernel
set_option maxRecDepth 100000 in
theorem el_FIRST_SUMS : (Cond.arrayOf (.static "HashSigner$HashZero" "FIRST_SUMS" "[I") .int ∈ flatC startT ∧ Cond.eq (.length (.static "HashSigner$HashZero" "FIRST_SUMS" "[I")) (.int (Int32.ofNat 8)) ∈ flatC startT) ∧ ∀ j, j < 8 → Cond.eq (.elem (.static "HashSigner$HashZero" "FIRST_SUMS" "[I") (.int (Int32.ofNat j))) (.int (s_first.getD j 0)) ∈ flatC startT := by decide +kernel
set_option maxRecDepth 100000 in
theorem el_CUBE_ROOTS : (Cond.arrayOf (.static "HashSigner$HashZero" "CUBE_ROOTS" "[I") .int ∈ flatC startT ∧ Cond.eq (.length (.static "HashSigner$HashZero" "CUBE_ROOTS" "[I")) (.int (Int32.ofNat 64)) ∈ flatC startT) ∧ ∀ j, j < 64 → Cond.eq (.elem (.static "HashSigner$HashZero" "CUBE_ROOTS" "[I") (.int (Int32.ofNat j))) (.int (s_cube.getD j 0)) ∈ flatC startT := by decide +kernel
/-! THE CLAIM OUT OF ONE WALK OF THE LAW'S BODY. Your part is whole_start (and what it stands on); all else here is the same for every law, but numbers. -/
def R_law : String := "HashSignerLaw"
def lw_P (b : Addr) (xs : List Int32) (args : Array Value) (s : State) : Prop := args = #[.ref b] ∧ s.IntsAt b xs ∧ xs.length ≤ 3584 ∧ (Jvm.Cond.and given_1 narrow_1).before args s = true
def lw_Q (_ : Array Value) (s : State) (o : Outcome) (t : State) : Prop := o = .returned (some (.int 1)) ∧ Framed s o t [] 600000 7302250
def lw_Z (below : List Frame) (a : Array Value) (s : State) : State → Prop := fun t => ∃ o, t.status = .running ∧ Ended t below o ∧ lw_Q a s o t
/-- the law's own end, with 1 on the stack, nothing written that was there before, its room as the claim has it -/
theorem lw_ret {p : Program} {l : Launch} {e : Env} {s : State} {m : MethodId} {below : List Frame} {meth : Method} {c : Code} {b : Nat} (hx : p.tables.exec = Jvm.exec) (hb : c.code = code) (hr : meth.sig.returnType = ret) (hlocks : meth.locks = false) {pc : Nat} {H : Heap} {ls : Array Slot} (hdg : decode code pc = .ok (.ireturn, 1)) : W p l e room_1 s m #[Value.ref b] below meth c H [] 600000 7302250 (lw_Z below #[Value.ref b] s) (F0 m pc ls [.int 1]) := by
  intro T hT X
  obtain ⟨fs, hret, hrun, hended, hW, hframe⟩ := X.leave (v := some (.int 1)) (hlocks := hlocks) (fun h => by rw [hr] at h; cases h)
  have hmeth' : T.vm.method? m = some meth := X.method'
  refine ⟨T.setFrames fs, ?_, .returned (some (.int 1)), hrun, hended, rfl, ⟨_, rfl⟩, hW, hframe⟩
  jvm_step X.here [X.here.top, hx, hb, hdg, hmeth', hr, ret, narrow_b1]
  (try refine ⟨rfl, ?_⟩); (try refine ⟨rfl, ?_⟩)
  first | (intro acts; rw [hret _ acts rfl rfl rfl]) | rw [hret _ _ rfl rfl rfl]
  exact Steps.refl _
/-- what holds at the law's entry: the machine, the code, the tables' words (any of lw_tbl by 'hts w (by decide +kernel)'), the script of L ints xs at the cell b, what the Statement gives of the start (any of its parts by flat_of_before) -/
def lw_At (p : Program) (s : State) (m : MethodId) (meth : Method) (c : Code) (b L : Nat) (xs : Nat → Int32) : Prop :=
  p.tables.exec = Jvm.exec ∧ c.code = code ∧ meth.sig.returnType = ret ∧ c.maxLocals = 4 ∧ s.vm.findClass R_law = some m.cls ∧ (∀ w ∈ lw_tbl, w.before #[Value.ref b] s = true) ∧ va_X b L xs s s.heap ∧ b < s.heap.size ∧ meth.locks = false ∧ (Jvm.Cond.and given_1 narrow_1).before #[Value.ref b] s = true
set_option maxHeartbeats 4000000 in
set_option maxRecDepth 100000 in
theorem whole_start {p : Program} {e : Env} {s : State} {m : MethodId} {below : List Frame} {meth : Method} {c : Code} (l : Launch) {b L : Nat} {xs : Nat → Int32} (hL : L ≤ 3584) (C0 : lw_At p s m meth c b L xs) : W p l e room_1 s m #[Value.ref b] below meth c s.heap [] 0 0 (lw_Z below #[Value.ref b] s) (entryFrame m ([Value.ref b] : List Value).toArray 4) := by
  obtain ⟨hx, hb, hr, hml, hown, hts, hXs, hbl, hlocks, hgv⟩ := id C0
  have hA : ∀ q : Nat, s.heap.size ≤ q → (fun q : Nat => s.heap.size ≤ q) q := fun _ h => h
  have hbA : ¬ (fun q : Nat => s.heap.size ≤ q) b := Nat.not_le.mpr hbl
  have hnA : ∀ a : Nat, a < s.heap.size → ¬ (fun q : Nat => s.heap.size ≤ q) a := fun a h => Nat.not_le.mpr h
  obtain ⟨c0, i0, k0⟩ := u_known (C := RX0) (T := TX0) (N := 6) (n := 6) hts wsX00_tb (hts (.instantiable RX0 6) (wsL_law_r2_in _ (List.mem_of_getElem? (i := 9) rfl)))
  obtain ⟨c1, i1, k1⟩ := u_known (C := RX1) (T := TX1) (N := 5) (n := 5) hts wsX10_tb (hts (.instantiable RX1 5) (wsL_law_r2_in _ (List.mem_of_getElem? (i := 17) rfl)))
  obtain ⟨c3, i3, k3⟩ := u_known (C := RX3) (T := TX3) (N := 2) (n := 2) hts wsX30_tb (hts (.instantiable RX3 2) (wsL_law_r4_in _ (List.mem_of_getElem? (i := 12) rfl)))
  obtain ⟨c4, i4, k4⟩ := u_known (C := RX4) (T := TX4) (N := 2) (n := 2) hts wsX40_tb (hts (.instantiable RX4 2) (wsL_law_r4_in _ (List.mem_of_getElem? (i := 8) rfl)))
  obtain ⟨c5, i5, k5⟩ := u_known (C := RX5) (T := TX5) (N := 8) (n := 8) hts wsX50_tb (hts (.instantiable RX5 8) (wsL_law_r2_in _ (List.mem_of_getElem? (i := 5) rfl)))
  obtain ⟨c6, i6, k6⟩ := u_known (C := RX6) (T := TX6) (N := 5) (n := 5) hts wsX60_tb (hts (.instantiable RX6 5) (wsL_law_r2_in _ (List.mem_of_getElem? (i := 21) rfl)))
  obtain ⟨c7, i7, k7⟩ := u_known (C := RX7) (T := TX7) (N := 2) (n := 2) hts wsX70_tb (hts (.instantiable RX7 2) (wsL_law_r1_in _ (List.mem_of_getElem? (i := 14) rfl)))
  obtain ⟨c8, i8, k8⟩ := u_known (C := RX8) (T := TX8) (N := 6) (n := 6) hts wsX80_tb (hts (.instantiable RX8 6) (wsL_law_r2_in _ (List.mem_of_getElem? (i := 1) rfl)))
  obtain ⟨c9, i9, k9⟩ := u_known (C := RX9) (T := TX9) (N := 4) (n := 4) hts wsX90_tb (hts (.instantiable RX9 4) (wsL_law_r2_in _ (List.mem_of_getElem? (i := 13) rfl)))
  obtain ⟨c10, i10, k10⟩ := u_known (C := RX10) (T := TX10) (N := 14) (n := 14) hts wsX100_tb (hts (.instantiable RX10 14) (wsL_law_r1_in _ (List.mem_of_getElem? (i := 1) rfl)))
  obtain ⟨c11, i11, k11⟩ := u_known (C := RX11) (T := TX11) (N := 43) (n := 43) hts wsX110_tb (hts (.instantiable RX11 43) (wsL_law_r1_in _ (List.mem_of_getElem? (i := 4) rfl)))
  obtain ⟨dC, dI, hKc⟩ : ∃ (dC : Nat → ClassId) (dI : Nat → Nat → Nat), ∀ (k : Nat) (q : vw_C), classes[k]? = some q → u_Kn s q.1 q.2.1 q.2.2 (dC k) (dI k) := by
    refine ⟨fun k => [c0, c1, c7, c3, c4, c5, c6, c7, c8, c9, c10, c11].getD k c0, fun k => [i0, i1, i7, i3, i4, i5, i6, i7, i8, i9, i10, i11].getD k i0, ?_⟩
    intro k q hq
    match k, hq with
    | 0, hq => cases hq; exact k0
    | 1, hq => cases hq; exact k1
    | 2, hq => cases hq; exact k7
    | 3, hq => cases hq; exact k3
    | 4, hq => cases hq; exact k4
    | 5, hq => cases hq; exact k5
    | 6, hq => cases hq; exact k6
    | 7, hq => cases hq; exact k7
    | 8, hq => cases hq; exact k8
    | 9, hq => cases hq; exact k9
    | 10, hq => cases hq; exact k10
    | 11, hq => cases hq; exact k11
    | k + 12, hq => simp [classes] at hq
  obtain ⟨aB, kaB, paB, faB, gaB, haB⟩ := Cond.arrayClass_spec (hts (.arrayClass .byte) (wsL_law_r3_in _ (List.mem_of_getElem? (i := 8) rfl)))
  obtain ⟨aI, kaI, paI, faI, gaI, haI⟩ := Cond.arrayClass_spec (hts (.arrayClass .int) (wsL_law_r4_in _ (List.mem_of_getElem? (i := 20) rfl)))
  obtain ⟨aL, kaL, paL, faL, gaL, haL⟩ := Cond.arrayClass_spec (hts (.arrayClass .long) (wsL_law_r5_in _ (List.mem_of_getElem? (i := 5) rfl)))
  obtain ⟨aZ, kaZ, paZ, faZ, gaZ, haZ⟩ := Cond.arrayClass_spec (hts (.arrayClass .boolean) (wsL_law_r5_in _ (List.mem_of_getElem? (i := 14) rfl)))
  have hK : va_K (dC, dI) classes (jT ((dC, dI), aB, aI, aL, aZ)) s := by
    refine ⟨hKc, fun k q hq => ?_⟩
    match k, hq with
    | 0, hq => cases hq; exact ⟨fun n z => ⟨fun k h => (by cases h), kaB, gaB, paB, haB⟩, faB⟩
    | 1, hq => cases hq; exact ⟨fun n z => ⟨fun k h => (by cases h), kaI, gaI, paI, haI⟩, faI⟩
    | 2, hq => cases hq; exact ⟨fun n z => ⟨fun k h => (by cases h), kaL, gaL, paL, haL⟩, faL⟩
    | 3, hq => cases hq; exact ⟨fun n z => ⟨fun k h => (by cases h), kaZ, gaZ, paZ, haZ⟩, faZ⟩
    | k + 4, hq => simp at hq
  have hZ : sAll (fun q : Nat => s.heap.size ≤ q) s s.heap := ⟨va_Nw.of rfl (hts (.declares yHd) (List.mem_of_getElem? (i := 392) rfl)), st_long startT hgv (by decide) (hts (.laysStatic "HashSigner$HashOne" "ROUND_WORDS" "[J") (List.mem_of_getElem? (i := 417) rfl)) (hts (.initialized RX3) (wsL_law_r4_in _ (List.mem_of_getElem? (i := 13) rfl))) el_ROUND_WORDS.1.1 el_ROUND_WORDS.1.2 el_ROUND_WORDS.2 hnA, st_int startT hgv (by decide) (hts (.laysStatic "HashSigner$HashOne" "TARGETS" "[I") (List.mem_of_getElem? (i := 423) rfl)) (hts (.initialized RX3) (wsL_law_r4_in _ (List.mem_of_getElem? (i := 13) rfl))) el_TARGETS.1.1 el_TARGETS.1.2 el_TARGETS.2 hnA, st_int startT hgv (by decide) (hts (.laysStatic "HashSigner$HashOne" "TURNS" "[I") (List.mem_of_getElem? (i := 425) rfl)) (hts (.initialized RX3) (wsL_law_r4_in _ (List.mem_of_getElem? (i := 13) rfl))) el_TURNS.1.1 el_TURNS.1.2 el_TURNS.2 hnA, st_int startT hgv (by decide) (hts (.laysStatic "HashSigner$HashZero" "FIRST_SUMS" "[I") (List.mem_of_getElem? (i := 435) rfl)) (hts (.initialized RX4) (wsL_law_r4_in _ (List.mem_of_getElem? (i := 9) rfl))) el_FIRST_SUMS.1.1 el_FIRST_SUMS.1.2 el_FIRST_SUMS.2 hnA, st_int startT hgv (by decide) (hts (.laysStatic "HashSigner$HashZero" "CUBE_ROOTS" "[I") (List.mem_of_getElem? (i := 445) rfl)) (hts (.initialized RX4) (wsL_law_r4_in _ (List.mem_of_getElem? (i := 9) rfl))) el_CUBE_ROOTS.1.1 el_CUBE_ROOTS.1.2 el_CUBE_ROOTS.2 hnA⟩
  have hNW : nwA s := ⟨⟨va_Nw.of rfl (hts _ (List.mem_of_getElem? (i := 170) rfl)), va_Nw.of rfl (hts _ (List.mem_of_getElem? (i := 153) rfl))⟩, va_Nw.of rfl (hts _ (List.mem_of_getElem? (i := 150) rfl)), va_Nw.of rfl (hts _ (List.mem_of_getElem? (i := 167) rfl))⟩
  have hS : va_S (fun q : Nat => s.heap.size ≤ q) s.heap s.heap [] := va_S.rf
  have hP : va_P (dC, dI) classes [] s.heap := fun k q h => by simp at h
  have hD : va_D (fun q : Nat => s.heap.size ≤ q) [] := ⟨fun i j p q h => by simp at h, fun k q h => by simp at h⟩
  have hl := lv_entry ([.ref b]) (n := 4) (Nat.le_of_ble_eq_true rfl)
  rw [lg_entry_eq]
  have hJ : jOK p s m ([.ref b] : List Value).toArray c ((dC, dI), aB, aI, aL, aZ) (fun q : Nat => s.heap.size ≤ q) code 4 RL lw_tbl := ⟨⟨hx, hb, hml, hown, hts⟩, hK, hA, hZ⟩
  refine law_start (g := ((dC, dI), aB, aI, aL, aZ)) (A := fun q : Nat => s.heap.size ≤ q) hJ hXs hbl hbA hL hNW ?_ s.heap [] _ hP hD hS hl
  intro ws lv
  refine j_iconst hJ (1) dL_law_792 (by decide) ?_
  intro H locs ls hP1 hD1 hS1 hl1
  refine va_forget (fun q hq => hS1.2.2 q hq) ?_
  refine W.widen (k := 600000) (n := 7302250) (by decide) (by decide) ?_
  exact lw_ret hx hb hr hlocks dL_law_793
set_option maxHeartbeats 4000000 in
theorem lw_walk (l : Launch) (b : Addr) (xs : List Int32) : MetFree l x (headSpec (Jvm.Cond.code x code maxLocals ret :: tables_1) room_1) (lw_P b xs) (fun _ _ _ _ _ => True) lw_Q := by
  refine MetFree.of_bodyS (code := code) (maxLocals := maxLocals) (ret := ret) (by decide) ?_ ?_
  · intro args s m h hn
    obtain ⟨meth, c, h1, h2, h3, h4, h5, h6, -, -⟩ := Cond.code_spec hn (atoms_spec (ws := Jvm.Cond.code x code maxLocals ret :: tables_1) h _ List.mem_cons_self)
    exact ⟨meth, c, h1, h2, h3, h4, h5, h6⟩
  · intro p e s m args below meth c s₁ B hml0 hP _
    obtain ⟨rfl, hx, hbd, hgv⟩ := hP
    obtain ⟨scr, harrAt, hlist, hof, hsmall⟩ := hx
    obtain ⟨hcb, hkn, -, -⟩ := State.arrayAt?_spec harrAt
    have hown : s.vm.findClass R_law = some m.cls := findClass_of_methodNamed B.named
    have hts0 : ∀ c ∈ (Jvm.Cond.code x code maxLocals ret :: tables_1), c.before #[Value.ref b] s = true := atoms_spec (ws := Jvm.Cond.code x code maxLocals ret :: tables_1) B.pre
    have hts : ∀ w ∈ lw_tbl, w.before #[Value.ref b] s = true := k2_hts_sels lw_privs (fun w hw => hts0 w (List.mem_cons_of_mem _ hw)) lw_privs_ok
    have hml : c.maxLocals = 4 := B.maxLocals_eq (hts0 _ List.mem_cons_self)
    have X₀ : Stand p l e room_1 s m #[Value.ref b] below meth c s₁ [] 0 0 := Stand.of_body B
    have hh0 : s₁.heap = s.heap := by rw [B.state]; rfl
    have hsz : scr.slots.size = xs.length := by rw [← Array.length_toList, hlist, List.length_map]
    have hval : ∀ j : Nat, j < xs.length → scr.slots[j]? = some (.int (xs.getD j 0)) := fun j hj => by
      rw [← Array.getElem?_toList, hlist]
      simp [hj]
    have hbl : b < s.heap.size := (Array.getElem?_eq_some_iff.mp hcb).1
    have hX : va_X b xs.length (fun j => xs.getD j 0) s s.heap := ⟨scr, hcb, hof, hkn, hsz, hval⟩
    have K : W p l e room_1 s m #[Value.ref b] below meth c s₁.heap [] 0 0 (lw_Z below #[Value.ref b] s) (entryFrame m ([Value.ref b] : List Value).toArray 4) := by
      rw [hh0]
      exact whole_start l hbd ⟨B.exec, B.bytes, B.returns, hml, hown, hts, hX, hbl, B.notSynchronized, hgv⟩
    obtain ⟨t, a1, o, b1, b2, b3⟩ := K s₁ rfl X₀
    exact ⟨t, o, a1, b1, b2, b3⟩
theorem lw_pre_spec {args : Array Value} {s : State} (h : (Jvm.Cond.and given_1 narrow_1).before args s = true) (hr : rest_1_c.before args s = true) : ∃ (b : Addr) (xs : List Int32), lw_P b xs args s := by
  have hs := flat_of_before _ h
  have hq := flat_of_before _ hr
  have hc : (Cond.count 1).before args s = true := hs _ (by decide +kernel)
  have harr : (Cond.arrayOf (.arg 0) .int).before args s = true := hs _ (by decide +kernel)
  have hle : (Cond.le (.length (.arg 0)) (.int 3584)).before args s = true := hs _ (by decide +kernel)
  have hlen : (Cond.isInt (.length (.arg 0))).before args s = true := hq _ (by decide +kernel)
  have hall : (Cond.all (.arg 0) (.isInt (.elem (.arg 0) (.index 0)))).before args s = true := hq _ (by decide +kernel)
  obtain ⟨b, xs, hb, hx⟩ := State.ints_of_pre rfl harr hlen hall
  have hsm : xs.length < 2 ^ 31 := hx.choose_spec.2.2.2
  have hev : (Term.length (.arg 0)).eval args s none [] s = some (.int xs.length.toInt32) := hx.length_eval hb
  have hv := Cond.le_ints hev (show (Term.int 3584).eval args s none [] s = some (.int 3584) from rfl)
  have hd : xs.length.toInt32 ≤ 3584 := by
    simpa [Cond.before, Cond.holds, hv] using hle
  have hN : xs.length ≤ 3584 := (Int32.ofNat_le_ofNat hsm (by decide)).mp (show Int32.ofNat xs.length ≤ Int32.ofNat 3584 from hd)
  exact ⟨b, xs, Cond.one_arg hc (show args[0]? = some (.ref b) from hb), hx, hN, h⟩
theorem lw_comes (l : Launch) : Comes l x (Jvm.Cond.code x code maxLocals ret :: tables_1) room_1 (fun tb e args s => Calls_1 tb e args s ∧ rest_1 tb e args s ∧ Pre_1 tb e args s)
    (fun _ _ args s o t => lw_Q args s o t) := by
  intro p e ha hc hk s m args below hf hfit hheap happ hpre
  obtain ⟨b, xs, hP⟩ := lw_pre_spec hpre.2.2 hpre.2.1
  obtain ⟨k, o, h1, h2, h3, hQ⟩ := lw_walk l b xs p e ha hc hk s m args below hf ((Spec.applies_iff_loose hf).mp happ).1 hP trivial
  exact ⟨k, o, h1, h2, h3, hQ⟩
theorem lw_frame {s t : State} {o : Outcome} {args : Array Value} (h : Framed s o t [] 600000 7302250) :
    Framed s o t (fieldLocs frame_1_writes args s ++ arrayLocs frame_1_arrays args s ++ staticLocs frame_1_statics s) 600000 7302250 := h
theorem lw_limb (L : Cond) (hL : ∀ (args : Array Value) (s t : State), L.after args s (.returned (some (.int 1))) t = true) :
    ArmFor flags0 classFile x code maxLocals ret World_1 tables_1 room_1 Calls_1 rest_1 Pre_1
      (fun tb e a s o t => postC L tb e a s o t ∧ Framed s o t (fieldLocs frame_1_writes a s ++ arrayLocs frame_1_arrays a s ++ staticLocs frame_1_statics s) 600000 7302250) := by
  intro l _ _ _ p e ha hc hk s m args below hf hfit hheap happ hpre
  obtain ⟨k, o, h1, h2, h3, rfl, hF⟩ := lw_comes l p e ha hc hk s m args below hf hfit hheap happ hpre
  exact ⟨k, _, h1, h2, h3, hL args s _, lw_frame hF⟩
theorem i_vc : Claimed_1_1 ∧ Claimed_1_2 := ⟨lw_limb limb_1_1 (fun args s t => by simp [limb_1_1, Cond.after, Cond.holds, Cond.value]), lw_limb limb_1_2 (fun args s t => Cond.after_iff.mpr (by
  first | (rw [show limb_1_2 = Cond.eq .result (.int 1) from rfl, Cond.eq_ints (x := 1) (y := 1) rfl rfl]; simp; done) | (simp [limb_1_2, Cond.value, Term.eval]; done)))⟩
