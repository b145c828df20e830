/-! a call, its new world given: linear checks in place of jset -/
theorem jnew_ok {A : Nat → Prop} {D : va_G} {cl : List vw_C} {isC isR : List Nat} {W0 w1 ws ws2 : va_W} {H H1 : Heap} {N : Nat} (hP : va_P D cl ws H) (hD : va_D A ws) (hC : isC.map (fun i => ws[i]?) = W0.map some) (hlen : ws2.length = N) (hcov : (List.range N).all (fun k => isC.contains k || isR.contains k) = true)
    (had : ws2.map Prod.fst = ws.map Prod.fst) (h2 : isC.map (fun i => ws2[i]?) = w1.map some) (h3 : isR.map (fun i => ws2[i]?) = isR.map (fun i => ws[i]?))
    (hk : ∀ q : Nat, q < H.size → ¬ va_A W0 H.size q → H1[q]? = H[q]?) (hP1 : va_P D cl w1 H1) : va_P D cl ws2 H1 ∧ va_D A ws2 := by
  have ad : ∀ (k : Nat) (q : Nat × va_E), ws2[k]? = some q → ∃ q0 : Nat × va_E, ws[k]? = some q0 ∧ q0.1 = q.1 := by
    intro k q h
    have e : (ws2.map Prod.fst)[k]? = some q.1 := by rw [List.getElem?_map, h]; rfl
    rw [had, List.getElem?_map] at e
    cases hw : ws[k]? with
    | none => rw [hw] at e; cases e
    | some q0 => rw [hw] at e; exact ⟨q0, rfl, Option.some.inj e⟩
  refine ⟨fun k q h => ?_, fun i j x y hx hy hxy => ?_, fun k q h => ?_⟩
  · by_cases hkC : k ∈ isC
    · obtain ⟨j, hj⟩ := List.getElem?_of_mem hkC
      have e : (isC.map (fun i => ws2[i]?))[j]? = some (some q) := by rw [List.getElem?_map, hj]; exact congrArg some h
      rw [h2, List.getElem?_map] at e
      cases hw : w1[j]? with
      | none => rw [hw] at e; cases e
      | some w => rw [hw] at e; exact (Option.some.inj (Option.some.inj e)) ▸ hP1 j w hw
    · have hkN : k < N := by rw [← hlen]; exact (List.getElem?_eq_some_iff.mp h).1
      have hkR : k ∈ isR := by
        have := List.all_eq_true.mp hcov k (List.mem_range.mpr hkN)
        rw [Bool.or_eq_true, List.contains_iff_mem, List.contains_iff_mem] at this
        exact this.resolve_left hkC
      obtain ⟨j, hj⟩ := List.getElem?_of_mem hkR
      have e : (isR.map (fun i => ws2[i]?))[j]? = some (some q) := by rw [List.getElem?_map, hj]; exact congrArg some h
      rw [h3, List.getElem?_map, hj] at e
      have hw : ws[k]? = some q := Option.some.inj e
      refine (hP k q hw).kept (hk q.1 (hP k q hw).lt (fun hA => ?_))
      rcases hA with ⟨j2, e2, hj2⟩ | hA
      · have e1 : (isC.map (fun i => ws[i]?))[j2]? = some (some (q.1, e2)) := by rw [hC, List.getElem?_map, hj2]; rfl
        rw [List.getElem?_map] at e1
        cases hi : isC[j2]? with
        | none => rw [hi] at e1; cases e1
        | some i =>
          rw [hi] at e1
          have e3 : ws[i]? = some (q.1, e2) := Option.some.inj e1
          have hik := hD.1 i k _ _ e3 hw rfl
          subst hik
          exact hkC (List.mem_of_getElem? hi)
      · exact absurd (hP k q hw).lt (Nat.not_lt.mpr hA)
  · obtain ⟨x0, a1, a2⟩ := ad i x hx
    obtain ⟨y0, b1, b2⟩ := ad j y hy
    exact hD.1 i j x0 y0 a1 b1 (by rw [a2, b2, hxy])
  · obtain ⟨x0, a1, a2⟩ := ad k q h
    rw [← a2]
    exact hD.2 k x0 a1
section JR2
variable {p : Program} {l : Launch} {e : Env} {R : Room} {s : State} {m : MethodId} {args : Array Value} {below : List Frame} {meth : Method} {c : Code} {g : jG} {A : Nat → Prop} {nL : Nat} {Q : State → Prop} {cells slots : Nat}
variable {ws : va_W} {lv : List (Nat × Value)} {pc : Nat} {st : List Value} {cc : ByteArray} {own : String} {Ts : List Cond}
theorem j_callV2 {S : Type} (hX : jOK p s m args c g A cc nL own Ts) {y : MethodName} {wsC ws' : List Cond} {rm : Room} {As : List Value} {W0 : va_W} {v : S → Option Value} {P : S → Prop} {W1 : S → va_W} {b : Nat} {C : String} {bytes : ByteArray} {maxL index : Nat} {ret : Option FieldType} (n : Nat) (hc : jC l g y wsC rm (.ref b :: As) W0 v P W1) (hG : GoodIn Ts (wsV own index C y wsC)) (hd0 : y.cls = C ∧ y.cls ≠ "java/lang/invoke/MethodHandle" ∧ y.cls ≠ "java/lang/invoke/VarHandle" ∧ (parseMethodDescriptor y.desc).map (fun d => d.parameters.length) = some n) (hw : wsC = Cond.code y bytes maxL ret :: ws') (hrm : rm.cells = 0 ∧ rm.slots = 0) (hR : rm.frames + 1 ≤ R.frames ∧ 8 + (maxL + 11) + rm.locals ≤ R.locals) (ci q0 : Nat) {T : u_T} {N0 : Nat} {fs : List Value} (hci : classes[ci]? = some (C, T, N0)) (hq0 : ws[q0]? = some (b, .inr (ci, fs))) (isC isR : List Nat) (N : Nat) (hC : isC.map (fun i => ws[i]?) = W0.map some) (hnd : va_nd isC = true) (ws2 : S → va_W) (hlen : ∀ u, (ws2 u).length = N) (hcov : (List.range N).all (fun k => isC.contains k || isR.contains k) = true) (ads : List Nat) (hads : ws.map Prod.fst = ads) (had : ∀ u, (ws2 u).map Prod.fst = ads) (h2 : ∀ u, isC.map (fun i => (ws2 u)[i]?) = (W1 u).map some) (wr : va_W) (hwr : isR.map (fun i => ws[i]?) = wr.map some) (h3 : ∀ u, isR.map (fun i => (ws2 u)[i]?) = wr.map some) (hn : As.length = n) (rest : List Value) (hst : st = As.reverse ++ .ref b :: rest) (hro : (rest.map fun v => v.category).sum ≤ 8) (hf : cells ≤ R.cells ∧ slots ≤ R.slots) (hd : decode cc pc = .ok (.invokevirtual index, 3)) (kk : ∀ u : S, P u → J p l e R s m args below meth c g A nL Q cells slots (ws2 u) lv (pc + 3) ((v u).toList ++ rest)) : J p l e R s m args below meth c g A nL Q cells slots ws lv pc st := by
  intro H locs ls hP hD hS hl
  have hPc : va_P g.1 classes W0 H := jsub hP hC
  have hDc : va_D A W0 := hD.sub isC hnd hC
  have hFc := va_free (wc := W0) hD hS hX.2.2.1 isC hC
  refine jcall (va_runV (As := As) (rest := rest) (bytes := bytes) (maxL := maxL) (ret := ret) hX.1 (hc H.size) (cwV n hX.1.2.2.2.2 hG hw hrm.1 hrm.2 hd0 hR) ⟨jP.blind, va_recv (q := (C, T, N0)) hX.2.1 hP hci hq0, fun U hU hW => ⟨rfl, by rw [hU], by rw [hU]; exact hPc, va_K.moved hW.alike hX.2.1, hDc.weaken (fun _ _ _ _ => trivial), by rw [hU]; exact sAll.moved hW.alike (hX.2.2.2.at_call hS hFc)⟩⟩ rfl hn hl.1 hst (lv_room hro) hd ⟨hf.1, hf.2⟩) hS (fun q _ h => hFc q h) hFc (fun u H1 locs1 hu hP1 hk hS1 => ?_)
  obtain ⟨a1, a2⟩ := jnew_ok hP hD hC (hlen u) hcov ((had u).trans hads.symm) (h2 u) ((h3 u).trans hwr.symm) hk hP1
  exact kk u hu H1 locs1 ls a1 a2 hS1 hl
theorem j_callS2 {S : Type} (hX : jOK p s m args c g A cc nL own Ts) {y : MethodName} {wsC ws' : List Cond} {rm : Room} {As : List Value} {W0 : va_W} {v : S → Option Value} {P : S → Prop} {W1 : S → va_W} {bytes : ByteArray} {maxL index : Nat} {ret : Option FieldType} (n : Nat) (hc : jC l g y wsC rm (As) W0 v P W1) (hG : GoodIn Ts (va_wsS own index y wsC)) (hd0 : y.cls ≠ "java/lang/invoke/MethodHandle" ∧ y.cls ≠ "java/lang/invoke/VarHandle" ∧ (parseMethodDescriptor y.desc).map (fun d => d.parameters.length) = some n) (hw : wsC = Cond.code y bytes maxL ret :: ws') (hrm : rm.cells = 0 ∧ rm.slots = 0) (hR : rm.frames + 1 ≤ R.frames ∧ 8 + (maxL + 11) + rm.locals ≤ R.locals) (isC isR : List Nat) (N : Nat) (hC : isC.map (fun i => ws[i]?) = W0.map some) (hnd : va_nd isC = true) (ws2 : S → va_W) (hlen : ∀ u, (ws2 u).length = N) (hcov : (List.range N).all (fun k => isC.contains k || isR.contains k) = true) (ads : List Nat) (hads : ws.map Prod.fst = ads) (had : ∀ u, (ws2 u).map Prod.fst = ads) (h2 : ∀ u, isC.map (fun i => (ws2 u)[i]?) = (W1 u).map some) (wr : va_W) (hwr : isR.map (fun i => ws[i]?) = wr.map some) (h3 : ∀ u, isR.map (fun i => (ws2 u)[i]?) = wr.map some) (hn : As.length = n) (rest : List Value) (hst : st = As.reverse ++ rest) (hro : (rest.map fun v => v.category).sum ≤ 8) (hf : cells ≤ R.cells ∧ slots ≤ R.slots) (hd : decode cc pc = .ok (.invokestatic index, 3)) (kk : ∀ u : S, P u → J p l e R s m args below meth c g A nL Q cells slots (ws2 u) lv (pc + 3) ((v u).toList ++ rest)) : J p l e R s m args below meth c g A nL Q cells slots ws lv pc st := by
  intro H locs ls hP hD hS hl
  have hPc : va_P g.1 classes W0 H := jsub hP hC
  have hDc : va_D A W0 := hD.sub isC hnd hC
  have hFc := va_free (wc := W0) hD hS hX.2.2.1 isC hC
  refine jcall (va_runS (As := As) (rest := rest) (bytes := bytes) (maxL := maxL) (ret := ret) hX.1 (hc H.size) (va_cwS n hX.1.2.2.2.2 hG hw hrm.1 hrm.2 hd0 hR) ⟨jP.blind, fun U hU hW => ⟨rfl, by rw [hU], by rw [hU]; exact hPc, va_K.moved hW.alike hX.2.1, hDc.weaken (fun _ _ _ _ => trivial), by rw [hU]; exact sAll.moved hW.alike (hX.2.2.2.at_call hS hFc)⟩⟩ rfl hn hl.1 hst (lv_room hro) hd ⟨hf.1, hf.2⟩) hS (fun q _ h => hFc q h) hFc (fun u H1 locs1 hu hP1 hk hS1 => ?_)
  obtain ⟨a1, a2⟩ := jnew_ok hP hD hC (hlen u) hcov ((had u).trans hads.symm) (h2 u) ((h3 u).trans hwr.symm) hk hP1
  exact kk u hu H1 locs1 ls a1 a2 hS1 hl
theorem j_callA2 {S : Type} (hX : jOK p s m args c g A cc nL own Ts) {y : MethodName} {wsC ws' : List Cond} {rm : Room} {As : List Value} {W0 : va_W} {v : S → Option Value} {P : S → Prop} {W1 : S → va_W} {b : Nat} {C : String} {bytes : ByteArray} {maxL index : Nat} {ret : Option FieldType} (n : Nat) (hc : jC l g y wsC rm (.ref b :: As) W0 v P W1) {owner : String} {x : MethodName} (hG : GoodIn Ts (va_wsU own index C owner x y wsC)) (hx : (⟨owner, x.name, x.desc⟩ : MethodName) = yHd) (hd0 : owner ≠ "java/lang/invoke/MethodHandle" ∧ owner ≠ "java/lang/invoke/VarHandle" ∧ (parseMethodDescriptor x.desc).map (fun d => d.parameters.length) = some n) (hw : wsC = Cond.code y bytes maxL ret :: ws') (hrm : rm.cells = 0 ∧ rm.slots = 0) (hR : rm.frames + 1 ≤ R.frames ∧ 8 + (maxL + 11) + rm.locals ≤ R.locals) (ci q0 : Nat) {T : u_T} {N0 : Nat} {fs : List Value} (hci : classes[ci]? = some (C, T, N0)) (hq0 : ws[q0]? = some (b, .inr (ci, fs))) (isC isR : List Nat) (N : Nat) (hC : isC.map (fun i => ws[i]?) = W0.map some) (hnd : va_nd isC = true) (ws2 : S → va_W) (hlen : ∀ u, (ws2 u).length = N) (hcov : (List.range N).all (fun k => isC.contains k || isR.contains k) = true) (ads : List Nat) (hads : ws.map Prod.fst = ads) (had : ∀ u, (ws2 u).map Prod.fst = ads) (h2 : ∀ u, isC.map (fun i => (ws2 u)[i]?) = (W1 u).map some) (wr : va_W) (hwr : isR.map (fun i => ws[i]?) = wr.map some) (h3 : ∀ u, isR.map (fun i => (ws2 u)[i]?) = wr.map some) (hn : As.length = n) (rest : List Value) (hst : st = As.reverse ++ .ref b :: rest) (hro : (rest.map fun v => v.category).sum ≤ 8) (hf : cells ≤ R.cells ∧ slots ≤ R.slots) (hd : decode cc pc = .ok (.invokevirtual index, 3)) (kk : ∀ u : S, P u → J p l e R s m args below meth c g A nL Q cells slots (ws2 u) lv (pc + 3) ((v u).toList ++ rest)) : J p l e R s m args below meth c g A nL Q cells slots ws lv pc st := by
  intro H locs ls hP hD hS hl
  have hPc : va_P g.1 classes W0 H := jsub hP hC
  have hDc : va_D A W0 := hD.sub isC hnd hC
  have hFc := va_free (wc := W0) hD hS hX.2.2.1 isC hC
  refine jcall (va_runU (As := As) (rest := rest) (bytes := bytes) (maxL := maxL) (ret := ret) hX.1 (hc H.size) (va_cwA n hX.1.2.2.2.2 hG hw hrm.1 hrm.2 (hx ▸ hX.2.2.2.1) hd0 hR) ⟨jP.blind, va_recv (q := (C, T, N0)) hX.2.1 hP hci hq0, fun U hU hW => ⟨rfl, by rw [hU], by rw [hU]; exact hPc, va_K.moved hW.alike hX.2.1, hDc.weaken (fun _ _ _ _ => trivial), by rw [hU]; exact sAll.moved hW.alike (hX.2.2.2.at_call hS hFc)⟩⟩ rfl hn hl.1 hst (lv_room hro) hd ⟨hf.1, hf.2⟩) hS (fun q _ h => hFc q h) hFc (fun u H1 locs1 hu hP1 hk hS1 => ?_)
  obtain ⟨a1, a2⟩ := jnew_ok hP hD hC (hlen u) hcov ((had u).trans hads.symm) (h2 u) ((h3 u).trans hwr.symm) hk hP1
  exact kk u hu H1 locs1 ls a1 a2 hS1 hl
end JR2
