/-! a call, its new world given: linear checks in place of jset -/
theorem jnew_ok {A : Nat → Prop} {D : va_G} {cl : List vw_C} {isC isR : List Nat} {W0 w1 ws ws2 : va_W} {H H1 : Heap} {N : Nat} (hP : va_P D cl ws H) (hD : va_D A ws) (hC : isC.map (fun i => ws[i]?) = W0.map some) (hlen : ws2.length = N) (hcov : (List.range N).all (fun k => isC.contains k || isR.contains k) = true)
    (had : ws2.map Prod.fst = ws.map Prod.fst) (h2 : isC.map (fun i => ws2[i]?) = w1.map some) (h3 : isR.map (fun i => ws2[i]?) = isR.map (fun i => ws[i]?))
    (hk : ∀ q : Nat, q < H.size → ¬ va_A W0 H.size q → H1[q]? = H[q]?) (hP1 : va_P D cl w1 H1) : va_P D cl ws2 H1 ∧ va_D A ws2 := by
  have ad : ∀ (k : Nat) (q : Nat × va_E), ws2[k]? = some q → ∃ q0 : Nat × va_E, ws[k]? = some q0 ∧ q0.1 = q.1 := by
    intro k q h
    have e : (ws2.map Prod.fst)[k]? = some q.1 := by rw [List.getElem?_map, h]; rfl
    rw [had, List.getElem?_map] at e
    cases hw : ws[k]? with
    | none => rw [hw] at e; cases e
    | some q0 => rw [hw] at e; exact ⟨q0, rfl, Option.some.inj e⟩
  refine ⟨fun k q h => ?_, fun i j x y hx hy hxy => ?_, fun k q h => ?_⟩
  · by_cases hkC : k ∈ isC
    · obtain ⟨j, hj⟩ := List.getElem?_of_mem hkC
      have e : (isC.map (fun i => ws2[i]?))[j]? = some (some q) := by rw [List.getElem?_map, hj]; exact congrArg some h
      rw [h2, List.getElem?_map] at e
      cases hw : w1[j]? with
      | none => rw [hw] at e; cases e
      | some w => rw [hw] at e; exact (Option.some.inj (Option.some.inj e)) ▸ hP1 j w hw
    · have hkN : k < N := by rw [← hlen]; exact (List.getElem?_eq_some_iff.mp h).1
      have hkR : k ∈ isR := by
        have := List.all_eq_true.mp hcov k (List.mem_range.mpr hkN)
        rw [Bool.or_eq_true, List.contains_iff_mem, List.contains_iff_mem] at this
        exact this.resolve_left hkC
      obtain ⟨j, hj⟩ := List.getElem?_of_mem hkR
      have e : (isR.map (fun i => ws2[i]?))[j]? = some (some q) := by rw [List.getElem?_map, hj]; exact congrArg some h
      rw [h3, List.getElem?_map, hj] at e
      have hw : ws[k]? = some q := Option.some.inj e
      refine (hP k q hw).kept (hk q.1 (hP k q hw).lt (fun hA => ?_))
      rcases hA with ⟨j2, e2, hj2⟩ | hA
      · have e1 : (isC.map (fun i => ws[i]?))[j2]? = some (some (q.1, e2)) := by rw [hC, List.getElem?_map, hj2]; rfl
        rw [List.getElem?_map] at e1
        cases hi : isC[j2]? with
        | none => rw [hi] at e1; cases e1
        | some i =>
          rw [hi] at e1
          have e3 : ws[i]? = some (q.1, e2) := Option.some.inj e1
          have hik := hD.1 i k _ _ e3 hw rfl
          subst hik
          exact hkC (List.mem_of_getElem? hi)
      · exact absurd (hP k q hw).lt (Nat.not_lt.mpr hA)
  · obtain ⟨x0, a1, a2⟩ := ad i x hx
    obtain ⟨y0, b1, b2⟩ := ad j y hy
    exact hD.1 i j x0 y0 a1 b1 (by rw [a2, b2, hxy])
  · obtain ⟨x0, a1, a2⟩ := ad k q h
    rw [← a2]
    exact hD.2 k x0 a1
