theorem gath_step {fm n : Nat} {sd : Nat → Int32} {ly tr k b nv : Nat} {LL L2 lv : Nat → Int32} (hn : n ≤ 16) (hnv : nv = k * n) (hT : L2 = putL LL nv (slice lv b n)) (hs : slice lv b n = LF fm n sd ly tr k) (hL : ∀ j, j < k → slice LL (j * n) n = LF fm n sd ly tr j) : ∀ j, j < k + 1 → slice L2 (j * n) n = LF fm n sd ly tr j := by
  intro j hj
  subst hnv
  rw [hs] at hT
  by_cases e : j = k
  · subst e
    rw [hT, slice_put (by rw [LF_length (by omega)])]
  · rw [hT, slice_keep (Or.inl (Nat.mul_le_mul_right n (show j + 1 ≤ k by omega)))]
    exact hL j (by omega)
theorem four_mul {k n : Nat} (hk : k < 4) (hn : n ≤ 16) : k * n + n ≤ 64 := by
  have := Nat.mul_le_mul (show k + 1 ≤ 4 by omega) hn
  rw [Nat.succ_mul] at this
  omega

set_option maxHeartbeats 4000000 in
set_option maxRecDepth 100000 in
/-- Trees.gatherLeaves -/
theorem c_gather (l : Launch) (g : jG) (te : Nat) (lvl : Nat) (ch : Nat) (lvr : Nat) (kna : Nat) (dga : Nat) (enr : Nat) (hh : Nat) (inr : Nat) (outr : Nat) (zo : Nat) (on : Nat) (sp : Nat) (fm : Nat) (nn : Nat) (ht : Nat) (lys : Nat) (fa : Nat) (mk : Nat) (sdr : Nat) (oly : Int32) (otr : Int32) (sda : Nat) (sd : Nat → Int32) (ina : Nat) (ni : Nat) (fi : Nat → Int32) (outa : Nat) (no : Nat) (fo : Nat → Int32) (sa : Nat) (wa : Nat) (S0 : Nat → Int32) (w0 : Nat → Int32) (aa : Nat) (ba : Nat) (A0 : Nat → Int64) (B0 : Nat → Int64) (lva : Nat) (lvs : Nat → Int32) (kn : Nat → Int32) (ena : Nat) (ne : Nat) (ef : Nat → Int32) (lvla : Nat) (nlv : Nat) (lf : Nat → Int32) (ly : Nat) (tr : Nat) (hfm : fm < 2) (hnn : nn ≤ 16) (hB : isB sd) (hno : no ≤ 32) (hBo : isB fo) (hni0 : ni ≤ 768) (hly : ly < 2) (htr : tr < 4) (hne : ne ≤ 560) (hEB : isB ef) (hLB : isB lvs) (hCa : cache fm nn sd lvs kn) (hht : ht ≤ 2) (hVB : isB lf) : jC l g yX9_gatherLeaves wsX9_gatherLeaves ({ frames := 5, cells := 0, slots := 0, locals := 142 } : Room) [.ref te, .int (nI ly), .int (nI tr)] [oB te 9 [.ref lvl, .ref sp, .ref hh, .ref ch], oB ch 0 [.ref lvr, .ref kna, .ref dga, .ref enr, .ref sp, .ref hh], oB hh 5 [.ref inr, .ref outr, .ref zo, .ref on, .ref sp, .ref sdr, .int oly, .int otr], oB sp 8 [.int (nI fm), .int (nI nn), .int (nI ht), .int (nI lys), .int (nI fa), .int (nI mk)], oB sdr 7 [.ref sda, .int (nI 48)], bA g sda 48 sd, oB inr 7 [.ref ina, .int (nI ni)], bA g ina 768 fi, oB outr 7 [.ref outa, .int (nI no)], bA g outa 32 fo, oB zo 4 [.ref sa, .ref wa], iA g sa 8 S0, iA g wa 64 w0, oB on 3 [.ref aa, .ref ba], lA g aa 25 A0, lA g ba 25 B0, oB lvr 7 [.ref lva, .int (nI 512)], bA g lva 512 lvs, zA g kna 32 kn, oB enr 7 [.ref ena, .int (nI ne)], bA g ena 560 ef, oB lvl 7 [.ref lvla, .int (nI nlv)], bA g lvla 256 lf] (fun jj : Nat × (Nat → Int32) × (Nat → Int32) × (Nat → Int64) × (Nat → Int64) × Nat × (Nat → Int32) × (Nat → Int32) × (Nat → Int32) × (Nat → Int32) × Nat × (Nat → Int32) × (Nat → Int32) => none) (fun jj : Nat × (Nat → Int32) × (Nat → Int32) × (Nat → Int64) × (Nat → Int64) × Nat × (Nat → Int32) × (Nat → Int32) × (Nat → Int32) × (Nat → Int32) × Nat × (Nat → Int32) × (Nat → Int32) => ((jj.2.2.2.2.2.1 ≤ 768 ∧ jj.1 ≤ 32 ∧ jj.2.2.2.2.2.2.2.2.2.2.1 ≤ 560) ∧ isB jj.2.2.2.2.2.2.2.1 ∧ isB jj.2.2.2.2.2.2.2.2.1 ∧ isB jj.2.2.2.2.2.2.2.2.2.2.2.1 ∧ cache fm nn sd jj.2.2.2.2.2.2.2.2.1 jj.2.2.2.2.2.2.2.2.2.1) ∧ isB jj.2.2.2.2.2.2.2.2.2.2.2.2 ∧ ∀ j, j < 2 ^ ht → slice jj.2.2.2.2.2.2.2.2.2.2.2.2 (j * nn) nn = LF fm nn sd ly tr j) (fun jj : Nat × (Nat → Int32) × (Nat → Int32) × (Nat → Int64) × (Nat → Int64) × Nat × (Nat → Int32) × (Nat → Int32) × (Nat → Int32) × (Nat → Int32) × Nat × (Nat → Int32) × (Nat → Int32) => [oB te 9 [.ref lvl, .ref sp, .ref hh, .ref ch], oB ch 0 [.ref lvr, .ref kna, .ref dga, .ref enr, .ref sp, .ref hh], oB hh 5 [.ref inr, .ref outr, .ref zo, .ref on, .ref sp, .ref sdr, .int (nI ly), .int (nI tr)], oB sp 8 [.int (nI fm), .int (nI nn), .int (nI ht), .int (nI lys), .int (nI fa), .int (nI mk)], oB sdr 7 [.ref sda, .int (nI 48)], bA g sda 48 sd, oB inr 7 [.ref ina, .int (nI jj.2.2.2.2.2.1)], bA g ina 768 jj.2.2.2.2.2.2.1, oB outr 7 [.ref outa, .int (nI jj.1)], bA g outa 32 jj.2.2.2.2.2.2.2.1, oB zo 4 [.ref sa, .ref wa], iA g sa 8 jj.2.1, iA g wa 64 jj.2.2.1, oB on 3 [.ref aa, .ref ba], lA g aa 25 jj.2.2.2.1, lA g ba 25 jj.2.2.2.2.1, oB lvr 7 [.ref lva, .int (nI 512)], bA g lva 512 jj.2.2.2.2.2.2.2.2.1, zA g kna 32 jj.2.2.2.2.2.2.2.2.2.1, oB enr 7 [.ref ena, .int (nI jj.2.2.2.2.2.2.2.2.2.2.1)], bA g ena 560 jj.2.2.2.2.2.2.2.2.2.2.2.1, oB lvl 7 [.ref lvla, .int (nI (2 ^ ht * nn))], bA g lvla 256 jj.2.2.2.2.2.2.2.2.2.2.2.2]) := by
  refine jC.of (cc := cX9_gatherLeaves) (own := RX9) (maxL := 4) (ret := none) (by decide +kernel) rfl rfl (Nat.le_of_ble_eq_true rfl) (fun u hu => rfl) ?_
  intro p e s m below meth c A Q hX hret
  have in0 : ∀ w ∈ wsX00, w ∈ wsX9_gatherLeaves := (fun w h => List.mem_cons_of_mem _ (List.mem_append_left _ (List.mem_append_left _ (List.mem_append_left _ (List.mem_append_left _ (List.mem_append_left _ (List.mem_append_right _ h)))))))
  have in8 : ∀ w ∈ wsX80, w ∈ wsX9_gatherLeaves := (fun w h => List.mem_cons_of_mem _ (List.mem_append_left _ (List.mem_append_left _ (List.mem_append_left _ (List.mem_append_left _ (List.mem_append_right _ h))))))
  have in9 : ∀ w ∈ wsX90, w ∈ wsX9_gatherLeaves := (fun w h => List.mem_cons_of_mem _ (List.mem_append_left _ (List.mem_append_left _ (List.mem_append_left _ (List.mem_append_left _ (List.mem_append_left _ (List.mem_append_left _ (List.mem_append_right _ h))))))))
  have hp4 : 2 ^ ht ≤ 2 ^ 2 := Nat.pow_le_pow_right (by decide) hht
  have hp0 := Nat.two_pow_pos ht
  refine j_aload_n hX 0 dX9_gatherLeaves_0 rfl ?_
  refine j_get hX in9 9 0 0 (v := .ref lvl) rfl rfl (by decide) (List.mem_of_getElem? (i := 1) rfl) rfl rfl dX9_gatherLeaves_1 ?_
  refine j_callV hX 0 (c_clear l g lvl lvla (nI nlv) ) gX9_gatherLeaves_X7_clear (by decide +kernel) rfl ⟨rfl, rfl⟩ ⟨Nat.le_of_ble_eq_true rfl, Nat.le_of_ble_eq_true rfl⟩ 7 21 rfl rfl [21] rfl (by decide) (fun _ => rfl) rfl [] rfl (Nat.le_of_ble_eq_true rfl) ⟨Nat.le_refl _, Nat.le_refl _⟩ dX9_gatherLeaves_4 ?_
  intro _ hu_1
  refine j_w [oB te 9 [.ref lvl, .ref sp, .ref hh, .ref ch], oB ch 0 [.ref lvr, .ref kna, .ref dga, .ref enr, .ref sp, .ref hh], oB hh 5 [.ref inr, .ref outr, .ref zo, .ref on, .ref sp, .ref sdr, .int oly, .int otr], oB sp 8 [.int (nI fm), .int (nI nn), .int (nI ht), .int (nI lys), .int (nI fa), .int (nI mk)], oB sdr 7 [.ref sda, .int (nI 48)], bA g sda 48 sd, oB inr 7 [.ref ina, .int (nI ni)], bA g ina 768 fi, oB outr 7 [.ref outa, .int (nI no)], bA g outa 32 fo, oB zo 4 [.ref sa, .ref wa], iA g sa 8 S0, iA g wa 64 w0, oB on 3 [.ref aa, .ref ba], lA g aa 25 A0, lA g ba 25 B0, oB lvr 7 [.ref lva, .int (nI 512)], bA g lva 512 lvs, zA g kna 32 kn, oB enr 7 [.ref ena, .int (nI ne)], bA g ena 560 ef, oB lvl 7 [.ref lvla, .int (nI 0)], bA g lvla 256 lf] rfl ?_
  refine j_st [] rfl ?_
  refine j_iconst hX (0) dX9_gatherLeaves_7 (by decide) ?_
  refine j_st [.int (nI 0)] rfl ?_
  refine j_istore_n hX 3 [(3, .int (nI 0)), (0, .ref te), (1, .int (nI ly)), (2, .int (nI tr))] dX9_gatherLeaves_8 rfl (by decide) rfl ?_
  have lp_2 : ∀ (n_3 : Nat) (k : Nat) (oly1 : Int32) (otr1 : Int32) (no1 : Nat) (S1 : Nat → Int32) (w1 : Nat → Int32) (A1 : Nat → Int64) (B1 : Nat → Int64) (nl : Nat) (G : Nat → Int32) (FO : Nat → Int32) (L2 : Nat → Int32) (K2 : Nat → Int32) (ne2 : Nat) (E2 : Nat → Int32) (nv : Nat) (LL : Nat → Int32), (2 ^ ht - k < n_3) → (k ≤ 2 ^ ht) → (0 < k → oly1 = nI ly ∧ otr1 = nI tr) → (nl ≤ 768 ∧ no1 ≤ 32 ∧ ne2 ≤ 560) → (isB FO) → (isB L2) → (isB E2) → (cache fm nn sd L2 K2) → (isB LL) → (nv = k * nn) → (∀ j, j < k → slice LL (j * nn) nn = LF fm nn sd ly tr j) → J p l e ({ frames := 5, cells := 0, slots := 0, locals := 142 } : Room) s m ([.ref te, .int (nI ly), .int (nI tr)] : List Value).toArray below meth c g A 4 Q 0 0 [oB te 9 [.ref lvl, .ref sp, .ref hh, .ref ch], oB ch 0 [.ref lvr, .ref kna, .ref dga, .ref enr, .ref sp, .ref hh], oB hh 5 [.ref inr, .ref outr, .ref zo, .ref on, .ref sp, .ref sdr, .int oly1, .int otr1], oB sp 8 [.int (nI fm), .int (nI nn), .int (nI ht), .int (nI lys), .int (nI fa), .int (nI mk)], oB sdr 7 [.ref sda, .int (nI 48)], bA g sda 48 sd, oB inr 7 [.ref ina, .int (nI nl)], bA g ina 768 G, oB outr 7 [.ref outa, .int (nI no1)], bA g outa 32 FO, oB zo 4 [.ref sa, .ref wa], iA g sa 8 S1, iA g wa 64 w1, oB on 3 [.ref aa, .ref ba], lA g aa 25 A1, lA g ba 25 B1, oB lvr 7 [.ref lva, .int (nI 512)], bA g lva 512 L2, zA g kna 32 K2, oB enr 7 [.ref ena, .int (nI ne2)], bA g ena 560 E2, oB lvl 7 [.ref lvla, .int (nI nv)], bA g lvla 256 LL] [(0, .ref te), (1, .int (nI ly)), (2, .int (nI tr)), (3, .int (nI k))] 9 [] := by
    intro n_3
    induction n_3 with
    | zero => intro k oly1 otr1 no1 S1 w1 A1 B1 nl G FO L2 K2 ne2 E2 nv LL hm; exact absurd hm (Nat.not_lt_zero _)
    | succ n_3 ih_4 =>
      intro k oly1 otr1 no1 S1 w1 A1 B1 nl G FO L2 K2 ne2 E2 nv LL hm hk hot hnl hFO hLB1 hEB1 hCa1 hB2 hnv hL
      refine j_iload_n hX 3 dX9_gatherLeaves_9 rfl ?_
      refine j_aload_n hX 0 dX9_gatherLeaves_10 rfl ?_
      refine j_pc 11 rfl ?_
      refine j_get hX in9 9 0 1 (v := .ref sp) rfl rfl (by decide) (List.mem_of_getElem? (i := 2) rfl) rfl rfl dX9_gatherLeaves_11 ?_
      refine j_callV hX 0 (c_leaves l g sp fm nn ht lys fa mk (by omega)) gX9_gatherLeaves_X8_leaves (by decide +kernel) rfl ⟨rfl, rfl⟩ ⟨Nat.le_of_ble_eq_true rfl, Nat.le_of_ble_eq_true rfl⟩ 8 3 rfl rfl [3] rfl (by decide) (fun _ => rfl) rfl [.int (nI k)] rfl (Nat.le_of_ble_eq_true rfl) ⟨Nat.le_refl _, Nat.le_refl _⟩ dX9_gatherLeaves_14 ?_
      intro _ hu_5
      refine j_w [oB te 9 [.ref lvl, .ref sp, .ref hh, .ref ch], oB ch 0 [.ref lvr, .ref kna, .ref dga, .ref enr, .ref sp, .ref hh], oB hh 5 [.ref inr, .ref outr, .ref zo, .ref on, .ref sp, .ref sdr, .int oly1, .int otr1], oB sp 8 [.int (nI fm), .int (nI nn), .int (nI ht), .int (nI lys), .int (nI fa), .int (nI mk)], oB sdr 7 [.ref sda, .int (nI 48)], bA g sda 48 sd, oB inr 7 [.ref ina, .int (nI nl)], bA g ina 768 G, oB outr 7 [.ref outa, .int (nI no1)], bA g outa 32 FO, oB zo 4 [.ref sa, .ref wa], iA g sa 8 S1, iA g wa 64 w1, oB on 3 [.ref aa, .ref ba], lA g aa 25 A1, lA g ba 25 B1, oB lvr 7 [.ref lva, .int (nI 512)], bA g lva 512 L2, zA g kna 32 K2, oB enr 7 [.ref ena, .int (nI ne2)], bA g ena 560 E2, oB lvl 7 [.ref lvla, .int (nI nv)], bA g lvla 256 LL] rfl ?_
      refine j_st [.int (nI (2 ^ ht)), .int (nI k)] rfl ?_
      refine j_icmp_geN hX k (2 ^ ht) 63 dX9_gatherLeaves_17 (by decide) (by omega) (by omega) (fun b_17 => ?_) (fun b_17 => ?_)
      · skip
        have hkp : k = 2 ^ ht := by omega
        obtain ⟨eo1, eo2⟩ := hot (by omega)
        subst eo1
        subst eo2
        rw [hkp] at hnv
        refine j_w [oB te 9 [.ref lvl, .ref sp, .ref hh, .ref ch], oB ch 0 [.ref lvr, .ref kna, .ref dga, .ref enr, .ref sp, .ref hh], oB hh 5 [.ref inr, .ref outr, .ref zo, .ref on, .ref sp, .ref sdr, .int (nI ly), .int (nI tr)], oB sp 8 [.int (nI fm), .int (nI nn), .int (nI ht), .int (nI lys), .int (nI fa), .int (nI mk)], oB sdr 7 [.ref sda, .int (nI 48)], bA g sda 48 sd, oB inr 7 [.ref ina, .int (nI nl)], bA g ina 768 G, oB outr 7 [.ref outa, .int (nI no1)], bA g outa 32 FO, oB zo 4 [.ref sa, .ref wa], iA g sa 8 S1, iA g wa 64 w1, oB on 3 [.ref aa, .ref ba], lA g aa 25 A1, lA g ba 25 B1, oB lvr 7 [.ref lva, .int (nI 512)], bA g lva 512 L2, zA g kna 32 K2, oB enr 7 [.ref ena, .int (nI ne2)], bA g ena 560 E2, oB lvl 7 [.ref lvla, .int (nI (2 ^ ht * nn))], bA g lvla 256 LL] (by rw [hnv]) ?_
        exact hret (no1, S1, w1, A1, B1, nl, G, FO, L2, K2, ne2, E2, LL) (by dsimp only; exact ⟨⟨hnl, hFO, hLB1, hEB1, hCa1⟩, hB2, fun j hj => hL j (by omega)⟩) 63 _ .return_ dX9_gatherLeaves_63 rfl
      · skip
        have h44 := four_mul (show k < 4 by omega) hnn
        refine j_aload_n hX 0 dX9_gatherLeaves_20 rfl ?_
        refine j_get hX in9 9 0 3 (v := .ref ch) rfl rfl (by decide) (List.mem_of_getElem? (i := 3) rfl) rfl rfl dX9_gatherLeaves_21 ?_
        refine j_iload_n hX 1 dX9_gatherLeaves_24 rfl ?_
        refine j_iload_n hX 2 dX9_gatherLeaves_25 rfl ?_
        refine j_pc 26 rfl ?_
        refine j_iload_n hX 3 dX9_gatherLeaves_26 rfl ?_
        refine j_callV hX 3 (c_keepLeaf l g ch lvr kna dga enr hh inr outr zo on sp fm nn ht lys fa mk sdr oly1 otr1 sda sd ina nl G outa no1 FO sa wa S1 w1 aa ba A1 B1 lva L2 K2 ena ne2 E2 ly tr k (by omega) (by omega) hB hnl.2.1 hFO hnl.1 (by omega) (by omega) (by omega) hnl.2.2 hEB1 hLB1 hCa1) gX9_gatherLeaves_X0_keepLeaf (by decide +kernel) rfl ⟨rfl, rfl⟩ ⟨Nat.le_of_ble_eq_true rfl, Nat.le_of_ble_eq_true rfl⟩ 0 1 rfl rfl [1, 2, 3, 4, 5, 6, 7, 8, 9, 10, 11, 12, 13, 14, 15, 16, 17, 18, 19, 20] rfl (by decide) (fun _ => rfl) rfl [] rfl (Nat.le_of_ble_eq_true rfl) ⟨Nat.le_refl _, Nat.le_refl _⟩ dX9_gatherLeaves_27 ?_
        rintro ⟨no9, S9, w9, A9, B9, nl9, G9, FO9, L9, K9, ne9, E9⟩ hK
        try dsimp only at hK
        refine j_w [oB te 9 [.ref lvl, .ref sp, .ref hh, .ref ch], oB ch 0 [.ref lvr, .ref kna, .ref dga, .ref enr, .ref sp, .ref hh], oB hh 5 [.ref inr, .ref outr, .ref zo, .ref on, .ref sp, .ref sdr, .int (nI ly), .int (nI tr)], oB sp 8 [.int (nI fm), .int (nI nn), .int (nI ht), .int (nI lys), .int (nI fa), .int (nI mk)], oB sdr 7 [.ref sda, .int (nI 48)], bA g sda 48 sd, oB inr 7 [.ref ina, .int (nI nl9)], bA g ina 768 G9, oB outr 7 [.ref outa, .int (nI no9)], bA g outa 32 FO9, oB zo 4 [.ref sa, .ref wa], iA g sa 8 S9, iA g wa 64 w9, oB on 3 [.ref aa, .ref ba], lA g aa 25 A9, lA g ba 25 B9, oB lvr 7 [.ref lva, .int (nI 512)], bA g lva 512 L9, zA g kna 32 K9, oB enr 7 [.ref ena, .int (nI ne9)], bA g ena 560 E9, oB lvl 7 [.ref lvla, .int (nI nv)], bA g lvla 256 LL] rfl ?_
        refine j_st [] rfl ?_
        refine j_aload_n hX 0 dX9_gatherLeaves_30 rfl ?_
        refine j_get hX in9 9 0 0 (v := .ref lvl) rfl rfl (by decide) (List.mem_of_getElem? (i := 1) rfl) rfl rfl dX9_gatherLeaves_31 ?_
        refine j_aload_n hX 0 dX9_gatherLeaves_34 rfl ?_
        refine j_get hX in9 9 0 3 (v := .ref ch) rfl rfl (by decide) (List.mem_of_getElem? (i := 3) rfl) rfl rfl dX9_gatherLeaves_35 ?_
        refine j_get hX in0 0 1 0 (v := .ref lvr) rfl rfl (by decide) (List.mem_of_getElem? (i := 4) rfl) rfl rfl dX9_gatherLeaves_38 ?_
        refine j_iload_n hX 1 dX9_gatherLeaves_41 rfl ?_
        refine j_pc 42 rfl ?_
        refine j_iload_n hX 2 dX9_gatherLeaves_42 rfl ?_
        refine j_iload_n hX 3 dX9_gatherLeaves_43 rfl ?_
        refine j_callS (b := 0) (C := "") hX 3 (c_leafStart l g ly tr k ) gX9_gatherLeaves_X0_leafStart (by decide +kernel) rfl ⟨rfl, rfl⟩ ⟨Nat.le_of_ble_eq_true rfl, Nat.le_of_ble_eq_true rfl⟩ [] rfl (by decide) (fun _ => rfl) rfl [.ref lvr, .ref lvl] rfl (Nat.le_of_ble_eq_true rfl) ⟨Nat.le_refl _, Nat.le_refl _⟩ dX9_gatherLeaves_44 ?_
        intro _ hu_6
        refine j_w [oB te 9 [.ref lvl, .ref sp, .ref hh, .ref ch], oB ch 0 [.ref lvr, .ref kna, .ref dga, .ref enr, .ref sp, .ref hh], oB hh 5 [.ref inr, .ref outr, .ref zo, .ref on, .ref sp, .ref sdr, .int (nI ly), .int (nI tr)], oB sp 8 [.int (nI fm), .int (nI nn), .int (nI ht), .int (nI lys), .int (nI fa), .int (nI mk)], oB sdr 7 [.ref sda, .int (nI 48)], bA g sda 48 sd, oB inr 7 [.ref ina, .int (nI nl9)], bA g ina 768 G9, oB outr 7 [.ref outa, .int (nI no9)], bA g outa 32 FO9, oB zo 4 [.ref sa, .ref wa], iA g sa 8 S9, iA g wa 64 w9, oB on 3 [.ref aa, .ref ba], lA g aa 25 A9, lA g ba 25 B9, oB lvr 7 [.ref lva, .int (nI 512)], bA g lva 512 L9, zA g kna 32 K9, oB enr 7 [.ref ena, .int (nI ne9)], bA g ena 560 E9, oB lvl 7 [.ref lvla, .int (nI nv)], bA g lvla 256 LL] rfl ?_
        refine j_st [.int (nI ((ly * 16 + tr * 4 + k) * 16)), .ref lvr, .ref lvl] rfl ?_
        refine j_aload_n hX 0 dX9_gatherLeaves_47 rfl ?_
        refine j_get hX in9 9 0 1 (v := .ref sp) rfl rfl (by decide) (List.mem_of_getElem? (i := 2) rfl) rfl rfl dX9_gatherLeaves_48 ?_
        refine j_get hX in8 8 3 1 (v := .int (nI nn)) rfl rfl (by decide) (List.mem_of_getElem? (i := 5) rfl) rfl rfl dX9_gatherLeaves_51 ?_
        refine j_callV hX 3 (c_add l g lvl lvla nv 256 LL lvr lva 512 512 L9 ((ly * 16 + tr * 4 + k) * 16) nn (by omega) (by omega) (by omega) (by omega) hK.2.2.1 (by omega) (by omega)) gX9_gatherLeaves_X7_add (by decide +kernel) rfl ⟨rfl, rfl⟩ ⟨Nat.le_of_ble_eq_true rfl, Nat.le_of_ble_eq_true rfl⟩ 7 21 rfl rfl [21, 22, 16, 17] rfl (by decide) (fun _ => rfl) rfl [] rfl (Nat.le_of_ble_eq_true rfl) ⟨Nat.le_refl _, Nat.le_refl _⟩ dX9_gatherLeaves_54 ?_
        intro LL9 hA1
        try dsimp only at hA1
        refine j_w [oB te 9 [.ref lvl, .ref sp, .ref hh, .ref ch], oB ch 0 [.ref lvr, .ref kna, .ref dga, .ref enr, .ref sp, .ref hh], oB hh 5 [.ref inr, .ref outr, .ref zo, .ref on, .ref sp, .ref sdr, .int (nI ly), .int (nI tr)], oB sp 8 [.int (nI fm), .int (nI nn), .int (nI ht), .int (nI lys), .int (nI fa), .int (nI mk)], oB sdr 7 [.ref sda, .int (nI 48)], bA g sda 48 sd, oB inr 7 [.ref ina, .int (nI nl9)], bA g ina 768 G9, oB outr 7 [.ref outa, .int (nI no9)], bA g outa 32 FO9, oB zo 4 [.ref sa, .ref wa], iA g sa 8 S9, iA g wa 64 w9, oB on 3 [.ref aa, .ref ba], lA g aa 25 A9, lA g ba 25 B9, oB lvr 7 [.ref lva, .int (nI 512)], bA g lva 512 L9, zA g kna 32 K9, oB enr 7 [.ref ena, .int (nI ne9)], bA g ena 560 E9, oB lvl 7 [.ref lvla, .int (nI (nv + nn))], bA g lvla 256 LL9] rfl ?_
        refine j_st [] rfl ?_
        refine j_iincN hX k (k + 1) [(3, .int (nI (k + 1))), (0, .ref te), (1, .int (nI ly)), (2, .int (nI tr))] 3 dX9_gatherLeaves_57 rfl (nI_1 _) (by decide) rfl ?_
        refine j_pc 60 rfl ?_
        refine j_goto hX 9 dX9_gatherLeaves_60 (by decide) ?_
        refine j_perm [(0, .ref te), (1, .int (nI ly)), (2, .int (nI tr)), (3, .int (nI (k + 1)))] [1, 2, 3, 0] rfl ?_
        exact ih_4 (k + 1) (nI ly) (nI tr) no9 S9 w9 A9 B9 nl9 G9 FO9 L9 K9 ne9 E9 (nv + nn) LL9 (by omega) (by omega) (fun _ => ⟨rfl, rfl⟩) hK.1 hK.2.1 hK.2.2.1 hK.2.2.2.1 hK.2.2.2.2.1 (by rw [hA1]; exact putL_B hB2 (slice_B hK.2.2.1 _ _)) (by rw [hnv, Nat.succ_mul]) (gath_step hnn hnv hA1 hK.2.2.2.2.2 hL)
  refine j_perm [(0, .ref te), (1, .int (nI ly)), (2, .int (nI tr)), (3, .int (nI 0))] [1, 2, 3, 0] rfl ?_
  exact lp_2 _ 0 oly otr no S0 w0 A0 B0 ni fi fo lvs kn ne ef 0 lf (Nat.lt_succ_self _) (by omega) (fun hk0 => absurd hk0 (Nat.lt_irrefl 0)) ⟨hni0, hno, hne⟩ hBo hLB hEB hCa hVB (by rw [Nat.zero_mul]) (fun j hj => absurd hj (Nat.not_lt_zero j))

