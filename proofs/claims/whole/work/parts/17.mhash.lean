def HH (fm : Nat) (l : List Int32) : List Int32 := if fm = 0 then HASH0 l else HASH1 l
theorem HH_length (fm : Nat) (l : List Int32) : (HH fm l).length = 32 := by
  unfold HH
  split
  · exact HASH0_length l
  · exact HASH1_length l
theorem HH_B (fm : Nat) (l : List Int32) : isBL (HH fm l) := by
  unfold HH
  split
  · exact HASH0_B l
  · exact HASH1_B l
theorem pf1_m {f F F3 : Nat → Int32} {n q nl : Nat} (hF : F = putL f n (31 :: List.replicate q 0)) (hq : q = z1 n) (hnl : nl = n + 1 + q) (e : F3 = upd F (nl - 1) (i8 (F (nl - 1) ^^^ (-128)))) : F3 = pf1 f n := by
  subst hq
  have hu : F = putL f n (u1 n) := hF
  rw [e, hu, show nl - 1 = n + z1 n by omega, last1_m]
  rfl
set_option maxRecDepth 20000 in
theorem ggX11_hashLaid_X11_hashWords : GoodIn wsX11_hashLaid wsX11_hashWords := goodIn_r _ [5, 6, 7, 8, 9, 10, 11, 12, 13, 4, 14, 15, 16, 17, 18, 19, 20, 21, 22, 23, 24, 25, 26, 27, 28, 46, 47, 48, 49, 50, 51, 52, 53, 54, 55, 56, 57, 58, 59, 60, 61, 62, 63, 64, 65, 66, 67, 68, 69, 70, 71, 72, 73, 74, 75, 76, 77, 78, 79, 80, 81, 82, 83, 84, 85, 86, 87, 88] (by decide +kernel) (by decide +kernel)
set_option maxRecDepth 20000 in
theorem gX11_hashLaid_X11_hashWords : GoodIn wsX11_hashLaid (wsV RX11 226 RX11 yX11_hashWords wsX11_hashWords) := goodIn_app (goodIn_of _ (by decide +kernel)) ggX11_hashLaid_X11_hashWords
set_option maxRecDepth 20000 in
theorem ggX11_hashLaid_X11_hashLanes : GoodIn wsX11_hashLaid wsX11_hashLanes := goodIn_r _ [32, 7, 15, 33, 34, 10, 11, 12, 13, 4, 14, 35, 36, 37, 38, 39, 40, 41, 42, 43, 44, 45, 46, 47, 48, 49, 50, 51, 52, 53, 54, 55, 56, 57, 58, 59, 60, 61, 62, 63, 64, 65, 66, 67, 68, 69, 70, 71, 72, 73, 74, 75, 76, 77, 78, 79, 80, 81, 82, 83, 84, 85, 86, 87, 88] (by decide +kernel) (by decide +kernel)
set_option maxRecDepth 20000 in
theorem gX11_hashLaid_X11_hashLanes : GoodIn wsX11_hashLaid (wsV RX11 229 RX11 yX11_hashLanes wsX11_hashLanes) := goodIn_app (goodIn_of _ (by decide +kernel)) ggX11_hashLaid_X11_hashLanes
theorem dX11_hashLaid_0 : decode cX11_hashLaid 0 = .ok (.iload_n 1, 1) := by decide +kernel
theorem dX11_hashLaid_1 : decode cX11_hashLaid 1 = .ok (.ifCond .ne 10, 3) := by decide +kernel
theorem dX11_hashLaid_4 : decode cX11_hashLaid 4 = .ok (.aload_n 0, 1) := by decide +kernel
theorem dX11_hashLaid_5 : decode cX11_hashLaid 5 = .ok (.invokevirtual 226, 3) := by decide +kernel
theorem dX11_hashLaid_8 : decode cX11_hashLaid 8 = .ok (.goto 7, 3) := by decide +kernel
theorem dX11_hashLaid_11 : decode cX11_hashLaid 11 = .ok (.aload_n 0, 1) := by decide +kernel
theorem dX11_hashLaid_12 : decode cX11_hashLaid 12 = .ok (.invokevirtual 229, 3) := by decide +kernel
theorem dX11_hashLaid_15 : decode cX11_hashLaid 15 = .ok (.return_, 1) := by decide +kernel
set_option maxHeartbeats 1000000 in
set_option maxRecDepth 100000 in
/-- the reference: hashLanes -/
theorem c_hashLanes (l : Launch) (g : jG) (h : Nat) (b : Nat → Nat) (v : Nat → Int32) (n : Nat) (f : Nat → Int32) (dg : Nat → Int32) (A0 : Nat → Int64) (T0 : Nat → Int64) (S0 : Nat → Int64) (tn : Nat → Int32) (hv3 : v 3 = nI n) (hn : n + 137 ≤ 1400) (htn : ∀ k, k < 25 → tn k = s_turns.getD k 0) : jC l g yX11_hashLanes wsX11_hashLanes ({ frames := 2, cells := 0, slots := 0, locals := 48 } : Room) [.ref h] [oB h 11 (mO b v), bA g (b 2) 1400 f, bA g (b 4) 32 dg, lA g (b 9) 25 A0, lA g (b 10) 25 T0, lA g (b 11) 5 S0, iA g (b 12) 25 tn] (fun u : (Nat → Int64) × (Nat → Int64) × (Nat → Int64) × Nat × (Nat → Int32) × (Nat → Int32) => none) (fun u : (Nat → Int64) × (Nat → Int64) × (Nat → Int64) × Nat × (Nat → Int32) × (Nat → Int32) => u.2.2.2.1 ≤ 1400 ∧ u.2.2.2.2.2 = putL dg 0 (HASH1 (slice f 0 n))) (fun u : (Nat → Int64) × (Nat → Int64) × (Nat → Int64) × Nat × (Nat → Int32) × (Nat → Int32) => [oB h 11 (mO b (upd v 3 (nI u.2.2.2.1))), bA g (b 2) 1400 u.2.2.2.2.1, bA g (b 4) 32 u.2.2.2.2.2, lA g (b 9) 25 u.1, lA g (b 10) 25 u.2.1, lA g (b 11) 5 u.2.2.1, iA g (b 12) 25 tn]) := by
  refine jC.of (cc := cX11_hashLanes) (own := RX11) (maxL := 3) (ret := none) (by decide +kernel) rfl rfl (Nat.le_of_ble_eq_true rfl) (fun u hu => rfl) ?_
  intro p e s m below meth c A Q hX hret
  have in11 : ∀ w ∈ wsX110, w ∈ wsX11_hashLanes := (fun w h => List.mem_cons_of_mem _ (List.mem_append_right _ h))
  refine j_w [oB h 11 (mO b (upd v 3 (nI n))), bA g (b 2) 1400 f, bA g (b 4) 32 dg, lA g (b 9) 25 A0, lA g (b 10) 25 T0, lA g (b 11) 5 S0, iA g (b 12) 25 tn] (by rw [updS (hv3 : (v : Nat → Int32) 3 = nI n)]) ?_
  refine j_aload_n hX 0 dX11_hashLanes_0 rfl ?_
  refine j_bipush hX (31) dX11_hashLanes_1 (by decide) ?_
  refine j_callV hX 1 (c_mlay l g h b (upd v 3 (nI n)) n f 31 rfl (by omega)) gX11_hashLanes_X11_lay (by decide +kernel) rfl ⟨rfl, rfl⟩ ⟨Nat.le_of_ble_eq_true rfl, Nat.le_of_ble_eq_true rfl⟩ 11 0 rfl rfl [0, 1] rfl (by decide) (fun _ => rfl) rfl [] rfl (Nat.le_of_ble_eq_true rfl) ⟨Nat.le_refl _, Nat.le_refl _⟩ dX11_hashLanes_3 ?_
  intro _ hu_1
  refine j_w [oB h 11 (mO b (upd v 3 (nI (n + 1)))), bA g (b 2) 1400 (upd f n (i8 31)), bA g (b 4) 32 dg, lA g (b 9) 25 A0, lA g (b 10) 25 T0, lA g (b 11) 5 S0, iA g (b 12) 25 tn] rfl ?_
  refine j_st [] rfl ?_
  have lp_2 : ∀ (n_3 : Nat) (q : Nat) (F : Nat → Int32), (z1 n - q < n_3) → (q ≤ z1 n) → (F = putL f n (31 :: List.replicate q 0)) → J p l e ({ frames := 2, cells := 0, slots := 0, locals := 48 } : Room) s m ([.ref h] : List Value).toArray below meth c g A 3 Q 0 0 [oB h 11 (mO b (upd v 3 (nI (n + 1 + q)))), bA g (b 2) 1400 F, bA g (b 4) 32 dg, lA g (b 9) 25 A0, lA g (b 10) 25 T0, lA g (b 11) 5 S0, iA g (b 12) 25 tn] [(0, .ref h)] 6 [] := by
    intro n_3
    induction n_3 with
    | zero => intro q F hm; exact absurd hm (Nat.not_lt_zero _)
    | succ n_3 ih_4 =>
      intro q F hm hq0 hF
      have hz64 := z1_lt n
      refine j_aload_n hX 0 dX11_hashLanes_6 rfl ?_
      refine j_get hX in11 11 0 3 (v := .int (nI (n + 1 + q))) rfl rfl (by decide) (List.mem_of_getElem? (i := 1) rfl) rfl rfl dX11_hashLanes_7 ?_
      refine j_sipush hX (136) dX11_hashLanes_10 (by decide) ?_
      refine j_iremN hX (n + 1 + q) 136 (by omega) (by omega) (by omega) dX11_hashLanes_13 ?_
      refine j_pc 14 rfl ?_
      refine j_if_eqN hX ((n + 1 + q) % 136) 25 dX11_hashLanes_14 (by decide) (by omega) (fun b_14 => ?_) (fun b_14 => ?_)
      · skip
        have hq : q = z1 n := by unfold z1 at *; omega
        have hm := z1_mod n
        obtain ⟨nl, hnl⟩ : ∃ z, z = n + 1 + q := ⟨_, rfl⟩
        refine j_w [oB h 11 (mO b (upd v 3 (nI nl))), bA g (b 2) 1400 F, bA g (b 4) 32 dg, lA g (b 9) 25 A0, lA g (b 10) 25 T0, lA g (b 11) 5 S0, iA g (b 12) 25 tn] (by rw [hnl]) ?_
        refine j_aload_n hX 0 dX11_hashLanes_25 rfl ?_
        refine j_get hX in11 11 0 2 (v := .ref (b 2)) rfl rfl (by decide) (List.mem_of_getElem? (i := 2) rfl) rfl rfl dX11_hashLanes_26 ?_
        refine j_aload_n hX 0 dX11_hashLanes_29 rfl ?_
        refine j_get hX in11 11 0 3 (v := .int (nI nl)) rfl rfl (by decide) (List.mem_of_getElem? (i := 1) rfl) rfl rfl dX11_hashLanes_30 ?_
        refine j_iconst hX (1) dX11_hashLanes_33 (by decide) ?_
        refine j_isubN hX nl 1 (by omega) dX11_hashLanes_34 ?_
        refine j_dup2 hX dX11_hashLanes_35 rfl rfl ?_
        refine j_pc 36 rfl ?_
        refine j_baldN hX 1 (nl - 1) rfl (by omega) (by omega) dX11_hashLanes_36 ?_
        refine j_bipush hX (-128) dX11_hashLanes_37 (by decide) ?_
        refine j_ixor hX dX11_hashLanes_39 ?_
        refine j_i2b hX dX11_hashLanes_40 ?_
        refine j_bast8 hX 1 (nl - 1) rfl (by omega) (by omega) [oB h 11 (mO b (upd v 3 (nI nl))), bA g (b 2) 1400 (upd F (nl - 1) (i8 ((F (nl - 1)) ^^^ (-128)))), bA g (b 4) 32 dg, lA g (b 9) 25 A0, lA g (b 10) 25 T0, lA g (b 11) 5 S0, iA g (b 12) 25 tn] rfl dX11_hashLanes_41 ?_
        obtain ⟨F3, eF3⟩ : ∃ z, z = upd F (nl - 1) (i8 ((F (nl - 1)) ^^^ (-128))) := ⟨_, rfl⟩
        refine j_w [oB h 11 (mO b (upd v 3 (nI nl))), bA g (b 2) 1400 F3, bA g (b 4) 32 dg, lA g (b 9) 25 A0, lA g (b 10) 25 T0, lA g (b 11) 5 S0, iA g (b 12) 25 tn] (by rw [eF3]) ?_
        have hP3 : F3 = pf1 f n := pf1_m hF hq hnl eF3
        refine j_iconst hX (0) dX11_hashLanes_42 (by decide) ?_
        refine j_st [.int (nI 0)] rfl ?_
        refine j_istore_n hX 1 [(1, .int (nI 0)), (0, .ref h)] dX11_hashLanes_43 rfl (by decide) rfl ?_
        have lp_5 : ∀ (n_6 : Nat) (i : Nat) (AL : Nat → Int64), (25 - i < n_6) → (i ≤ 25) → (∀ j, j < i → AL j = 0) → J p l e ({ frames := 2, cells := 0, slots := 0, locals := 48 } : Room) s m ([.ref h] : List Value).toArray below meth c g A 3 Q 0 0 [oB h 11 (mO b (upd v 3 (nI nl))), bA g (b 2) 1400 F3, bA g (b 4) 32 dg, lA g (b 9) 25 AL, lA g (b 10) 25 T0, lA g (b 11) 5 S0, iA g (b 12) 25 tn] [(0, .ref h), (1, .int (nI i))] 44 [] := by
          intro n_6
          induction n_6 with
          | zero => intro i AL hm; exact absurd hm (Nat.not_lt_zero _)
          | succ n_6 ih_7 =>
            intro i AL hm hi hA
            refine j_iload_n hX 1 dX11_hashLanes_44 rfl ?_
            refine j_pc 45 rfl ?_
            refine j_bipush hX (25) dX11_hashLanes_45 (by decide) ?_
            refine j_icmp_geN hX i 25 63 dX11_hashLanes_47 (by decide) (by omega) (by omega) (fun b_47 => ?_) (fun b_47 => ?_)
            · skip
              refine j_iconst hX (0) dX11_hashLanes_63 (by decide) ?_
              refine j_st [.int (nI 0)] rfl ?_
              refine j_istore_n hX 1 [(1, .int (nI 0)), (0, .ref h)] dX11_hashLanes_64 rfl (by decide) rfl ?_
              have lp_8 : ∀ (n_9 : Nat) (t : Nat) (k : Nat) (AL : Nat → Int64) (TL : Nat → Int64) (SL : Nat → Int64), (nl - t < n_9) → (t = 136 * k) → (t ≤ nl) → (eq25 AL (hs1 F3 k)) → J p l e ({ frames := 2, cells := 0, slots := 0, locals := 48 } : Room) s m ([.ref h] : List Value).toArray below meth c g A 3 Q 0 0 [oB h 11 (mO b (upd v 3 (nI nl))), bA g (b 2) 1400 F3, bA g (b 4) 32 dg, lA g (b 9) 25 AL, lA g (b 10) 25 TL, lA g (b 11) 5 SL, iA g (b 12) 25 tn] [(0, .ref h), (1, .int (nI t))] 65 [] := by
                intro n_9
                induction n_9 with
                | zero => intro t k AL TL SL hm; exact absurd hm (Nat.not_lt_zero _)
                | succ n_9 ih_10 =>
                  intro t k AL TL SL hm ht htl hA
                  refine j_iload_n hX 1 dX11_hashLanes_65 rfl ?_
                  refine j_aload_n hX 0 dX11_hashLanes_66 rfl ?_
                  refine j_get hX in11 11 0 3 (v := .int (nI nl)) rfl rfl (by decide) (List.mem_of_getElem? (i := 1) rfl) rfl rfl dX11_hashLanes_67 ?_
                  refine j_icmp_geN hX t nl 134 dX11_hashLanes_70 (by decide) (by omega) (by omega) (fun b_70 => ?_) (fun b_70 => ?_)
                  · skip
                    refine j_pc 134 rfl ?_
                    refine j_iconst hX (0) dX11_hashLanes_134 (by decide) ?_
                    refine j_st [.int (nI 0)] rfl ?_
                    refine j_istore_n hX 1 [(1, .int (nI 0)), (0, .ref h)] dX11_hashLanes_135 rfl (by decide) rfl ?_
                    have lp_11 : ∀ (n_12 : Nat) (i : Nat) (FO : Nat → Int32), (32 - i < n_12) → (i ≤ 32) → (FO = putL dg 0 ((D1l AL 32).take i)) → J p l e ({ frames := 2, cells := 0, slots := 0, locals := 48 } : Room) s m ([.ref h] : List Value).toArray below meth c g A 3 Q 0 0 [oB h 11 (mO b (upd v 3 (nI nl))), bA g (b 2) 1400 F3, bA g (b 4) 32 FO, lA g (b 9) 25 AL, lA g (b 10) 25 TL, lA g (b 11) 5 SL, iA g (b 12) 25 tn] [(0, .ref h), (1, .int (nI i))] 136 [] := by
                      intro n_12
                      induction n_12 with
                      | zero => intro i FO hm; exact absurd hm (Nat.not_lt_zero _)
                      | succ n_12 ih_13 =>
                        intro i FO hm hi hO
                        refine j_iload_n hX 1 dX11_hashLanes_136 rfl ?_
                        refine j_bipush hX (32) dX11_hashLanes_137 (by decide) ?_
                        refine j_icmp_geN hX i 32 173 dX11_hashLanes_139 (by decide) (by omega) (by omega) (fun b_139 => ?_) (fun b_139 => ?_)
                        · skip
                          have h32 : i = 32 := by omega
                          subst h32
                          have hk136 : t = nl := by omega
                          rw [hP3] at hA
                          have hH := HASH1_of hA (by omega)
                          rw [List.take_of_length_le (by rw [D1l_length]; omega)] at hO
                          exact hret (AL, TL, SL, nl, F3, FO) (by dsimp only; exact ⟨by omega, by rw [hO, hH]⟩) 173 _ .return_ dX11_hashLanes_173 rfl
                        · skip
                          refine j_aload_n hX 0 dX11_hashLanes_142 rfl ?_
                          refine j_get hX in11 11 0 4 (v := .ref (b 4)) rfl rfl (by decide) (List.mem_of_getElem? (i := 5) rfl) rfl rfl dX11_hashLanes_143 ?_
                          refine j_pc 146 rfl ?_
                          refine j_iload_n hX 1 dX11_hashLanes_146 rfl ?_
                          refine j_aload_n hX 0 dX11_hashLanes_147 rfl ?_
                          refine j_get hX in11 11 0 9 (v := .ref (b 9)) rfl rfl (by decide) (List.mem_of_getElem? (i := 3) rfl) rfl rfl dX11_hashLanes_148 ?_
                          refine j_iload_n hX 1 dX11_hashLanes_151 rfl ?_
                          refine j_bipush hX (8) dX11_hashLanes_152 (by decide) ?_
                          refine j_idivN hX i 8 (by omega) (by omega) (by omega) dX11_hashLanes_154 ?_
                          refine j_laldN hX 3 (i / 8) rfl (by omega) (by omega) dX11_hashLanes_155 ?_
                          refine j_bipush hX (8) dX11_hashLanes_156 (by decide) ?_
                          refine j_pc 158 rfl ?_
                          refine j_iload_n hX 1 dX11_hashLanes_158 rfl ?_
                          refine j_bipush hX (8) dX11_hashLanes_159 (by decide) ?_
                          refine j_iremN hX i 8 (by omega) (by omega) (by omega) dX11_hashLanes_161 ?_
                          refine j_imulN hX 8 (i % 8) dX11_hashLanes_162 ?_
                          refine j_lshr hX dX11_hashLanes_163 ?_
                          refine j_l2i hX dX11_hashLanes_164 ?_
                          refine j_i2b hX dX11_hashLanes_165 ?_
                          refine j_bast8 hX 2 i rfl (by omega) (by omega) [oB h 11 (mO b (upd v 3 (nI nl))), bA g (b 2) 1400 F3, bA g (b 4) 32 (upd FO i (i8 ((lshr (AL (i / 8)) (nI (8 * (i % 8)))).toInt32))), lA g (b 9) 25 AL, lA g (b 10) 25 TL, lA g (b 11) 5 SL, iA g (b 12) 25 tn] rfl dX11_hashLanes_166 ?_
                          refine j_pc 167 rfl ?_
                          refine j_iincN hX i (i + 1) [(1, .int (nI (i + 1))), (0, .ref h)] 1 dX11_hashLanes_167 rfl (nI_1 _) (by decide) rfl ?_
                          refine j_goto hX 136 dX11_hashLanes_170 (by decide) ?_
                          refine j_perm [(0, .ref h), (1, .int (nI (i + 1)))] [1, 0] rfl ?_
                          exact ih_13 (i + 1) (upd FO i (i8 ((lshr (AL (i / 8)) (nI (8 * (i % 8)))).toInt32))) (by omega) (by omega) (take_put hO (by rw [D1l_length]; omega) ((zB_shr _ _ (by omega)).trans (D1l_getD AL 32 i (by omega)).symm))
                    refine j_perm [(0, .ref h), (1, .int (nI 0))] [1, 0] rfl ?_
                    exact lp_11 _ 0 dg (Nat.lt_succ_self _) (by omega) (by rw [List.take_zero, putL_nil])
                  · skip
                    refine j_iconst hX (0) dX11_hashLanes_73 (by decide) ?_
                    refine j_st [.int (nI 0)] rfl ?_
                    refine j_istore_n hX 2 [(2, .int (nI 0)), (0, .ref h), (1, .int (nI t))] dX11_hashLanes_74 rfl (by decide) rfl ?_
                    have lp_14 : ∀ (n_15 : Nat) (i : Nat) (G : Nat → Int64), (136 - i < n_15) → (i ≤ 136) → (G = absr F3 t AL i) → J p l e ({ frames := 2, cells := 0, slots := 0, locals := 48 } : Room) s m ([.ref h] : List Value).toArray below meth c g A 3 Q 0 0 [oB h 11 (mO b (upd v 3 (nI nl))), bA g (b 2) 1400 F3, bA g (b 4) 32 dg, lA g (b 9) 25 G, lA g (b 10) 25 TL, lA g (b 11) 5 SL, iA g (b 12) 25 tn] [(0, .ref h), (1, .int (nI t)), (2, .int (nI i))] 75 [] := by
                      intro n_15
                      induction n_15 with
                      | zero => intro i G hm; exact absurd hm (Nat.not_lt_zero _)
                      | succ n_15 ih_16 =>
                        intro i G hm hi hG
                        refine j_iload_n hX 2 dX11_hashLanes_75 rfl ?_
                        refine j_sipush hX (136) dX11_hashLanes_76 (by decide) ?_
                        refine j_icmp_geN hX i 136 121 dX11_hashLanes_79 (by decide) (by omega) (by omega) (fun b_79 => ?_) (fun b_79 => ?_)
                        · skip
                          refine j_aload_n hX 0 dX11_hashLanes_121 rfl ?_
                          refine j_pc 122 rfl ?_
                          refine j_callV hX 0 (c_mix l g h b (upd v 3 (nI nl)) G TL SL tn htn) gX11_hashLanes_X11_mix (by decide +kernel) rfl ⟨rfl, rfl⟩ ⟨Nat.le_of_ble_eq_true rfl, Nat.le_of_ble_eq_true rfl⟩ 11 0 rfl rfl [0, 3, 4, 5, 6] rfl (by decide) (fun _ => rfl) rfl [] rfl (Nat.le_of_ble_eq_true rfl) ⟨Nat.le_refl _, Nat.le_refl _⟩ dX11_hashLanes_122 ?_
                          rintro ⟨A5, T5, S5⟩ hA5
                          try dsimp only at hA5
                          refine j_w [oB h 11 (mO b (upd v 3 (nI nl))), bA g (b 2) 1400 F3, bA g (b 4) 32 dg, lA g (b 9) 25 A5, lA g (b 10) 25 T5, lA g (b 11) 5 S5, iA g (b 12) 25 tn] rfl ?_
                          refine j_st [] rfl ?_
                          refine j_iincWN hX t (t + 136) [(1, .int (nI (t + 136))), (0, .ref h), (2, .int (nI i))] 1 dX11_hashLanes_125 rfl (nI_add _ _) (by decide) rfl ?_
                          refine j_goto hX 65 dX11_hashLanes_131 (by decide) ?_
                          refine j_perm [(0, .ref h), (1, .int (nI (t + 136)))] [1, 0] rfl ?_
                          exact ih_10 (t + 136) (k + 1) A5 T5 S5 (by omega) (by omega) (by omega) (by rw [hs1, ← ht]; exact hA5.tr (kF_congr (by rw [hG, show i = 136 by omega]; exact absr_congr hA 136 (Nat.le_refl _) (fun _ _ => rfl)) 24))
                        · skip
                          refine j_aload_n hX 0 dX11_hashLanes_82 rfl ?_
                          refine j_get hX in11 11 0 9 (v := .ref (b 9)) rfl rfl (by decide) (List.mem_of_getElem? (i := 3) rfl) rfl rfl dX11_hashLanes_83 ?_
                          refine j_iload_n hX 2 dX11_hashLanes_86 rfl ?_
                          refine j_bipush hX (8) dX11_hashLanes_87 (by decide) ?_
                          refine j_idivN hX i 8 (by omega) (by omega) (by omega) dX11_hashLanes_89 ?_
                          refine j_pc 90 rfl ?_
                          refine j_dup2 hX dX11_hashLanes_90 rfl rfl ?_
                          refine j_laldN hX 3 (i / 8) rfl (by omega) (by omega) dX11_hashLanes_91 ?_
                          refine j_aload_n hX 0 dX11_hashLanes_92 rfl ?_
                          refine j_get hX in11 11 0 2 (v := .ref (b 2)) rfl rfl (by decide) (List.mem_of_getElem? (i := 2) rfl) rfl rfl dX11_hashLanes_93 ?_
                          refine j_iload_n hX 1 dX11_hashLanes_96 rfl ?_
                          refine j_iload_n hX 2 dX11_hashLanes_97 rfl ?_
                          refine j_iaddN hX t i dX11_hashLanes_98 ?_
                          refine j_baldN hX 1 (t + i) rfl (by omega) (by omega) dX11_hashLanes_99 ?_
                          refine j_pc 100 rfl ?_
                          refine j_i2l hX dX11_hashLanes_100 ?_
                          refine j_ldc2 hX dX11_hashLanes_101 (List.mem_of_getElem? (i := 4) rfl) ?_
                          refine j_land hX dX11_hashLanes_104 ?_
                          refine j_bipush hX (8) dX11_hashLanes_105 (by decide) ?_
                          refine j_iload_n hX 2 dX11_hashLanes_107 rfl ?_
                          refine j_bipush hX (8) dX11_hashLanes_108 (by decide) ?_
                          refine j_iremN hX i 8 (by omega) (by omega) (by omega) dX11_hashLanes_110 ?_
                          refine j_imulN hX 8 (i % 8) dX11_hashLanes_111 ?_
                          refine j_pc 112 rfl ?_
                          refine j_lshl hX dX11_hashLanes_112 ?_
                          refine j_lxor hX dX11_hashLanes_113 ?_
                          refine j_lastN hX 3 (i / 8) rfl (by omega) (by omega) [oB h 11 (mO b (upd v 3 (nI nl))), bA g (b 2) 1400 F3, bA g (b 4) 32 dg, lA g (b 9) 25 (vp_updL G (i / 8) ((G (i / 8)) ^^^ (lshl (((F3 (t + i)).toInt64) &&& (255 : Int64)) (nI (8 * (i % 8)))))), lA g (b 10) 25 TL, lA g (b 11) 5 SL, iA g (b 12) 25 tn] rfl dX11_hashLanes_114 ?_
                          refine j_iincN hX i (i + 1) [(2, .int (nI (i + 1))), (0, .ref h), (1, .int (nI t))] 2 dX11_hashLanes_115 rfl (nI_1 _) (by decide) rfl ?_
                          refine j_goto hX 75 dX11_hashLanes_118 (by decide) ?_
                          refine j_perm [(0, .ref h), (1, .int (nI t)), (2, .int (nI (i + 1)))] [1, 2, 0] rfl ?_
                          exact ih_16 (i + 1) (vp_updL G (i / 8) ((G (i / 8)) ^^^ (lshl (((F3 (t + i)).toInt64) &&& (255 : Int64)) (nI (8 * (i % 8)))))) (by omega) (by omega) (by rw [hG]; rfl)
                    refine j_perm [(0, .ref h), (1, .int (nI t)), (2, .int (nI 0))] [1, 2, 0] rfl ?_
                    exact lp_14 _ 0 AL (Nat.lt_succ_self _) (by omega) rfl
              refine j_perm [(0, .ref h), (1, .int (nI 0))] [1, 0] rfl ?_
              exact lp_8 _ 0 0 AL T0 S0 (Nat.lt_succ_self _) (by omega) (by omega) (fun j hj => hA j (by omega))
            · skip
              refine j_aload_n hX 0 dX11_hashLanes_50 rfl ?_
              refine j_get hX in11 11 0 9 (v := .ref (b 9)) rfl rfl (by decide) (List.mem_of_getElem? (i := 3) rfl) rfl rfl dX11_hashLanes_51 ?_
              refine j_iload_n hX 1 dX11_hashLanes_54 rfl ?_
              refine j_pc 55 rfl ?_
              refine j_lconst hX 0 dX11_hashLanes_55 rfl ?_
              refine j_lastN hX 3 i rfl (by omega) (by omega) [oB h 11 (mO b (upd v 3 (nI nl))), bA g (b 2) 1400 F3, bA g (b 4) 32 dg, lA g (b 9) 25 (vp_updL AL i (0 : Int64)), lA g (b 10) 25 T0, lA g (b 11) 5 S0, iA g (b 12) 25 tn] rfl dX11_hashLanes_56 ?_
              refine j_iincN hX i (i + 1) [(1, .int (nI (i + 1))), (0, .ref h)] 1 dX11_hashLanes_57 rfl (nI_1 _) (by decide) rfl ?_
              refine j_goto hX 44 dX11_hashLanes_60 (by decide) ?_
              refine j_perm [(0, .ref h), (1, .int (nI (i + 1)))] [1, 0] rfl ?_
              exact ih_7 (i + 1) (vp_updL AL i (0 : Int64)) (by omega) (by omega) (fun j hj => by unfold vp_updL; split; rfl; exact hA j (by omega))
        refine j_perm [(0, .ref h), (1, .int (nI 0))] [1, 0] rfl ?_
        exact lp_5 _ 0 A0 (Nat.lt_succ_self _) (by omega) (fun j hj => absurd hj (Nat.not_lt_zero j))
      · skip
        refine j_aload_n hX 0 dX11_hashLanes_17 rfl ?_
        refine j_iconst hX (0) dX11_hashLanes_18 (by decide) ?_
        refine j_callV hX 1 (c_mlay l g h b (upd v 3 (nI (n + 1 + q))) (n + 1 + q) F 0 rfl (by omega)) gX11_hashLanes_X11_lay (by decide +kernel) rfl ⟨rfl, rfl⟩ ⟨Nat.le_of_ble_eq_true rfl, Nat.le_of_ble_eq_true rfl⟩ 11 0 rfl rfl [0, 1] rfl (by decide) (fun _ => rfl) rfl [] rfl (Nat.le_of_ble_eq_true rfl) ⟨Nat.le_refl _, Nat.le_refl _⟩ dX11_hashLanes_19 ?_
        intro _ hu_17
        refine j_w [oB h 11 (mO b (upd v 3 (nI ((n + 1 + q) + 1)))), bA g (b 2) 1400 (upd F (n + 1 + q) (i8 0)), bA g (b 4) 32 dg, lA g (b 9) 25 A0, lA g (b 10) 25 T0, lA g (b 11) 5 S0, iA g (b 12) 25 tn] rfl ?_
        refine j_st [] rfl ?_
        refine j_goto hX 6 dX11_hashLanes_22 (by decide) ?_
        exact ih_4 (q + 1) (upd F (n + 1 + q) (i8 0)) (by have hq1 : q ≠ z1 n := (fun e => b_14 (by rw [e]; exact z1_mod n)); omega) (by have hq1 : q ≠ z1 n := (fun e => b_14 (by rw [e]; exact z1_mod n)); omega) (zer1_put hF)
  exact lp_2 _ 0 (upd f n (i8 31)) (Nat.lt_succ_self _) (by omega) (by rw [← putL_nil (upd f n (i8 31)) (n + 1), putL_cons, i8_31]; rfl)

set_option maxHeartbeats 1000000 in
set_option maxRecDepth 100000 in
/-- the reference: hashLaid -/
theorem c_hashLaid (l : Launch) (g : jG) (h : Nat) (b : Nat → Nat) (v : Nat → Int32) (n : Nat) (f : Nat → Int32) (dg : Nat → Int32) (w0 : Nat → Int32) (S0 : Nat → Int32) (fs : Nat → Int32) (rt : Nat → Int32) (A0 : Nat → Int64) (T0 : Nat → Int64) (U0 : Nat → Int64) (tn : Nat → Int32) (fm : Nat) (hv3 : v 3 = nI n) (hn : n + 137 ≤ 1400) (hfs : ∀ j, j < 8 → fs j = s_first.getD j 0) (hrt : ∀ j, j < 64 → rt j = s_cube.getD j 0) (htn : ∀ k, k < 25 → tn k = s_turns.getD k 0) (hfm : fm < 2) : jC l g yX11_hashLaid wsX11_hashLaid ({ frames := 3, cells := 0, slots := 0, locals := 76 } : Room) [.ref h, .int (nI fm)] [oB h 11 (mO b v), bA g (b 2) 1400 f, bA g (b 4) 32 dg, iA g (b 5) 64 w0, iA g (b 6) 8 S0, iA g (b 7) 8 fs, iA g (b 8) 64 rt, lA g (b 9) 25 A0, lA g (b 10) 25 T0, lA g (b 11) 5 U0, iA g (b 12) 25 tn] (fun u : (Nat → Int32) × (Nat → Int32) × (Nat → Int64) × (Nat → Int64) × (Nat → Int64) × Nat × (Nat → Int32) × (Nat → Int32) => none) (fun u : (Nat → Int32) × (Nat → Int32) × (Nat → Int64) × (Nat → Int64) × (Nat → Int64) × Nat × (Nat → Int32) × (Nat → Int32) => u.2.2.2.2.2.1 ≤ 1400 ∧ u.2.2.2.2.2.2.2 = putL dg 0 (HH fm (slice f 0 n))) (fun u : (Nat → Int32) × (Nat → Int32) × (Nat → Int64) × (Nat → Int64) × (Nat → Int64) × Nat × (Nat → Int32) × (Nat → Int32) => [oB h 11 (mO b (upd v 3 (nI u.2.2.2.2.2.1))), bA g (b 2) 1400 u.2.2.2.2.2.2.1, bA g (b 4) 32 u.2.2.2.2.2.2.2, iA g (b 5) 64 u.1, iA g (b 6) 8 u.2.1, iA g (b 7) 8 fs, iA g (b 8) 64 rt, lA g (b 9) 25 u.2.2.1, lA g (b 10) 25 u.2.2.2.1, lA g (b 11) 5 u.2.2.2.2.1, iA g (b 12) 25 tn]) := by
  refine jC.of (cc := cX11_hashLaid) (own := RX11) (maxL := 2) (ret := none) (by decide +kernel) rfl rfl (Nat.le_of_ble_eq_true rfl) (fun u hu => rfl) ?_
  intro p e s m below meth c A Q hX hret
  refine j_iload_n hX 1 dX11_hashLaid_0 rfl ?_
  refine j_if_neN hX fm 11 dX11_hashLaid_1 (by decide) (by omega) (fun b_1 => ?_) (fun b_1 => ?_)
  · skip
    refine j_aload_n hX 0 dX11_hashLaid_11 rfl ?_
    refine j_callV hX 0 (c_hashLanes l g h b v n f dg A0 T0 U0 tn hv3 (by omega) htn) gX11_hashLaid_X11_hashLanes (by decide +kernel) rfl ⟨rfl, rfl⟩ ⟨Nat.le_of_ble_eq_true rfl, Nat.le_of_ble_eq_true rfl⟩ 11 0 rfl rfl [0, 1, 2, 7, 8, 9, 10] rfl (by decide) (fun _ => rfl) rfl [] rfl (Nat.le_of_ble_eq_true rfl) ⟨Nat.le_refl _, Nat.le_refl _⟩ dX11_hashLaid_12 ?_
    rintro ⟨A5, T5, U5, nl5, G5, FO5⟩ hW
    try dsimp only at hW
    refine j_w [oB h 11 (mO b (upd v 3 (nI nl5))), bA g (b 2) 1400 G5, bA g (b 4) 32 FO5, iA g (b 5) 64 w0, iA g (b 6) 8 S0, iA g (b 7) 8 fs, iA g (b 8) 64 rt, lA g (b 9) 25 A5, lA g (b 10) 25 T5, lA g (b 11) 5 U5, iA g (b 12) 25 tn] rfl ?_
    refine j_st [] rfl ?_
    exact hret (w0, S0, A5, T5, U5, nl5, G5, FO5) (by dsimp only; first | (unfold HH; rw [if_pos b_1]; exact hW) | (unfold HH; rw [if_neg b_1]; exact hW)) 15 _ .return_ dX11_hashLaid_15 rfl
  · skip
    refine j_aload_n hX 0 dX11_hashLaid_4 rfl ?_
    refine j_callV hX 0 (c_hashWords l g h b v n f dg w0 S0 fs rt hv3 (by omega) hfs hrt) gX11_hashLaid_X11_hashWords (by decide +kernel) rfl ⟨rfl, rfl⟩ ⟨Nat.le_of_ble_eq_true rfl, Nat.le_of_ble_eq_true rfl⟩ 11 0 rfl rfl [0, 1, 2, 3, 4, 5, 6] rfl (by decide) (fun _ => rfl) rfl [] rfl (Nat.le_of_ble_eq_true rfl) ⟨Nat.le_refl _, Nat.le_refl _⟩ dX11_hashLaid_5 ?_
    rintro ⟨S5, W5, nl5, G5, FO5⟩ hW
    try dsimp only at hW
    refine j_w [oB h 11 (mO b (upd v 3 (nI nl5))), bA g (b 2) 1400 G5, bA g (b 4) 32 FO5, iA g (b 5) 64 W5, iA g (b 6) 8 S5, iA g (b 7) 8 fs, iA g (b 8) 64 rt, lA g (b 9) 25 A0, lA g (b 10) 25 T0, lA g (b 11) 5 U0, iA g (b 12) 25 tn] rfl ?_
    refine j_st [] rfl ?_
    refine j_pc 8 rfl ?_
    refine j_goto hX 15 dX11_hashLaid_8 (by decide) ?_
    exact hret (W5, S5, A0, T0, U0, nl5, G5, FO5) (by dsimp only; first | (unfold HH; rw [if_pos b_1]; exact hW) | (unfold HH; rw [if_neg b_1]; exact hW)) 15 _ .return_ dX11_hashLaid_15 rfl

