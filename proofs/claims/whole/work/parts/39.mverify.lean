theorem Zl_getD (x : Int64) : ∀ c k, k < c → (Zl x c).getD k 0 = zB x (c - 1 - k)
  | 0, k, h => absurd h (Nat.not_lt_zero k)
  | c + 1, 0, _ => by rw [Zl]; rfl
  | c + 1, k + 1, h => by
    rw [Zl]
    show (Zl x c).getD k 0 = _
    rw [Zl_getD x c k (by omega), show c + 1 - 1 - (k + 1) = c - 1 - k by omega]
theorem told_get (x y : Int64) {k : Nat} (hk : k < 16) : (Zl x 8 ++ Zl y 8).getD k 0 = if k < 8 then i8 (lshr x (nI (56 - 8 * k))).toInt32 else i8 (lshr y (nI (120 - 8 * k))).toInt32 := by
  by_cases h : k < 8
  · rw [if_pos h, show 56 - 8 * k = 8 * (7 - k) by omega, zB_shr _ _ (by omega)]
    simp only [List.getD]
    rw [List.getElem?_append_left (by rw [Zl_length]; omega)]
    have := Zl_getD x 8 k h
    simp only [List.getD] at this
    rw [this]
  · rw [if_neg h, show 120 - 8 * k = 8 * (15 - k) by omega, zB_shr _ _ (by omega)]
    simp only [List.getD]
    rw [List.getElem?_append_right (by rw [Zl_length]; omega), Zl_length]
    have := Zl_getD y 8 (k - 8) (by omega)
    simp only [List.getD] at this
    rw [this, show 8 - 1 - (k - 8) = 15 - k by omega]
theorem told_B (x y : Int64) : isBL (Zl x 8 ++ Zl y 8) := isBL_app (Zl_B _ _) (Zl_B _ _)
theorem told_len (x y : Int64) : (Zl x 8 ++ Zl y 8).length = 16 := by rw [List.length_append, Zl_length, Zl_length]
theorem slice_eq_iff {f h : Nat → Int32} {n : Nat} : slice f 0 n = slice h 0 n ↔ ∀ j, j < n → f j = h j := by
  constructor
  · intro e j hj
    have a := slice_getD (f := f) (s := 0) hj
    have b := slice_getD (f := h) (s := 0) hj
    rw [Nat.zero_add] at a b
    rw [← a, ← b, e]
  · intro e
    apply slice_congr
    intro j hj
    rw [Nat.zero_add]
    exact e j hj

set_option maxHeartbeats 4000000 in
set_option maxRecDepth 100000 in
/-- the reference: verify -/
theorem c_mverify1 (l : Launch) (g : jG) (h : Nat) (b : Nat → Nat) (v : Nat → Int32) (n0 : Nat) (f : Nat → Int32) (dg : Nat → Int32) (w0 : Nat → Int32) (S0 : Nat → Int32) (fs : Nat → Int32) (rt : Nat → Int32) (A0 : Nat → Int64) (T0 : Nat → Int64) (U0 : Nat → Int64) (tn : Nat → Int32) (sd : Nat → Int32) (tp : Nat → Int32) (ntp : Nat) (D0 : Nat → Int32) (e0 : Nat → Int32) (ro : Nat → Int32) (pf : Nat → Int32) (mx : Nat → Int32) (xf : Nat → Int32) (sg : Nat → Int32) (frf : Nat → Int32) (rw : Nat → Int32) (le : Nat → Int32) (fm : Nat) (nn : Nat) (ht : Nat) (lys : Nat) (fa : Nat) (mk : Nat) (nsg : Nat) (hfs : ∀ j, j < 8 → fs j = s_first.getD j 0) (hrt : ∀ j, j < 64 → rt j = s_cube.getD j 0) (htn : ∀ k, k < 25 → tn k = s_turns.getD k 0) (hv3 : v 3 = nI n0) (hn0 : n0 ≤ 1400) (hB : isB sd) (hv1 : v 1 = nI ntp) (hntp : ntp ≤ 600) (hTpB : isB tp) (hEB : isB e0) (hRoB : isB ro) (hPB : isB pf) (hMxB : isB mx) (hSgB : isB sg) (hFrB : isB frf) (hRwB : isB rw) (hLeB : isB le) (hv15 : v 15 = nI fm) (hv16 : v 16 = nI nn) (hv17 : v 17 = nI ht) (hv18 : v 18 = nI lys) (hv19 : v 19 = nI fa) (hv20 : v 20 = nI mk) (hv21 : v 21 = nI (ln nn)) (hv22 : v 22 = nI (sgS nn ht lys fa mk)) (hv24 : v 24 = nI 1) (hv25 : v 25 = nI nsg) (hsg : nsg = sgS nn ht lys fa mk) (hfm : fm < 2) (hnn4 : nn = 4 ∨ nn = 8 ∨ nn = 12 ∨ nn = 16) (hht : 1 ≤ ht ∧ ht ≤ 2) (hlys : 1 ≤ lys ∧ lys ≤ 2) (hfa : 1 ≤ fa ∧ fa ≤ 4) (hmk : 1 ≤ mk ∧ mk ≤ 6) : jC l g yX11_verify wsX11_verify ({ frames := 7, cells := 0, slots := 0, locals := 169 } : Room) [.ref h] [oB h 11 (mO b v), bA g (b 2) 1400 f, bA g (b 4) 32 dg, iA g (b 5) 64 w0, iA g (b 6) 8 S0, iA g (b 7) 8 fs, iA g (b 8) 64 rt, lA g (b 9) 25 A0, lA g (b 10) 25 T0, lA g (b 11) 5 U0, iA g (b 12) 25 tn, bA g (b 23) 48 sd, bA g (b 0) 600 tp, iA g (b 29) 40 D0, bA g (b 30) 560 e0, bA g (b 32) 16 ro, bA g (b 34) 32 pf, bA g (b 36) 16 mx, iA g (b 37) 8 xf, bA g (b 38) 2000 sg, bA g (b 40) 96 frf, bA g (b 41) 16 rw, bA g (b 42) 16 le] (fun jj : (Nat → Int32) × (Nat → Int32) × (Nat → Int64) × (Nat → Int64) × (Nat → Int64) × Nat × (Nat → Int32) × (Nat → Int32) × Nat × Nat × Nat × (Nat → Int32) × (Nat → Int32) × (Nat → Int32) × (Nat → Int32) × (Nat → Int32) × (Nat → Int32) × (Nat → Int32) × (Nat → Int32) => some (.int (if ldL fm nn sd ht fa mk (IXS fm nn sd ht lys fa mk (slice sg 0 nn) (slice ro 0 nn) (slice tp 0 ntp)) sg lys = slice ro 0 nn then 1 else 0))) (fun jj : (Nat → Int32) × (Nat → Int32) × (Nat → Int64) × (Nat → Int64) × (Nat → Int64) × Nat × (Nat → Int32) × (Nat → Int32) × Nat × Nat × Nat × (Nat → Int32) × (Nat → Int32) × (Nat → Int32) × (Nat → Int32) × (Nat → Int32) × (Nat → Int32) × (Nat → Int32) × (Nat → Int32) => jj.2.2.2.2.2.1 ≤ 1400 ∧ (isB jj.2.2.2.2.2.2.2.2.2.2.2.2.1 ∧ isB jj.2.2.2.2.2.2.2.2.2.2.2.2.2.1 ∧ isB jj.2.2.2.2.2.2.2.2.2.2.2.2.2.2.1 ∧ isB jj.2.2.2.2.2.2.2.2.2.2.2.2.2.2.2.2.1 ∧ isB jj.2.2.2.2.2.2.2.2.2.2.2.2.2.2.2.2.2.1 ∧ isB jj.2.2.2.2.2.2.2.2.2.2.2.2.2.2.2.2.2.2) ∧ slice jj.2.2.2.2.2.2.2.2.2.2.2.2.2.2.2.2.2.2 0 nn = ldL fm nn sd ht fa mk (IXS fm nn sd ht lys fa mk (slice sg 0 nn) (slice ro 0 nn) (slice tp 0 ntp)) sg lys ∧ ∀ j, j < 8 → jj.2.2.2.2.2.2.2.2.2.2.2.2.2.2.2.1 j = ixV (IXS fm nn sd ht lys fa mk (slice sg 0 nn) (slice ro 0 nn) (slice tp 0 ntp)) mk j) (fun jj : (Nat → Int32) × (Nat → Int32) × (Nat → Int64) × (Nat → Int64) × (Nat → Int64) × Nat × (Nat → Int32) × (Nat → Int32) × Nat × Nat × Nat × (Nat → Int32) × (Nat → Int32) × (Nat → Int32) × (Nat → Int32) × (Nat → Int32) × (Nat → Int32) × (Nat → Int32) × (Nat → Int32) => [oB h 11 (mO b (upd (upd (upd (upd (upd v 3 (nI jj.2.2.2.2.2.1)) 39 (nI jj.2.2.2.2.2.2.2.2.2.2.1)) 27 (nI jj.2.2.2.2.2.2.2.2.1)) 28 (nI jj.2.2.2.2.2.2.2.2.2.1)) 26 (nI 1))), bA g (b 2) 1400 jj.2.2.2.2.2.2.1, bA g (b 4) 32 jj.2.2.2.2.2.2.2.1, iA g (b 5) 64 jj.1, iA g (b 6) 8 jj.2.1, iA g (b 7) 8 fs, iA g (b 8) 64 rt, lA g (b 9) 25 jj.2.2.1, lA g (b 10) 25 jj.2.2.2.1, lA g (b 11) 5 jj.2.2.2.2.1, iA g (b 12) 25 tn, bA g (b 23) 48 sd, bA g (b 0) 600 tp, iA g (b 29) 40 jj.2.2.2.2.2.2.2.2.2.2.2.1, bA g (b 30) 560 jj.2.2.2.2.2.2.2.2.2.2.2.2.1, bA g (b 32) 16 ro, bA g (b 34) 32 jj.2.2.2.2.2.2.2.2.2.2.2.2.2.1, bA g (b 36) 16 jj.2.2.2.2.2.2.2.2.2.2.2.2.2.2.1, iA g (b 37) 8 jj.2.2.2.2.2.2.2.2.2.2.2.2.2.2.2.1, bA g (b 38) 2000 sg, bA g (b 40) 96 jj.2.2.2.2.2.2.2.2.2.2.2.2.2.2.2.2.1, bA g (b 41) 16 jj.2.2.2.2.2.2.2.2.2.2.2.2.2.2.2.2.2.1, bA g (b 42) 16 jj.2.2.2.2.2.2.2.2.2.2.2.2.2.2.2.2.2.2]) := by
  refine jC.of (cc := cX11_verify) (own := RX11) (maxL := 5) (ret := (some .int)) (by decide +kernel) rfl rfl (Nat.le_of_ble_eq_true rfl) (fun u hu => ⟨_, rfl, rfl⟩) ?_
  intro p e s m below meth c A Q hX hret
  have in11 : ∀ w ∈ wsX110, w ∈ wsX11_verify := (fun w h => List.mem_cons_of_mem _ (List.mem_append_right _ h))
  have hnn : nn ≤ 16 := by omega
  have hn1 : 1 ≤ nn := by omega
  have hp4 := pow4 hht.2
  have hp16 := pow_le16 hfa.2
  have hcap := sig_cap (nn := nn) (ht := ht) (lys := lys) (fa := fa) (mk := mk) hnn hht.2 hlys.2 hfa.2 hmk.2
  have hsq := sgS_eq nn ht lys fa mk
  have hln := ln_le nn
  have hh := hl_le (fm := fm) hnn
  have hm96 : nn * mk ≤ 16 * 6 := Nat.mul_le_mul hnn hmk.2
  have hmc := Nat.mul_comm nn mk
  refine j_w [oB h 11 (mO b (upd v 3 (nI n0))), bA g (b 2) 1400 f, bA g (b 4) 32 dg, iA g (b 5) 64 w0, iA g (b 6) 8 S0, iA g (b 7) 8 fs, iA g (b 8) 64 rt, lA g (b 9) 25 A0, lA g (b 10) 25 T0, lA g (b 11) 5 U0, iA g (b 12) 25 tn, bA g (b 23) 48 sd, bA g (b 0) 600 tp, iA g (b 29) 40 D0, bA g (b 30) 560 e0, bA g (b 32) 16 ro, bA g (b 34) 32 pf, bA g (b 36) 16 mx, iA g (b 37) 8 xf, bA g (b 38) 2000 sg, bA g (b 40) 96 frf, bA g (b 41) 16 rw, bA g (b 42) 16 le] (by rw [updS (hv3 : (v : Nat → Int32) 3 = nI n0)]) ?_
  refine j_aload_n hX 0 dX11_verify_0 rfl ?_
  refine j_gete hX (nI 1) in11 11 0 24 rfl rfl (by decide) (List.mem_of_getElem? (i := 1) rfl) rfl rfl hv24 dX11_verify_1 ?_
  refine j_if_neN hX 1 10 dX11_verify_4 (by decide) (by omega) (fun b_4 => ?_) (fun b_4 => absurd b_4 (by omega))
  refine j_aload_n hX 0 dX11_verify_10 rfl ?_
  refine j_gete hX (nI nsg) in11 11 0 25 rfl rfl (by decide) (List.mem_of_getElem? (i := 2) rfl) rfl rfl hv25 dX11_verify_11 ?_
  refine j_aload_n hX 0 dX11_verify_14 rfl ?_
  refine j_gete hX (nI (sgS nn ht lys fa mk)) in11 11 0 22 rfl rfl (by decide) (List.mem_of_getElem? (i := 3) rfl) rfl rfl hv22 dX11_verify_15 ?_
  refine j_pc 18 rfl ?_
  refine j_icmp_eqN hX nsg (sgS nn ht lys fa mk) 23 dX11_verify_18 (by decide) (by omega) (by omega) (fun b_18 => ?_) (fun b_18 => absurd b_18 (by omega))
  refine j_aload_n hX 0 dX11_verify_23 rfl ?_
  refine j_iconst hX (0) dX11_verify_24 (by decide) ?_
  refine j_st [.int (nI 0), .ref h] rfl ?_
  refine j_put hX (v := .int (nI 0)) (ty := .int) in11 tyX11 tyX11_ok nmX11 11 0 39 rfl rfl (by decide) (List.mem_of_getElem? (i := 4) rfl) rfl rfl rfl rfl rfl (Nat.le_of_ble_eq_true rfl) [oB h 11 (mO b (upd (upd v 3 (nI n0)) 39 (nI 0))), bA g (b 2) 1400 f, bA g (b 4) 32 dg, iA g (b 5) 64 w0, iA g (b 6) 8 S0, iA g (b 7) 8 fs, iA g (b 8) 64 rt, lA g (b 9) 25 A0, lA g (b 10) 25 T0, lA g (b 11) 5 U0, iA g (b 12) 25 tn, bA g (b 23) 48 sd, bA g (b 0) 600 tp, iA g (b 29) 40 D0, bA g (b 30) 560 e0, bA g (b 32) 16 ro, bA g (b 34) 32 pf, bA g (b 36) 16 mx, iA g (b 37) 8 xf, bA g (b 38) 2000 sg, bA g (b 40) 96 frf, bA g (b 41) 16 rw, bA g (b 42) 16 le] rfl dX11_verify_25 ?_
  refine j_aload_n hX 0 dX11_verify_28 rfl ?_
  refine j_aload_n hX 0 dX11_verify_29 rfl ?_
  refine j_get hX in11 11 0 36 (v := .ref (b 36)) rfl rfl (by decide) (List.mem_of_getElem? (i := 5) rfl) rfl rfl dX11_verify_30 ?_
  refine j_iconst hX (0) dX11_verify_33 (by decide) ?_
  refine j_pc 34 rfl ?_
  refine j_callV2 hX 2 (c_mread l g h b (upd (upd v 3 (nI n0)) 39 (nI 0)) nn 0 (b 36) 16 mx sg 0 hv16 rfl (by omega) (by omega) (by omega) (by omega) hSgB) gX11_verify_X11_read (by decide +kernel) rfl ⟨rfl, rfl⟩ ⟨Nat.le_of_ble_eq_true rfl, Nat.le_of_ble_eq_true rfl⟩ 11 0 rfl rfl [0, 17, 19] [1, 2, 3, 4, 5, 6, 7, 8, 9, 10, 11, 12, 13, 14, 15, 16, 18, 20, 21, 22] 23 rfl (by decide) (fun jj : (Nat → Int32) => [oB h 11 (mO b (upd (upd v 3 (nI n0)) 39 (nI (0 + nn)))), bA g (b 2) 1400 f, bA g (b 4) 32 dg, iA g (b 5) 64 w0, iA g (b 6) 8 S0, iA g (b 7) 8 fs, iA g (b 8) 64 rt, lA g (b 9) 25 A0, lA g (b 10) 25 T0, lA g (b 11) 5 U0, iA g (b 12) 25 tn, bA g (b 23) 48 sd, bA g (b 0) 600 tp, iA g (b 29) 40 D0, bA g (b 30) 560 e0, bA g (b 32) 16 ro, bA g (b 34) 32 pf, bA g (b 36) 16 jj, iA g (b 37) 8 xf, bA g (b 38) 2000 sg, bA g (b 40) 96 frf, bA g (b 41) 16 rw, bA g (b 42) 16 le]) (fun _ => rfl) (by decide) [h, (b 2), (b 4), (b 5), (b 6), (b 7), (b 8), (b 9), (b 10), (b 11), (b 12), (b 23), (b 0), (b 29), (b 30), (b 32), (b 34), (b 36), (b 37), (b 38), (b 40), (b 41), (b 42)] rfl (fun _ => rfl) (fun _ => rfl) [bA g (b 2) 1400 f, bA g (b 4) 32 dg, iA g (b 5) 64 w0, iA g (b 6) 8 S0, iA g (b 7) 8 fs, iA g (b 8) 64 rt, lA g (b 9) 25 A0, lA g (b 10) 25 T0, lA g (b 11) 5 U0, iA g (b 12) 25 tn, bA g (b 23) 48 sd, bA g (b 0) 600 tp, iA g (b 29) 40 D0, bA g (b 30) 560 e0, bA g (b 32) 16 ro, bA g (b 34) 32 pf, iA g (b 37) 8 xf, bA g (b 40) 96 frf, bA g (b 41) 16 rw, bA g (b 42) 16 le] rfl (fun _ => rfl) rfl [] rfl (Nat.le_of_ble_eq_true rfl) ⟨Nat.le_refl _, Nat.le_refl _⟩ dX11_verify_34 ?_
  intro M2 hT0
  try dsimp only at hT0
  refine j_w [oB h 11 (mO b (upd (upd v 3 (nI n0)) 39 (nI (0 + nn)))), bA g (b 2) 1400 f, bA g (b 4) 32 dg, iA g (b 5) 64 w0, iA g (b 6) 8 S0, iA g (b 7) 8 fs, iA g (b 8) 64 rt, lA g (b 9) 25 A0, lA g (b 10) 25 T0, lA g (b 11) 5 U0, iA g (b 12) 25 tn, bA g (b 23) 48 sd, bA g (b 0) 600 tp, iA g (b 29) 40 D0, bA g (b 30) 560 e0, bA g (b 32) 16 ro, bA g (b 34) 32 pf, bA g (b 36) 16 M2, iA g (b 37) 8 xf, bA g (b 38) 2000 sg, bA g (b 40) 96 frf, bA g (b 41) 16 rw, bA g (b 42) 16 le] rfl ?_
  refine j_st [] rfl ?_
  have hM2 : isB M2 := by rw [hT0]; exact putL_B hMxB (slice_B hSgB _ _)
  have hMs : slice M2 0 nn = slice sg 0 nn := by rw [hT0, slice_put (by rw [slice_length])]
  refine j_aload_n hX 0 dX11_verify_37 rfl ?_
  refine j_aload_n hX 0 dX11_verify_38 rfl ?_
  refine j_get hX in11 11 0 36 (v := .ref (b 36)) rfl rfl (by decide) (List.mem_of_getElem? (i := 5) rfl) rfl rfl dX11_verify_39 ?_
  refine j_callV2 hX 1 (c_point l g h b (upd (upd v 3 (nI n0)) 39 (nI (0 + nn))) n0 f dg w0 S0 fs rt A0 T0 U0 tn sd tp ntp ro pf M2 xf fm nn ht lys fa mk hfs hrt htn rfl (by omega) hB hv1 (by omega) hTpB hRoB hPB hM2 hv15 hv16 hv17 hv18 hv19 hv20 (by omega) (by omega) hht.2 hlys hfa hmk) gX11_verify_X11_point (by decide +kernel) rfl ⟨rfl, rfl⟩ ⟨Nat.le_of_ble_eq_true rfl, Nat.le_of_ble_eq_true rfl⟩ 11 0 rfl rfl [0, 1, 2, 3, 4, 5, 6, 7, 8, 9, 10, 11, 12, 15, 16, 17, 18] [13, 14, 19, 20, 21, 22] 23 rfl (by decide) (fun jj : (Nat → Int32) × (Nat → Int32) × (Nat → Int64) × (Nat → Int64) × (Nat → Int64) × Nat × (Nat → Int32) × (Nat → Int32) × (Nat → Int32) × (Nat → Int32) => [oB h 11 (mO b (upd (upd v 3 (nI jj.2.2.2.2.2.1)) 39 (nI (0 + nn)))), bA g (b 2) 1400 jj.2.2.2.2.2.2.1, bA g (b 4) 32 jj.2.2.2.2.2.2.2.1, iA g (b 5) 64 jj.1, iA g (b 6) 8 jj.2.1, iA g (b 7) 8 fs, iA g (b 8) 64 rt, lA g (b 9) 25 jj.2.2.1, lA g (b 10) 25 jj.2.2.2.1, lA g (b 11) 5 jj.2.2.2.2.1, iA g (b 12) 25 tn, bA g (b 23) 48 sd, bA g (b 0) 600 tp, iA g (b 29) 40 D0, bA g (b 30) 560 e0, bA g (b 32) 16 ro, bA g (b 34) 32 jj.2.2.2.2.2.2.2.2.1, bA g (b 36) 16 M2, iA g (b 37) 8 jj.2.2.2.2.2.2.2.2.2, bA g (b 38) 2000 sg, bA g (b 40) 96 frf, bA g (b 41) 16 rw, bA g (b 42) 16 le]) (fun _ => rfl) (by decide) [h, (b 2), (b 4), (b 5), (b 6), (b 7), (b 8), (b 9), (b 10), (b 11), (b 12), (b 23), (b 0), (b 29), (b 30), (b 32), (b 34), (b 36), (b 37), (b 38), (b 40), (b 41), (b 42)] rfl (fun _ => rfl) (fun _ => rfl) [iA g (b 29) 40 D0, bA g (b 30) 560 e0, bA g (b 38) 2000 sg, bA g (b 40) 96 frf, bA g (b 41) 16 rw, bA g (b 42) 16 le] rfl (fun _ => rfl) rfl [] rfl (Nat.le_of_ble_eq_true rfl) ⟨Nat.le_refl _, Nat.le_refl _⟩ dX11_verify_42 ?_
  rintro ⟨w4, S4, A4, T4, U4, nl4, G4, FO4, P4, X4⟩ hN
  try dsimp only at hN
  refine j_w [oB h 11 (mO b (upd (upd v 3 (nI nl4)) 39 (nI (0 + nn)))), bA g (b 2) 1400 G4, bA g (b 4) 32 FO4, iA g (b 5) 64 w4, iA g (b 6) 8 S4, iA g (b 7) 8 fs, iA g (b 8) 64 rt, lA g (b 9) 25 A4, lA g (b 10) 25 T4, lA g (b 11) 5 U4, iA g (b 12) 25 tn, bA g (b 23) 48 sd, bA g (b 0) 600 tp, iA g (b 29) 40 D0, bA g (b 30) 560 e0, bA g (b 32) 16 ro, bA g (b 34) 32 P4, bA g (b 36) 16 M2, iA g (b 37) 8 X4, bA g (b 38) 2000 sg, bA g (b 40) 96 frf, bA g (b 41) 16 rw, bA g (b 42) 16 le] rfl ?_
  refine j_st [] rfl ?_
  rw [hMs] at hN
  obtain ⟨ix, hixd⟩ : ∃ z, z = (IXS fm nn sd ht lys fa mk (slice sg 0 nn) (slice ro 0 nn) (slice tp 0 ntp)) := ⟨_, rfl⟩
  have hxv : ∀ j, j < 2 + mk → X4 j = nI (ix j) := fun j hj => by rw [hN.2.2 j (by omega), ← hixd]; exact ixV_in hj
  obtain ⟨hix, hixc, hix0, hixL⟩ := ix_facts _ hht hlys hfa hmk hixd
  have hi0 := hix 0
  have hi1 := hix 1
  have hu1 := (hixL 0 (by omega)).2
  refine j_aload_n hX 0 dX11_verify_45 rfl ?_
  refine j_iconst hX (0) dX11_verify_46 (by decide) ?_
  refine j_st [.int (nI 0), .ref h] rfl ?_
  refine j_put hX (v := .int (nI 0)) (ty := .int) in11 tyX11 tyX11_ok nmX11 11 0 27 rfl rfl (by decide) (List.mem_of_getElem? (i := 6) rfl) rfl rfl rfl rfl rfl (Nat.le_of_ble_eq_true rfl) [oB h 11 (mO b (upd (upd (upd v 3 (nI nl4)) 39 (nI (0 + nn))) 27 (nI 0))), bA g (b 2) 1400 G4, bA g (b 4) 32 FO4, iA g (b 5) 64 w4, iA g (b 6) 8 S4, iA g (b 7) 8 fs, iA g (b 8) 64 rt, lA g (b 9) 25 A4, lA g (b 10) 25 T4, lA g (b 11) 5 U4, iA g (b 12) 25 tn, bA g (b 23) 48 sd, bA g (b 0) 600 tp, iA g (b 29) 40 D0, bA g (b 30) 560 e0, bA g (b 32) 16 ro, bA g (b 34) 32 P4, bA g (b 36) 16 M2, iA g (b 37) 8 X4, bA g (b 38) 2000 sg, bA g (b 40) 96 frf, bA g (b 41) 16 rw, bA g (b 42) 16 le] rfl dX11_verify_47 ?_
  refine j_pc 50 rfl ?_
  refine j_aload_n hX 0 dX11_verify_50 rfl ?_
  refine j_aload_n hX 0 dX11_verify_51 rfl ?_
  refine j_get hX in11 11 0 37 (v := .ref (b 37)) rfl rfl (by decide) (List.mem_of_getElem? (i := 7) rfl) rfl rfl dX11_verify_52 ?_
  refine j_iconst hX (0) dX11_verify_55 (by decide) ?_
  refine j_ialdN hX 18 0 rfl (by omega) (by omega) dX11_verify_56 ?_
  refine j_topeq _ (nI (ix 0)) (hxv 0 (by omega)) ?_
  refine j_put hX (v := .int (nI (ix 0))) (ty := .int) in11 tyX11 tyX11_ok nmX11 11 0 28 rfl rfl (by decide) (List.mem_of_getElem? (i := 8) rfl) rfl rfl rfl rfl rfl (Nat.le_of_ble_eq_true rfl) [oB h 11 (mO b (upd (upd (upd (upd v 3 (nI nl4)) 39 (nI (0 + nn))) 27 (nI 0)) 28 (nI (ix 0)))), bA g (b 2) 1400 G4, bA g (b 4) 32 FO4, iA g (b 5) 64 w4, iA g (b 6) 8 S4, iA g (b 7) 8 fs, iA g (b 8) 64 rt, lA g (b 9) 25 A4, lA g (b 10) 25 T4, lA g (b 11) 5 U4, iA g (b 12) 25 tn, bA g (b 23) 48 sd, bA g (b 0) 600 tp, iA g (b 29) 40 D0, bA g (b 30) 560 e0, bA g (b 32) 16 ro, bA g (b 34) 32 P4, bA g (b 36) 16 M2, iA g (b 37) 8 X4, bA g (b 38) 2000 sg, bA g (b 40) 96 frf, bA g (b 41) 16 rw, bA g (b 42) 16 le] rfl dX11_verify_57 ?_
  refine j_aload_n hX 0 dX11_verify_60 rfl ?_
  refine j_get hX in11 11 0 37 (v := .ref (b 37)) rfl rfl (by decide) (List.mem_of_getElem? (i := 7) rfl) rfl rfl dX11_verify_61 ?_
  refine j_pc 64 rfl ?_
  refine j_iconst hX (1) dX11_verify_64 (by decide) ?_
  refine j_ialdN hX 18 1 rfl (by omega) (by omega) dX11_verify_65 ?_
  refine j_topeq _ (nI (ix 1)) (hxv 1 (by omega)) ?_
  refine j_istore_n hX 1 [(1, .int (nI (ix 1))), (0, .ref h)] dX11_verify_66 rfl (by decide) rfl ?_
  refine j_iconst hX (0) dX11_verify_67 (by decide) ?_
  refine j_st [.int (nI 0)] rfl ?_
  refine j_istore_n hX 2 [(2, .int (nI 0)), (1, .int (nI (ix 1))), (0, .ref h)] dX11_verify_68 rfl (by decide) rfl ?_
  have lp_1 : ∀ (n_2 : Nat) (i : Nat) (w1 : Nat → Int32) (S1 : Nat → Int32) (A1 : Nat → Int64) (T1 : Nat → Int64) (U1 : Nat → Int64) (nl : Nat) (G : Nat → Int32) (FO : Nat → Int32) (P1 : Nat → Int32) (at1 : Nat) (FRF : Nat → Int32) (R1 : Nat → Int32), (mk - i < n_2) → (i ≤ mk) → (nl ≤ 1400) → (isB P1) → (isB FRF) → (isB R1) → (at1 = nn + i * ((fa + 1) * nn)) → (FRF = putL frf 0 (fewLT fm nn sd 0 (ix 0) (ix 1) fa (fun i => ix (2 + i)) sg nn i)) → J p l e ({ frames := 7, cells := 0, slots := 0, locals := 169 } : Room) s m ([.ref h] : List Value).toArray below meth c g A 5 Q 0 0 [oB h 11 (mO b (upd (upd (upd (upd v 3 (nI nl)) 39 (nI at1)) 27 (nI 0)) 28 (nI (ix 0)))), bA g (b 2) 1400 G, bA g (b 4) 32 FO, iA g (b 5) 64 w1, iA g (b 6) 8 S1, iA g (b 7) 8 fs, iA g (b 8) 64 rt, lA g (b 9) 25 A1, lA g (b 10) 25 T1, lA g (b 11) 5 U1, iA g (b 12) 25 tn, bA g (b 23) 48 sd, bA g (b 0) 600 tp, iA g (b 29) 40 D0, bA g (b 30) 560 e0, bA g (b 32) 16 ro, bA g (b 34) 32 P1, bA g (b 36) 16 M2, iA g (b 37) 8 X4, bA g (b 38) 2000 sg, bA g (b 40) 96 FRF, bA g (b 41) 16 R1, bA g (b 42) 16 le] [(0, .ref h), (1, .int (nI (ix 1))), (2, .int (nI i))] 69 [] := by
    intro n_2
    induction n_2 with
    | zero => intro i w1 S1 A1 T1 U1 nl G FO P1 at1 FRF R1 hm; exact absurd hm (Nat.not_lt_zero _)
    | succ n_2 ih_3 =>
      intro i w1 S1 A1 T1 U1 nl G FO P1 at1 FRF R1 hm hi hnl hP1 hFR hR1 hat1 hT1
      refine j_iload_n hX 2 dX11_verify_69 rfl ?_
      refine j_aload_n hX 0 dX11_verify_70 rfl ?_
      refine j_gete hX (nI mk) in11 11 0 20 rfl rfl (by decide) (List.mem_of_getElem? (i := 9) rfl) rfl rfl hv20 dX11_verify_71 ?_
      refine j_pc 74 rfl ?_
      refine j_icmp_geN hX i mk 232 dX11_verify_74 (by decide) (by omega) (by omega) (fun b_74 => ?_) (fun b_74 => ?_)
      · skip
        have him : i = mk := by omega
        rw [him] at hat1 hT1
        refine j_aload_n hX 0 dX11_verify_232 rfl ?_
        refine j_iconst hX (4) dX11_verify_233 (by decide) ?_
        refine j_iload_n hX 1 dX11_verify_234 rfl ?_
        refine j_iconst hX (0) dX11_verify_235 (by decide) ?_
        refine j_iconst hX (0) dX11_verify_236 (by decide) ?_
        refine j_callV2 hX 4 (c_begin l g h b (upd (upd (upd (upd v 3 (nI nl)) 39 (nI at1)) 27 (nI 0)) 28 (nI (ix 0))) G sd fm nn 0 (ix 0) 4 (ix 1) 0 0 hv15 hv16 rfl rfl (by omega) (by omega) hB) gX11_verify_X11_begin (by decide +kernel) rfl ⟨rfl, rfl⟩ ⟨Nat.le_of_ble_eq_true rfl, Nat.le_of_ble_eq_true rfl⟩ 11 0 rfl rfl [0, 1, 11] [2, 3, 4, 5, 6, 7, 8, 9, 10, 12, 13, 14, 15, 16, 17, 18, 19, 20, 21, 22] 23 rfl (by decide) (fun jj : (Nat → Int32) => [oB h 11 (mO b (upd (upd (upd (upd v 3 (nI (hl fm nn))) 39 (nI at1)) 27 (nI 0)) 28 (nI (ix 0)))), bA g (b 2) 1400 jj, bA g (b 4) 32 FO, iA g (b 5) 64 w1, iA g (b 6) 8 S1, iA g (b 7) 8 fs, iA g (b 8) 64 rt, lA g (b 9) 25 A1, lA g (b 10) 25 T1, lA g (b 11) 5 U1, iA g (b 12) 25 tn, bA g (b 23) 48 sd, bA g (b 0) 600 tp, iA g (b 29) 40 D0, bA g (b 30) 560 e0, bA g (b 32) 16 ro, bA g (b 34) 32 P1, bA g (b 36) 16 M2, iA g (b 37) 8 X4, bA g (b 38) 2000 sg, bA g (b 40) 96 FRF, bA g (b 41) 16 R1, bA g (b 42) 16 le]) (fun _ => rfl) (by decide) [h, (b 2), (b 4), (b 5), (b 6), (b 7), (b 8), (b 9), (b 10), (b 11), (b 12), (b 23), (b 0), (b 29), (b 30), (b 32), (b 34), (b 36), (b 37), (b 38), (b 40), (b 41), (b 42)] rfl (fun _ => rfl) (fun _ => rfl) [bA g (b 4) 32 FO, iA g (b 5) 64 w1, iA g (b 6) 8 S1, iA g (b 7) 8 fs, iA g (b 8) 64 rt, lA g (b 9) 25 A1, lA g (b 10) 25 T1, lA g (b 11) 5 U1, iA g (b 12) 25 tn, bA g (b 0) 600 tp, iA g (b 29) 40 D0, bA g (b 30) 560 e0, bA g (b 32) 16 ro, bA g (b 34) 32 P1, bA g (b 36) 16 M2, iA g (b 37) 8 X4, bA g (b 38) 2000 sg, bA g (b 40) 96 FRF, bA g (b 41) 16 R1, bA g (b 42) 16 le] rfl (fun _ => rfl) rfl [] rfl (Nat.le_of_ble_eq_true rfl) ⟨Nat.le_refl _, Nat.le_refl _⟩ dX11_verify_237 ?_
        intro F1 hF1
        try dsimp only at hF1
        refine j_w [oB h 11 (mO b (upd (upd (upd (upd v 3 (nI (hl fm nn))) 39 (nI at1)) 27 (nI 0)) 28 (nI (ix 0)))), bA g (b 2) 1400 F1, bA g (b 4) 32 FO, iA g (b 5) 64 w1, iA g (b 6) 8 S1, iA g (b 7) 8 fs, iA g (b 8) 64 rt, lA g (b 9) 25 A1, lA g (b 10) 25 T1, lA g (b 11) 5 U1, iA g (b 12) 25 tn, bA g (b 23) 48 sd, bA g (b 0) 600 tp, iA g (b 29) 40 D0, bA g (b 30) 560 e0, bA g (b 32) 16 ro, bA g (b 34) 32 P1, bA g (b 36) 16 M2, iA g (b 37) 8 X4, bA g (b 38) 2000 sg, bA g (b 40) 96 FRF, bA g (b 41) 16 R1, bA g (b 42) 16 le] rfl ?_
        refine j_st [] rfl ?_
        refine j_aload_n hX 0 dX11_verify_240 rfl ?_
        refine j_pc 241 rfl ?_
        refine j_aload_n hX 0 dX11_verify_241 rfl ?_
        refine j_get hX in11 11 0 40 (v := .ref (b 40)) rfl rfl (by decide) (List.mem_of_getElem? (i := 14) rfl) rfl rfl dX11_verify_242 ?_
        refine j_iconst hX (0) dX11_verify_245 (by decide) ?_
        refine j_aload_n hX 0 dX11_verify_246 rfl ?_
        refine j_gete hX (nI nn) in11 11 0 16 rfl rfl (by decide) (List.mem_of_getElem? (i := 12) rfl) rfl rfl hv16 dX11_verify_247 ?_
        refine j_aload_n hX 0 dX11_verify_250 rfl ?_
        refine j_gete hX (nI mk) in11 11 0 20 rfl rfl (by decide) (List.mem_of_getElem? (i := 9) rfl) rfl rfl hv20 dX11_verify_251 ?_
        refine j_imulN hX nn mk dX11_verify_254 ?_
        refine j_pc 255 rfl ?_
        refine j_callV2 hX 3 (c_layRow l g h b (upd (upd (upd (upd v 3 (nI (hl fm nn))) 39 (nI at1)) 27 (nI 0)) 28 (nI (ix 0))) (hl fm nn) F1 (b 40) 96 FRF 0 (nn * mk) rfl (by omega) (by omega) (by omega) hFR) gX11_verify_X11_layRow (by decide +kernel) rfl ⟨rfl, rfl⟩ ⟨Nat.le_of_ble_eq_true rfl, Nat.le_of_ble_eq_true rfl⟩ 11 0 rfl rfl [0, 1, 20] [2, 3, 4, 5, 6, 7, 8, 9, 10, 11, 12, 13, 14, 15, 16, 17, 18, 19, 21, 22] 23 rfl (by decide) (fun jj : (Nat → Int32) => [oB h 11 (mO b (upd (upd (upd (upd v 3 (nI ((hl fm nn) + (nn * mk)))) 39 (nI at1)) 27 (nI 0)) 28 (nI (ix 0)))), bA g (b 2) 1400 jj, bA g (b 4) 32 FO, iA g (b 5) 64 w1, iA g (b 6) 8 S1, iA g (b 7) 8 fs, iA g (b 8) 64 rt, lA g (b 9) 25 A1, lA g (b 10) 25 T1, lA g (b 11) 5 U1, iA g (b 12) 25 tn, bA g (b 23) 48 sd, bA g (b 0) 600 tp, iA g (b 29) 40 D0, bA g (b 30) 560 e0, bA g (b 32) 16 ro, bA g (b 34) 32 P1, bA g (b 36) 16 M2, iA g (b 37) 8 X4, bA g (b 38) 2000 sg, bA g (b 40) 96 FRF, bA g (b 41) 16 R1, bA g (b 42) 16 le]) (fun _ => rfl) (by decide) [h, (b 2), (b 4), (b 5), (b 6), (b 7), (b 8), (b 9), (b 10), (b 11), (b 12), (b 23), (b 0), (b 29), (b 30), (b 32), (b 34), (b 36), (b 37), (b 38), (b 40), (b 41), (b 42)] rfl (fun _ => rfl) (fun _ => rfl) [bA g (b 4) 32 FO, iA g (b 5) 64 w1, iA g (b 6) 8 S1, iA g (b 7) 8 fs, iA g (b 8) 64 rt, lA g (b 9) 25 A1, lA g (b 10) 25 T1, lA g (b 11) 5 U1, iA g (b 12) 25 tn, bA g (b 23) 48 sd, bA g (b 0) 600 tp, iA g (b 29) 40 D0, bA g (b 30) 560 e0, bA g (b 32) 16 ro, bA g (b 34) 32 P1, bA g (b 36) 16 M2, iA g (b 37) 8 X4, bA g (b 38) 2000 sg, bA g (b 41) 16 R1, bA g (b 42) 16 le] rfl (fun _ => rfl) rfl [] rfl (Nat.le_of_ble_eq_true rfl) ⟨Nat.le_refl _, Nat.le_refl _⟩ dX11_verify_255 ?_
        intro F2 hF2
        try dsimp only at hF2
        refine j_w [oB h 11 (mO b (upd (upd (upd (upd v 3 (nI ((hl fm nn) + (nn * mk)))) 39 (nI at1)) 27 (nI 0)) 28 (nI (ix 0)))), bA g (b 2) 1400 F2, bA g (b 4) 32 FO, iA g (b 5) 64 w1, iA g (b 6) 8 S1, iA g (b 7) 8 fs, iA g (b 8) 64 rt, lA g (b 9) 25 A1, lA g (b 10) 25 T1, lA g (b 11) 5 U1, iA g (b 12) 25 tn, bA g (b 23) 48 sd, bA g (b 0) 600 tp, iA g (b 29) 40 D0, bA g (b 30) 560 e0, bA g (b 32) 16 ro, bA g (b 34) 32 P1, bA g (b 36) 16 M2, iA g (b 37) 8 X4, bA g (b 38) 2000 sg, bA g (b 40) 96 FRF, bA g (b 41) 16 R1, bA g (b 42) 16 le] rfl ?_
        refine j_st [] rfl ?_
        refine j_aload_n hX 0 dX11_verify_258 rfl ?_
        refine j_aload_n hX 0 dX11_verify_259 rfl ?_
        refine j_get hX in11 11 0 41 (v := .ref (b 41)) rfl rfl (by decide) (List.mem_of_getElem? (i := 13) rfl) rfl rfl dX11_verify_260 ?_
        refine j_iconst hX (0) dX11_verify_263 (by decide) ?_
        refine j_callV2 hX 2 (c_end l g h b (upd (upd (upd (upd v 3 (nI ((hl fm nn) + (nn * mk)))) 39 (nI at1)) 27 (nI 0)) 28 (nI (ix 0))) ((hl fm nn) + (nn * mk)) F2 FO w1 S1 fs rt A1 T1 U1 tn (b 41) 16 R1 fm nn 0 rfl hv15 hv16 (by omega) hfs hrt htn (by omega) (by omega) (by omega) (by omega)) gX11_verify_X11_end (by decide +kernel) rfl ⟨rfl, rfl⟩ ⟨Nat.le_of_ble_eq_true rfl, Nat.le_of_ble_eq_true rfl⟩ 11 0 rfl rfl [0, 1, 2, 3, 4, 5, 6, 7, 8, 9, 10, 21] [11, 12, 13, 14, 15, 16, 17, 18, 19, 20, 22] 23 rfl (by decide) (fun jj : (Nat → Int32) × (Nat → Int32) × (Nat → Int64) × (Nat → Int64) × (Nat → Int64) × Nat × (Nat → Int32) × (Nat → Int32) × (Nat → Int32) => [oB h 11 (mO b (upd (upd (upd (upd v 3 (nI jj.2.2.2.2.2.1)) 39 (nI at1)) 27 (nI 0)) 28 (nI (ix 0)))), bA g (b 2) 1400 jj.2.2.2.2.2.2.1, bA g (b 4) 32 jj.2.2.2.2.2.2.2.1, iA g (b 5) 64 jj.1, iA g (b 6) 8 jj.2.1, iA g (b 7) 8 fs, iA g (b 8) 64 rt, lA g (b 9) 25 jj.2.2.1, lA g (b 10) 25 jj.2.2.2.1, lA g (b 11) 5 jj.2.2.2.2.1, iA g (b 12) 25 tn, bA g (b 23) 48 sd, bA g (b 0) 600 tp, iA g (b 29) 40 D0, bA g (b 30) 560 e0, bA g (b 32) 16 ro, bA g (b 34) 32 P1, bA g (b 36) 16 M2, iA g (b 37) 8 X4, bA g (b 38) 2000 sg, bA g (b 40) 96 FRF, bA g (b 41) 16 jj.2.2.2.2.2.2.2.2, bA g (b 42) 16 le]) (fun _ => rfl) (by decide) [h, (b 2), (b 4), (b 5), (b 6), (b 7), (b 8), (b 9), (b 10), (b 11), (b 12), (b 23), (b 0), (b 29), (b 30), (b 32), (b 34), (b 36), (b 37), (b 38), (b 40), (b 41), (b 42)] rfl (fun _ => rfl) (fun _ => rfl) [bA g (b 23) 48 sd, bA g (b 0) 600 tp, iA g (b 29) 40 D0, bA g (b 30) 560 e0, bA g (b 32) 16 ro, bA g (b 34) 32 P1, bA g (b 36) 16 M2, iA g (b 37) 8 X4, bA g (b 38) 2000 sg, bA g (b 40) 96 FRF, bA g (b 42) 16 le] rfl (fun _ => rfl) rfl [] rfl (Nat.le_of_ble_eq_true rfl) ⟨Nat.le_refl _, Nat.le_refl _⟩ dX11_verify_264 ?_
        rintro ⟨w7, S7, A7, T7, U7, nl7, G7, FO7, R7⟩ hE
        try dsimp only at hE
        refine j_w [oB h 11 (mO b (upd (upd (upd (upd v 3 (nI nl7)) 39 (nI at1)) 27 (nI 0)) 28 (nI (ix 0)))), bA g (b 2) 1400 G7, bA g (b 4) 32 FO7, iA g (b 5) 64 w7, iA g (b 6) 8 S7, iA g (b 7) 8 fs, iA g (b 8) 64 rt, lA g (b 9) 25 A7, lA g (b 10) 25 T7, lA g (b 11) 5 U7, iA g (b 12) 25 tn, bA g (b 23) 48 sd, bA g (b 0) 600 tp, iA g (b 29) 40 D0, bA g (b 30) 560 e0, bA g (b 32) 16 ro, bA g (b 34) 32 P1, bA g (b 36) 16 M2, iA g (b 37) 8 X4, bA g (b 38) 2000 sg, bA g (b 40) 96 FRF, bA g (b 41) 16 R7, bA g (b 42) 16 le] rfl ?_
        refine j_st [] rfl ?_
        have hdl := hd_length (fm := fm) (n := nn) (by omega) sd 0 (ix 0) 4 (ix 1) 0 0
        rw [hF2, hF1, putL_app' (by rw [hdl, Nat.zero_add]), slice_put (by rw [List.length_append, hdl, slice_length]), hT1, slice_put (by rw [fewLT_length (by omega)]; exact hmc)] at hE
        have hE7 : R7 = putL R1 0 (FLEAD fm nn sd 0 (ix 0) (ix 1) fa mk (fun i => ix (2 + i)) sg nn) := hE.2
        have hR7 : isB R7 := by rw [hE7]; exact putL_B hR1 (TT_B _ _ _ _ _ _ _ _ _ _)
        have hR07 : slice R7 0 nn = ldL fm nn sd ht fa mk ix sg 0 := by rw [hE7, slice_put (by rw [FLEAD, TT_length (by omega)])]; rfl
        have jn_4 : ∀ (w1 : Nat → Int32) (S1 : Nat → Int32) (A1 : Nat → Int64) (T1 : Nat → Int64) (U1 : Nat → Int64) (nl : Nat) (G : Nat → Int32) (FO : Nat → Int32) (at9 : Nat) (ly9 : Nat) (tr9 : Nat) (D9 : Nat → Int32) (E9 : Nat → Int32) (P9 : Nat → Int32) (RX : Nat → Int32), (nl ≤ 1400) → (isB E9) → (isB P9) → (isB RX) → (slice RX 0 nn = ldL fm nn sd ht fa mk ix sg lys) → J p l e ({ frames := 7, cells := 0, slots := 0, locals := 169 } : Room) s m ([.ref h] : List Value).toArray below meth c g A 5 Q 0 0 [oB h 11 (mO b (upd (upd (upd (upd v 3 (nI nl)) 39 (nI at9)) 27 (nI ly9)) 28 (nI tr9))), bA g (b 2) 1400 G, bA g (b 4) 32 FO, iA g (b 5) 64 w1, iA g (b 6) 8 S1, iA g (b 7) 8 fs, iA g (b 8) 64 rt, lA g (b 9) 25 A1, lA g (b 10) 25 T1, lA g (b 11) 5 U1, iA g (b 12) 25 tn, bA g (b 23) 48 sd, bA g (b 0) 600 tp, iA g (b 29) 40 D9, bA g (b 30) 560 E9, bA g (b 32) 16 ro, bA g (b 34) 32 P9, bA g (b 36) 16 M2, iA g (b 37) 8 X4, bA g (b 38) 2000 sg, bA g (b 40) 96 FRF, bA g (b 41) 16 RX, bA g (b 42) 16 le] [(0, .ref h)] 300 [] := by
          intro w1 S1 A1 T1 U1 nl G FO at9 ly9 tr9 D9 E9 P9 RX hnl9 hE9 hP9 hRX hRl
          have hRl2 := hRl
          rw [hixd] at hRl2
          refine j_iconst hX (1) dX11_verify_300 (by decide) ?_
          refine j_st [.int (nI 1)] rfl ?_
          refine j_istore_n hX 2 [(2, .int (nI 1)), (0, .ref h)] dX11_verify_301 rfl (by decide) rfl ?_
          refine j_pc 302 rfl ?_
          refine j_iconst hX (0) dX11_verify_302 (by decide) ?_
          refine j_st [.int (nI 0)] rfl ?_
          refine j_istore_n hX 3 [(3, .int (nI 0)), (2, .int (nI 1)), (0, .ref h)] dX11_verify_303 rfl (by decide) rfl ?_
          have lp_5 : ∀ (n_6 : Nat) (k : Nat) (rt1 : Nat) (LE1 : Nat → Int32), (nn - k < n_6) → (k ≤ nn) → (rt1 ≤ 1) → (rt1 = 1 ↔ ∀ j, j < k → RX j = ro j) → (isB LE1) → (LE1 = putL le 0 (slice RX 0 k)) → J p l e ({ frames := 7, cells := 0, slots := 0, locals := 169 } : Room) s m ([.ref h] : List Value).toArray below meth c g A 5 Q 0 0 [oB h 11 (mO b (upd (upd (upd (upd v 3 (nI nl)) 39 (nI at9)) 27 (nI ly9)) 28 (nI tr9))), bA g (b 2) 1400 G, bA g (b 4) 32 FO, iA g (b 5) 64 w1, iA g (b 6) 8 S1, iA g (b 7) 8 fs, iA g (b 8) 64 rt, lA g (b 9) 25 A1, lA g (b 10) 25 T1, lA g (b 11) 5 U1, iA g (b 12) 25 tn, bA g (b 23) 48 sd, bA g (b 0) 600 tp, iA g (b 29) 40 D9, bA g (b 30) 560 E9, bA g (b 32) 16 ro, bA g (b 34) 32 P9, bA g (b 36) 16 M2, iA g (b 37) 8 X4, bA g (b 38) 2000 sg, bA g (b 40) 96 FRF, bA g (b 41) 16 RX, bA g (b 42) 16 LE1] [(0, .ref h), (2, .int (nI rt1)), (3, .int (nI k))] 304 [] := by
            intro n_6
            induction n_6 with
            | zero => intro k rt1 LE1 hm; exact absurd hm (Nat.not_lt_zero _)
            | succ n_6 ih_7 =>
              intro k rt1 LE1 hm hk hr1 hr2 hLE hF
              refine j_iload_n hX 2 dX11_verify_304 rfl ?_
              refine j_aload_n hX 0 dX11_verify_305 rfl ?_
              refine j_gete hX (nI nn) in11 11 0 16 rfl rfl (by decide) (List.mem_of_getElem? (i := 12) rfl) rfl rfl hv16 dX11_verify_306 ?_
              refine j_icmp_geN hX k nn 355 dX11_verify_309 (by decide) (by omega) (by omega) (fun b_309 => ?_) (fun b_309 => ?_)
              · skip
                refine j_aload_n hX 0 dX11_verify_355 rfl ?_
                refine j_iconst hX (1) dX11_verify_356 (by decide) ?_
                refine j_pc 357 rfl ?_
                refine j_st [.int (nI 1), .ref h] rfl ?_
                refine j_put hX (v := .int (nI 1)) (ty := .boolean) in11 tyX11 tyX11_ok nmX11 11 0 26 rfl rfl (by decide) (List.mem_of_getElem? (i := 18) rfl) rfl rfl rfl rfl rfl (Nat.le_of_ble_eq_true rfl) [oB h 11 (mO b (upd (upd (upd (upd (upd v 3 (nI nl)) 39 (nI at9)) 27 (nI ly9)) 28 (nI tr9)) 26 (nI 1))), bA g (b 2) 1400 G, bA g (b 4) 32 FO, iA g (b 5) 64 w1, iA g (b 6) 8 S1, iA g (b 7) 8 fs, iA g (b 8) 64 rt, lA g (b 9) 25 A1, lA g (b 10) 25 T1, lA g (b 11) 5 U1, iA g (b 12) 25 tn, bA g (b 23) 48 sd, bA g (b 0) 600 tp, iA g (b 29) 40 D9, bA g (b 30) 560 E9, bA g (b 32) 16 ro, bA g (b 34) 32 P9, bA g (b 36) 16 M2, iA g (b 37) 8 X4, bA g (b 38) 2000 sg, bA g (b 40) 96 FRF, bA g (b 41) 16 RX, bA g (b 42) 16 LE1] rfl dX11_verify_357 ?_
                refine j_iload_n hX 1 dX11_verify_360 rfl ?_
                refine j_if_eqN hX rt1 368 dX11_verify_361 (by decide) (by omega) (fun b_361 => ?_) (fun b_361 => ?_)
                · skip
                  refine j_iconst hX (0) dX11_verify_368 (by decide) ?_
                  refine j_topeq _ (if ldL fm nn sd ht fa mk (IXS fm nn sd ht lys fa mk (slice sg 0 nn) (slice ro 0 nn) (slice tp 0 ntp)) sg lys = slice ro 0 nn then 1 else 0) (by have h9 : rt1 = 1 ↔ ldL fm nn sd ht fa mk (IXS fm nn sd ht lys fa mk (slice sg 0 nn) (slice ro 0 nn) (slice tp 0 ntp)) sg lys = slice ro 0 nn := (by rw [← hRl2, slice_eq_iff, show nn = k by omega]; exact hr2); first | exact (if_pos (h9.mp (by omega))).symm | exact (if_neg (fun q9 => absurd (h9.mpr q9) (by omega))).symm) ?_
                  exact hret (w1, S1, A1, T1, U1, nl, G, FO, ly9, tr9, at9, D9, E9, P9, M2, X4, FRF, RX, LE1) (by dsimp only; exact ⟨hnl9, ⟨hE9, hP9, hM2, hFR, hRX, hLE⟩, by rw [hF, show k = nn by omega, slice_put (by rw [slice_length]), hRl2], hN.2.2⟩) 369 _ .ireturn dX11_verify_369 rfl
                · skip
                  refine j_iconst hX (1) dX11_verify_364 (by decide) ?_
                  refine j_goto hX 369 dX11_verify_365 (by decide) ?_
                  refine j_topeq _ (if ldL fm nn sd ht fa mk (IXS fm nn sd ht lys fa mk (slice sg 0 nn) (slice ro 0 nn) (slice tp 0 ntp)) sg lys = slice ro 0 nn then 1 else 0) (by have h9 : rt1 = 1 ↔ ldL fm nn sd ht fa mk (IXS fm nn sd ht lys fa mk (slice sg 0 nn) (slice ro 0 nn) (slice tp 0 ntp)) sg lys = slice ro 0 nn := (by rw [← hRl2, slice_eq_iff, show nn = k by omega]; exact hr2); first | exact (if_pos (h9.mp (by omega))).symm | exact (if_neg (fun q9 => absurd (h9.mpr q9) (by omega))).symm) ?_
                  exact hret (w1, S1, A1, T1, U1, nl, G, FO, ly9, tr9, at9, D9, E9, P9, M2, X4, FRF, RX, LE1) (by dsimp only; exact ⟨hnl9, ⟨hE9, hP9, hM2, hFR, hRX, hLE⟩, by rw [hF, show k = nn by omega, slice_put (by rw [slice_length]), hRl2], hN.2.2⟩) 369 _ .ireturn dX11_verify_369 rfl
              · skip
                refine j_pc 312 rfl ?_
                refine j_aload_n hX 0 dX11_verify_312 rfl ?_
                refine j_get hX in11 11 0 42 (v := .ref (b 42)) rfl rfl (by decide) (List.mem_of_getElem? (i := 16) rfl) rfl rfl dX11_verify_313 ?_
                refine j_iload_n hX 2 dX11_verify_316 rfl ?_
                refine j_aload_n hX 0 dX11_verify_317 rfl ?_
                refine j_get hX in11 11 0 41 (v := .ref (b 41)) rfl rfl (by decide) (List.mem_of_getElem? (i := 13) rfl) rfl rfl dX11_verify_318 ?_
                refine j_iload_n hX 2 dX11_verify_321 rfl ?_
                refine j_baldN hX 21 k rfl (by omega) (by omega) dX11_verify_322 ?_
                refine j_bastN hX 22 k rfl (by omega) (by omega) [oB h 11 (mO b (upd (upd (upd (upd v 3 (nI nl)) 39 (nI at9)) 27 (nI ly9)) 28 (nI tr9))), bA g (b 2) 1400 G, bA g (b 4) 32 FO, iA g (b 5) 64 w1, iA g (b 6) 8 S1, iA g (b 7) 8 fs, iA g (b 8) 64 rt, lA g (b 9) 25 A1, lA g (b 10) 25 T1, lA g (b 11) 5 U1, iA g (b 12) 25 tn, bA g (b 23) 48 sd, bA g (b 0) 600 tp, iA g (b 29) 40 D9, bA g (b 30) 560 E9, bA g (b 32) 16 ro, bA g (b 34) 32 P9, bA g (b 36) 16 M2, iA g (b 37) 8 X4, bA g (b 38) 2000 sg, bA g (b 40) 96 FRF, bA g (b 41) 16 RX, bA g (b 42) 16 (upd LE1 k (i8 (RX k)))] rfl dX11_verify_323 ?_
                obtain ⟨LE3, eLE3⟩ : ∃ z, z = upd LE1 k (i8 (RX k)) := ⟨_, rfl⟩
                refine j_w [oB h 11 (mO b (upd (upd (upd (upd v 3 (nI nl)) 39 (nI at9)) 27 (nI ly9)) 28 (nI tr9))), bA g (b 2) 1400 G, bA g (b 4) 32 FO, iA g (b 5) 64 w1, iA g (b 6) 8 S1, iA g (b 7) 8 fs, iA g (b 8) 64 rt, lA g (b 9) 25 A1, lA g (b 10) 25 T1, lA g (b 11) 5 U1, iA g (b 12) 25 tn, bA g (b 23) 48 sd, bA g (b 0) 600 tp, iA g (b 29) 40 D9, bA g (b 30) 560 E9, bA g (b 32) 16 ro, bA g (b 34) 32 P9, bA g (b 36) 16 M2, iA g (b 37) 8 X4, bA g (b 38) 2000 sg, bA g (b 40) 96 FRF, bA g (b 41) 16 RX, bA g (b 42) 16 LE3] (by rw [eLE3]) ?_
                have jn_8 : ∀ (r2 : Nat), (r2 ≤ 1) → (r2 = 1 ↔ ∀ j, j < k + 1 → RX j = ro j) → J p l e ({ frames := 7, cells := 0, slots := 0, locals := 169 } : Room) s m ([.ref h] : List Value).toArray below meth c g A 5 Q 0 0 [oB h 11 (mO b (upd (upd (upd (upd v 3 (nI nl)) 39 (nI at9)) 27 (nI ly9)) 28 (nI tr9))), bA g (b 2) 1400 G, bA g (b 4) 32 FO, iA g (b 5) 64 w1, iA g (b 6) 8 S1, iA g (b 7) 8 fs, iA g (b 8) 64 rt, lA g (b 9) 25 A1, lA g (b 10) 25 T1, lA g (b 11) 5 U1, iA g (b 12) 25 tn, bA g (b 23) 48 sd, bA g (b 0) 600 tp, iA g (b 29) 40 D9, bA g (b 30) 560 E9, bA g (b 32) 16 ro, bA g (b 34) 32 P9, bA g (b 36) 16 M2, iA g (b 37) 8 X4, bA g (b 38) 2000 sg, bA g (b 40) 96 FRF, bA g (b 41) 16 RX, bA g (b 42) 16 LE3] [(0, .ref h), (2, .int (nI rt1)), (3, .int (nI k))] 348 [.int (nI r2)] := by
                  intro r2 hr1 hr2
                  refine j_pc 348 rfl ?_
                  refine j_istore_n hX 2 [(2, .int (nI r2)), (0, .ref h), (3, .int (nI k))] dX11_verify_348 rfl (by decide) rfl ?_
                  refine j_iincN hX k (k + 1) [(3, .int (nI (k + 1))), (2, .int (nI r2)), (0, .ref h)] 2 dX11_verify_349 rfl (nI_1 _) (by decide) rfl ?_
                  refine j_goto hX 304 dX11_verify_352 (by decide) ?_
                  refine j_perm [(0, .ref h), (2, .int (nI r2)), (3, .int (nI (k + 1)))] [2, 1, 0] rfl ?_
                  exact ih_7 (k + 1) r2 LE3 (by omega) (by omega) (by omega) hr2 (by rw [eLE3]; exact isB_upd hLE) (by have h9 := slice_put_step hRX hF; rw [Nat.zero_add] at h9; rw [eLE3]; exact h9)
                refine j_iload_n hX 1 dX11_verify_324 rfl ?_
                refine j_if_eqN hX rt1 347 dX11_verify_325 (by decide) (by omega) (fun b_325 => ?_) (fun b_325 => ?_)
                · skip
                  refine j_iconst hX (0) dX11_verify_347 (by decide) ?_
                  exact jn_8 0 (by omega) (by first | exact ⟨fun h9 => absurd h9 (by decide), fun h9 => absurd (hr2.mpr (fun j hj => h9 j (by omega))) (by omega)⟩ | exact ⟨fun h9 => absurd h9 (by decide), fun h9 => absurd (h9 k (by omega)) b_340⟩ | exact ⟨fun _ j hj => by rcases Nat.lt_or_ge j k with q9 | q9; exact hr2.mp (by omega) j q9; rw [show j = k by omega]; exact b_340, fun _ => rfl⟩)
                · skip
                  refine j_aload_n hX 0 dX11_verify_328 rfl ?_
                  refine j_get hX in11 11 0 41 (v := .ref (b 41)) rfl rfl (by decide) (List.mem_of_getElem? (i := 13) rfl) rfl rfl dX11_verify_329 ?_
                  refine j_pc 332 rfl ?_
                  refine j_iload_n hX 2 dX11_verify_332 rfl ?_
                  refine j_baldN hX 21 k rfl (by omega) (by omega) dX11_verify_333 ?_
                  refine j_aload_n hX 0 dX11_verify_334 rfl ?_
                  refine j_get hX in11 11 0 32 (v := .ref (b 32)) rfl rfl (by decide) (List.mem_of_getElem? (i := 17) rfl) rfl rfl dX11_verify_335 ?_
                  refine j_iload_n hX 2 dX11_verify_338 rfl ?_
                  refine j_baldN hX 15 k rfl (by omega) (by omega) dX11_verify_339 ?_
                  refine j_icmp_ne hX 347 dX11_verify_340 (by decide) (fun b_340 => ?_) (fun b_340 => ?_)
                  · skip
                    refine j_iconst hX (0) dX11_verify_347 (by decide) ?_
                    exact jn_8 0 (by omega) (by first | exact ⟨fun h9 => absurd h9 (by decide), fun h9 => absurd (hr2.mpr (fun j hj => h9 j (by omega))) (by omega)⟩ | exact ⟨fun h9 => absurd h9 (by decide), fun h9 => absurd (h9 k (by omega)) b_340⟩ | exact ⟨fun _ j hj => by rcases Nat.lt_or_ge j k with q9 | q9; exact hr2.mp (by omega) j q9; rw [show j = k by omega]; exact b_340, fun _ => rfl⟩)
                  · skip
                    refine j_pc 343 rfl ?_
                    refine j_iconst hX (1) dX11_verify_343 (by decide) ?_
                    refine j_goto hX 348 dX11_verify_344 (by decide) ?_
                    exact jn_8 1 (by omega) (by first | exact ⟨fun h9 => absurd h9 (by decide), fun h9 => absurd (hr2.mpr (fun j hj => h9 j (by omega))) (by omega)⟩ | exact ⟨fun h9 => absurd h9 (by decide), fun h9 => absurd (h9 k (by omega)) b_340⟩ | exact ⟨fun _ j hj => by rcases Nat.lt_or_ge j k with q9 | q9; exact hr2.mp (by omega) j q9; rw [show j = k by omega]; exact b_340, fun _ => rfl⟩)
          refine j_perm [(0, .ref h), (2, .int (nI 1)), (3, .int (nI 0))] [2, 1, 0] rfl ?_
          exact lp_5 _ 0 1 le (Nat.lt_succ_self _) (by omega) (by omega) ⟨fun _ j hj => absurd hj (Nat.not_lt_zero j), fun _ => rfl⟩ hLeB (by rw [slice_zero, putL_nil])
        refine j_aload_n hX 0 dX11_verify_267 rfl ?_
        refine j_iload_n hX 1 dX11_verify_268 rfl ?_
        refine j_callV2 hX 1 (c_oneLeads l g h b (upd (upd (upd (upd v 3 (nI nl7)) 39 (nI at1)) 27 (nI 0)) 28 (nI (ix 0))) nl7 G7 FO7 w7 S7 fs rt A7 T7 U7 tn sd D0 e0 P1 sg R7 fm nn ht 0 (ix 0) at1 (ix 1) hfs hrt htn rfl hE.1 hB hEB hP1 hSgB hR7 hv15 hv16 hv17 hv21 rfl rfl rfl (by omega) (by omega) (by omega) (by omega) (by omega) (by have := Nat.le_mul_of_pos_left ((ln nn + ht) * nn) (show 0 < lys by omega); omega)) gX11_verify_X11_oneLeads (by decide +kernel) rfl ⟨rfl, rfl⟩ ⟨Nat.le_of_ble_eq_true rfl, Nat.le_of_ble_eq_true rfl⟩ 11 0 rfl rfl [0, 1, 2, 3, 4, 5, 6, 7, 8, 9, 10, 11, 13, 14, 16, 19, 21] [12, 15, 17, 18, 20, 22] 23 rfl (by decide) (fun jj : (Nat → Int32) × (Nat → Int32) × (Nat → Int64) × (Nat → Int64) × (Nat → Int64) × Nat × (Nat → Int32) × (Nat → Int32) × (Nat → Int32) × (Nat → Int32) × (Nat → Int32) × (Nat → Int32) => [oB h 11 (mO b (upd (upd (upd (upd v 3 (nI jj.2.2.2.2.2.1)) 39 (nI (at1 + (ln nn + ht) * nn))) 27 (nI 0)) 28 (nI (ix 0)))), bA g (b 2) 1400 jj.2.2.2.2.2.2.1, bA g (b 4) 32 jj.2.2.2.2.2.2.2.1, iA g (b 5) 64 jj.1, iA g (b 6) 8 jj.2.1, iA g (b 7) 8 fs, iA g (b 8) 64 rt, lA g (b 9) 25 jj.2.2.1, lA g (b 10) 25 jj.2.2.2.1, lA g (b 11) 5 jj.2.2.2.2.1, iA g (b 12) 25 tn, bA g (b 23) 48 sd, bA g (b 0) 600 tp, iA g (b 29) 40 jj.2.2.2.2.2.2.2.2.1, bA g (b 30) 560 jj.2.2.2.2.2.2.2.2.2.1, bA g (b 32) 16 ro, bA g (b 34) 32 jj.2.2.2.2.2.2.2.2.2.2.1, bA g (b 36) 16 M2, iA g (b 37) 8 X4, bA g (b 38) 2000 sg, bA g (b 40) 96 FRF, bA g (b 41) 16 jj.2.2.2.2.2.2.2.2.2.2.2, bA g (b 42) 16 le]) (fun _ => rfl) (by decide) [h, (b 2), (b 4), (b 5), (b 6), (b 7), (b 8), (b 9), (b 10), (b 11), (b 12), (b 23), (b 0), (b 29), (b 30), (b 32), (b 34), (b 36), (b 37), (b 38), (b 40), (b 41), (b 42)] rfl (fun _ => rfl) (fun _ => rfl) [bA g (b 0) 600 tp, bA g (b 32) 16 ro, bA g (b 36) 16 M2, iA g (b 37) 8 X4, bA g (b 40) 96 FRF, bA g (b 42) 16 le] rfl (fun _ => rfl) rfl [] rfl (Nat.le_of_ble_eq_true rfl) ⟨Nat.le_refl _, Nat.le_refl _⟩ dX11_verify_269 ?_
        rintro ⟨w8, S8, A8, T8, U8, nl8, G8, FO8, D8, E8, P8, R8⟩ hY
        try dsimp only at hY
        refine j_w [oB h 11 (mO b (upd (upd (upd (upd v 3 (nI nl8)) 39 (nI (at1 + (ln nn + ht) * nn))) 27 (nI 0)) 28 (nI (ix 0)))), bA g (b 2) 1400 G8, bA g (b 4) 32 FO8, iA g (b 5) 64 w8, iA g (b 6) 8 S8, iA g (b 7) 8 fs, iA g (b 8) 64 rt, lA g (b 9) 25 A8, lA g (b 10) 25 T8, lA g (b 11) 5 U8, iA g (b 12) 25 tn, bA g (b 23) 48 sd, bA g (b 0) 600 tp, iA g (b 29) 40 D8, bA g (b 30) 560 E8, bA g (b 32) 16 ro, bA g (b 34) 32 P8, bA g (b 36) 16 M2, iA g (b 37) 8 X4, bA g (b 38) 2000 sg, bA g (b 40) 96 FRF, bA g (b 41) 16 R8, bA g (b 42) 16 le] rfl ?_
        refine j_st [] rfl ?_
        have hR18 : slice R8 0 nn = ldL fm nn sd ht fa mk ix sg 1 := by rw [hY.2.2, slice_put (by rw [ldP_length (by omega) _ _ _ _ _ (TT_length (by omega) _ _ _ _ _ _ _ _)]), ldE_congr (lF_of hR07) _ (fun j _ => rfl), show at1 = nn + mk * ((fa + 1) * nn) + 0 * ((ln nn + ht) * nn) by omega]; rfl
        by_cases hl2 : lys = 2
        · skip
          refine j_aload_n hX 0 dX11_verify_272 rfl ?_
          refine j_gete hX (nI lys) in11 11 0 18 rfl rfl (by decide) (List.mem_of_getElem? (i := 15) rfl) rfl rfl hv18 dX11_verify_273 ?_
          refine j_iconst hX (2) dX11_verify_276 (by decide) ?_
          refine j_pc 277 rfl ?_
          refine j_icmp_neN hX lys 2 300 dX11_verify_277 (by decide) (by omega) (by omega) (fun b_277 => absurd b_277 (by omega)) (fun b_277 => ?_)
          have hu2 := (hixL 1 (by omega)).2
          refine j_aload_n hX 0 dX11_verify_280 rfl ?_
          refine j_get hX in11 11 0 28 (v := .int (nI (ix 0))) rfl rfl (by decide) (List.mem_of_getElem? (i := 8) rfl) rfl rfl dX11_verify_281 ?_
          refine j_istore_n hX 2 [(2, .int (nI (ix 0))), (0, .ref h), (1, .int (nI (ix 1)))] dX11_verify_284 rfl (by decide) rfl ?_
          refine j_aload_n hX 1 dX11_verify_285 rfl ?_
          refine j_iconst hX (1) dX11_verify_286 (by decide) ?_
          refine j_st [.int (nI 1), .ref h] rfl ?_
          refine j_put hX (v := .int (nI 1)) (ty := .int) in11 tyX11 tyX11_ok nmX11 11 0 27 rfl rfl (by decide) (List.mem_of_getElem? (i := 6) rfl) rfl rfl rfl rfl rfl (Nat.le_of_ble_eq_true rfl) [oB h 11 (mO b (upd (upd (upd (upd v 3 (nI nl8)) 39 (nI (at1 + (ln nn + ht) * nn))) 27 (nI 1)) 28 (nI (ix 0)))), bA g (b 2) 1400 G8, bA g (b 4) 32 FO8, iA g (b 5) 64 w8, iA g (b 6) 8 S8, iA g (b 7) 8 fs, iA g (b 8) 64 rt, lA g (b 9) 25 A8, lA g (b 10) 25 T8, lA g (b 11) 5 U8, iA g (b 12) 25 tn, bA g (b 23) 48 sd, bA g (b 0) 600 tp, iA g (b 29) 40 D8, bA g (b 30) 560 E8, bA g (b 32) 16 ro, bA g (b 34) 32 P8, bA g (b 36) 16 M2, iA g (b 37) 8 X4, bA g (b 38) 2000 sg, bA g (b 40) 96 FRF, bA g (b 41) 16 R8, bA g (b 42) 16 le] rfl dX11_verify_287 ?_
          refine j_aload_n hX 1 dX11_verify_290 rfl ?_
          refine j_pc 291 rfl ?_
          refine j_iconst hX (0) dX11_verify_291 (by decide) ?_
          refine j_st [.int (nI 0), .ref h] rfl ?_
          refine j_put hX (v := .int (nI 0)) (ty := .int) in11 tyX11 tyX11_ok nmX11 11 0 28 rfl rfl (by decide) (List.mem_of_getElem? (i := 8) rfl) rfl rfl rfl rfl rfl (Nat.le_of_ble_eq_true rfl) [oB h 11 (mO b (upd (upd (upd (upd v 3 (nI nl8)) 39 (nI (at1 + (ln nn + ht) * nn))) 27 (nI 1)) 28 (nI 0))), bA g (b 2) 1400 G8, bA g (b 4) 32 FO8, iA g (b 5) 64 w8, iA g (b 6) 8 S8, iA g (b 7) 8 fs, iA g (b 8) 64 rt, lA g (b 9) 25 A8, lA g (b 10) 25 T8, lA g (b 11) 5 U8, iA g (b 12) 25 tn, bA g (b 23) 48 sd, bA g (b 0) 600 tp, iA g (b 29) 40 D8, bA g (b 30) 560 E8, bA g (b 32) 16 ro, bA g (b 34) 32 P8, bA g (b 36) 16 M2, iA g (b 37) 8 X4, bA g (b 38) 2000 sg, bA g (b 40) 96 FRF, bA g (b 41) 16 R8, bA g (b 42) 16 le] rfl dX11_verify_292 ?_
          refine j_aload_n hX 1 dX11_verify_295 rfl ?_
          refine j_iload_n hX 0 dX11_verify_296 rfl ?_
          refine j_callV2 hX 1 (c_oneLeads l g h b (upd (upd (upd (upd v 3 (nI nl8)) 39 (nI (at1 + (ln nn + ht) * nn))) 27 (nI 1)) 28 (nI 0)) nl8 G8 FO8 w8 S8 fs rt A8 T8 U8 tn sd D8 E8 P8 sg R8 fm nn ht 1 0 (at1 + (ln nn + ht) * nn) (ix 0) hfs hrt htn rfl hY.1 hB hY.2.1.1 hY.2.1.2.1 hSgB hY.2.1.2.2 hv15 hv16 hv17 hv21 rfl rfl rfl (by omega) (by omega) (by omega) (by omega) (by omega) (by rw [hl2] at hcap; omega)) gX11_verify_X11_oneLeads (by decide +kernel) rfl ⟨rfl, rfl⟩ ⟨Nat.le_of_ble_eq_true rfl, Nat.le_of_ble_eq_true rfl⟩ 11 0 rfl rfl [0, 1, 2, 3, 4, 5, 6, 7, 8, 9, 10, 11, 13, 14, 16, 19, 21] [12, 15, 17, 18, 20, 22] 23 rfl (by decide) (fun jj : (Nat → Int32) × (Nat → Int32) × (Nat → Int64) × (Nat → Int64) × (Nat → Int64) × Nat × (Nat → Int32) × (Nat → Int32) × (Nat → Int32) × (Nat → Int32) × (Nat → Int32) × (Nat → Int32) => [oB h 11 (mO b (upd (upd (upd (upd v 3 (nI jj.2.2.2.2.2.1)) 39 (nI ((at1 + (ln nn + ht) * nn) + (ln nn + ht) * nn))) 27 (nI 1)) 28 (nI 0))), bA g (b 2) 1400 jj.2.2.2.2.2.2.1, bA g (b 4) 32 jj.2.2.2.2.2.2.2.1, iA g (b 5) 64 jj.1, iA g (b 6) 8 jj.2.1, iA g (b 7) 8 fs, iA g (b 8) 64 rt, lA g (b 9) 25 jj.2.2.1, lA g (b 10) 25 jj.2.2.2.1, lA g (b 11) 5 jj.2.2.2.2.1, iA g (b 12) 25 tn, bA g (b 23) 48 sd, bA g (b 0) 600 tp, iA g (b 29) 40 jj.2.2.2.2.2.2.2.2.1, bA g (b 30) 560 jj.2.2.2.2.2.2.2.2.2.1, bA g (b 32) 16 ro, bA g (b 34) 32 jj.2.2.2.2.2.2.2.2.2.2.1, bA g (b 36) 16 M2, iA g (b 37) 8 X4, bA g (b 38) 2000 sg, bA g (b 40) 96 FRF, bA g (b 41) 16 jj.2.2.2.2.2.2.2.2.2.2.2, bA g (b 42) 16 le]) (fun _ => rfl) (by decide) [h, (b 2), (b 4), (b 5), (b 6), (b 7), (b 8), (b 9), (b 10), (b 11), (b 12), (b 23), (b 0), (b 29), (b 30), (b 32), (b 34), (b 36), (b 37), (b 38), (b 40), (b 41), (b 42)] rfl (fun _ => rfl) (fun _ => rfl) [bA g (b 0) 600 tp, bA g (b 32) 16 ro, bA g (b 36) 16 M2, iA g (b 37) 8 X4, bA g (b 40) 96 FRF, bA g (b 42) 16 le] rfl (fun _ => rfl) rfl [] rfl (Nat.le_of_ble_eq_true rfl) ⟨Nat.le_refl _, Nat.le_refl _⟩ dX11_verify_297 ?_
          rintro ⟨w9, S9, A9, T9, U9, nl9, G9, FO9, D9, E9, P9, R9⟩ hZ
          try dsimp only at hZ
          refine j_w [oB h 11 (mO b (upd (upd (upd (upd v 3 (nI nl9)) 39 (nI ((at1 + (ln nn + ht) * nn) + (ln nn + ht) * nn))) 27 (nI 1)) 28 (nI 0))), bA g (b 2) 1400 G9, bA g (b 4) 32 FO9, iA g (b 5) 64 w9, iA g (b 6) 8 S9, iA g (b 7) 8 fs, iA g (b 8) 64 rt, lA g (b 9) 25 A9, lA g (b 10) 25 T9, lA g (b 11) 5 U9, iA g (b 12) 25 tn, bA g (b 23) 48 sd, bA g (b 0) 600 tp, iA g (b 29) 40 D9, bA g (b 30) 560 E9, bA g (b 32) 16 ro, bA g (b 34) 32 P9, bA g (b 36) 16 M2, iA g (b 37) 8 X4, bA g (b 38) 2000 sg, bA g (b 40) 96 FRF, bA g (b 41) 16 R9, bA g (b 42) 16 le] rfl ?_
          refine j_st [] rfl ?_
          have hR29 : slice R9 0 nn = ldL fm nn sd ht fa mk ix sg 2 := by rw [hZ.2.2, slice_put (by rw [ldP_length (by omega) _ _ _ _ _ (TT_length (by omega) _ _ _ _ _ _ _ _)]), ldE_congr (lF_of hR18) _ (fun j _ => rfl), show at1 + (ln nn + ht) * nn = nn + mk * ((fa + 1) * nn) + 1 * ((ln nn + ht) * nn) by omega]; rfl
          refine j_perm [(0, .ref h)] [1] rfl ?_
          exact jn_4 w9 S9 A9 T9 U9 nl9 G9 FO9 ((at1 + (ln nn + ht) * nn) + (ln nn + ht) * nn) 1 0 D9 E9 P9 R9 hZ.1 hZ.2.1.1 hZ.2.1.2.1 hZ.2.1.2.2 (by rw [hl2]; exact hR29)
        · skip
          refine j_aload_n hX 0 dX11_verify_272 rfl ?_
          refine j_gete hX (nI lys) in11 11 0 18 rfl rfl (by decide) (List.mem_of_getElem? (i := 15) rfl) rfl rfl hv18 dX11_verify_273 ?_
          refine j_iconst hX (2) dX11_verify_276 (by decide) ?_
          refine j_pc 277 rfl ?_
          refine j_icmp_neN hX lys 2 300 dX11_verify_277 (by decide) (by omega) (by omega) (fun b_277 => ?_) (fun b_277 => absurd b_277 (by omega))
          refine j_perm [(0, .ref h)] [0] rfl ?_
          exact jn_4 w8 S8 A8 T8 U8 nl8 G8 FO8 (at1 + (ln nn + ht) * nn) 0 (ix 0) D8 E8 P8 R8 hY.1 hY.2.1.1 hY.2.1.2.1 hY.2.1.2.2 (by rw [show lys = 1 by omega]; exact hR18)
      · skip
        have him : i < mk := by omega
        have hi6 : i * 2 ^ fa ≤ 96 := Nat.mul_le_mul (show i ≤ 6 by omega) hp16
        have hc16 := hix (2 + i)
        have hbd := few_bd (fa := fa) (n := nn) him
        have hin := mul_step (n := nn) him
        have hic := Nat.mul_comm nn i
        have hlm := Nat.zero_le (lys * ((ln nn + ht) * nn))
        refine j_iload_n hX 2 dX11_verify_77 rfl ?_
        refine j_aload_n hX 0 dX11_verify_78 rfl ?_
        refine j_gete hX (nI fa) in11 11 0 19 rfl rfl (by decide) (List.mem_of_getElem? (i := 10) rfl) rfl rfl hv19 dX11_verify_79 ?_
        refine j_ishlN hX i fa (by omega) (by omega) dX11_verify_82 ?_
        refine j_aload_n hX 0 dX11_verify_83 rfl ?_
        refine j_get hX in11 11 0 37 (v := .ref (b 37)) rfl rfl (by decide) (List.mem_of_getElem? (i := 7) rfl) rfl rfl dX11_verify_84 ?_
        refine j_iconst hX (2) dX11_verify_87 (by decide) ?_
        refine j_pc 88 rfl ?_
        refine j_iload_n hX 2 dX11_verify_88 rfl ?_
        refine j_iaddN hX 2 i dX11_verify_89 ?_
        refine j_ialdN hX 18 (2 + i) rfl (by omega) (by omega) dX11_verify_90 ?_
        refine j_topeq _ (nI (ix (2 + i))) (hxv _ (by omega)) ?_
        refine j_iaddN hX (i * 2 ^ fa) (ix (2 + i)) dX11_verify_91 ?_
        refine j_istore_n hX 3 [(3, .int (nI ((i * 2 ^ fa) + (ix (2 + i))))), (0, .ref h), (1, .int (nI (ix 1))), (2, .int (nI i))] dX11_verify_92 rfl (by decide) rfl ?_
        refine j_aload_n hX 1 dX11_verify_93 rfl ?_
        refine j_aload_n hX 1 dX11_verify_94 rfl ?_
        refine j_get hX in11 11 0 34 (v := .ref (b 34)) rfl rfl (by decide) (List.mem_of_getElem? (i := 11) rfl) rfl rfl dX11_verify_95 ?_
        refine j_pc 98 rfl ?_
        refine j_iconst hX (0) dX11_verify_98 (by decide) ?_
        refine j_callV2 hX 2 (c_mread l g h b (upd (upd (upd (upd v 3 (nI nl)) 39 (nI at1)) 27 (nI 0)) 28 (nI (ix 0))) nn at1 (b 34) 32 P1 sg 0 hv16 rfl (by omega) (by omega) (by omega) (by omega) hSgB) gX11_verify_X11_read (by decide +kernel) rfl ⟨rfl, rfl⟩ ⟨Nat.le_of_ble_eq_true rfl, Nat.le_of_ble_eq_true rfl⟩ 11 0 rfl rfl [0, 16, 19] [1, 2, 3, 4, 5, 6, 7, 8, 9, 10, 11, 12, 13, 14, 15, 17, 18, 20, 21, 22] 23 rfl (by decide) (fun jj : (Nat → Int32) => [oB h 11 (mO b (upd (upd (upd (upd v 3 (nI nl)) 39 (nI (at1 + nn))) 27 (nI 0)) 28 (nI (ix 0)))), bA g (b 2) 1400 G, bA g (b 4) 32 FO, iA g (b 5) 64 w1, iA g (b 6) 8 S1, iA g (b 7) 8 fs, iA g (b 8) 64 rt, lA g (b 9) 25 A1, lA g (b 10) 25 T1, lA g (b 11) 5 U1, iA g (b 12) 25 tn, bA g (b 23) 48 sd, bA g (b 0) 600 tp, iA g (b 29) 40 D0, bA g (b 30) 560 e0, bA g (b 32) 16 ro, bA g (b 34) 32 jj, bA g (b 36) 16 M2, iA g (b 37) 8 X4, bA g (b 38) 2000 sg, bA g (b 40) 96 FRF, bA g (b 41) 16 R1, bA g (b 42) 16 le]) (fun _ => rfl) (by decide) [h, (b 2), (b 4), (b 5), (b 6), (b 7), (b 8), (b 9), (b 10), (b 11), (b 12), (b 23), (b 0), (b 29), (b 30), (b 32), (b 34), (b 36), (b 37), (b 38), (b 40), (b 41), (b 42)] rfl (fun _ => rfl) (fun _ => rfl) [bA g (b 2) 1400 G, bA g (b 4) 32 FO, iA g (b 5) 64 w1, iA g (b 6) 8 S1, iA g (b 7) 8 fs, iA g (b 8) 64 rt, lA g (b 9) 25 A1, lA g (b 10) 25 T1, lA g (b 11) 5 U1, iA g (b 12) 25 tn, bA g (b 23) 48 sd, bA g (b 0) 600 tp, iA g (b 29) 40 D0, bA g (b 30) 560 e0, bA g (b 32) 16 ro, bA g (b 36) 16 M2, iA g (b 37) 8 X4, bA g (b 40) 96 FRF, bA g (b 41) 16 R1, bA g (b 42) 16 le] rfl (fun _ => rfl) rfl [] rfl (Nat.le_of_ble_eq_true rfl) ⟨Nat.le_refl _, Nat.le_refl _⟩ dX11_verify_99 ?_
        intro P5 hR
        try dsimp only at hR
        refine j_w [oB h 11 (mO b (upd (upd (upd (upd v 3 (nI nl)) 39 (nI (at1 + nn))) 27 (nI 0)) 28 (nI (ix 0)))), bA g (b 2) 1400 G, bA g (b 4) 32 FO, iA g (b 5) 64 w1, iA g (b 6) 8 S1, iA g (b 7) 8 fs, iA g (b 8) 64 rt, lA g (b 9) 25 A1, lA g (b 10) 25 T1, lA g (b 11) 5 U1, iA g (b 12) 25 tn, bA g (b 23) 48 sd, bA g (b 0) 600 tp, iA g (b 29) 40 D0, bA g (b 30) 560 e0, bA g (b 32) 16 ro, bA g (b 34) 32 P5, bA g (b 36) 16 M2, iA g (b 37) 8 X4, bA g (b 38) 2000 sg, bA g (b 40) 96 FRF, bA g (b 41) 16 R1, bA g (b 42) 16 le] rfl ?_
        refine j_st [] rfl ?_
        have hP5 : isB P5 := by rw [hR]; exact putL_B hP1 (slice_B hSgB _ _)
        refine j_aload_n hX 1 dX11_verify_102 rfl ?_
        refine j_iconst hX (3) dX11_verify_103 (by decide) ?_
        refine j_iload_n hX 2 dX11_verify_104 rfl ?_
        refine j_iconst hX (0) dX11_verify_105 (by decide) ?_
        refine j_iload_n hX 0 dX11_verify_106 rfl ?_
        refine j_callV2 hX 4 (c_begin l g h b (upd (upd (upd (upd v 3 (nI nl)) 39 (nI (at1 + nn))) 27 (nI 0)) 28 (nI (ix 0))) G sd fm nn 0 (ix 0) 3 (ix 1) 0 ((i * 2 ^ fa) + (ix (2 + i))) hv15 hv16 rfl rfl (by omega) (by omega) hB) gX11_verify_X11_begin (by decide +kernel) rfl ⟨rfl, rfl⟩ ⟨Nat.le_of_ble_eq_true rfl, Nat.le_of_ble_eq_true rfl⟩ 11 0 rfl rfl [0, 1, 11] [2, 3, 4, 5, 6, 7, 8, 9, 10, 12, 13, 14, 15, 16, 17, 18, 19, 20, 21, 22] 23 rfl (by decide) (fun jj : (Nat → Int32) => [oB h 11 (mO b (upd (upd (upd (upd v 3 (nI (hl fm nn))) 39 (nI (at1 + nn))) 27 (nI 0)) 28 (nI (ix 0)))), bA g (b 2) 1400 jj, bA g (b 4) 32 FO, iA g (b 5) 64 w1, iA g (b 6) 8 S1, iA g (b 7) 8 fs, iA g (b 8) 64 rt, lA g (b 9) 25 A1, lA g (b 10) 25 T1, lA g (b 11) 5 U1, iA g (b 12) 25 tn, bA g (b 23) 48 sd, bA g (b 0) 600 tp, iA g (b 29) 40 D0, bA g (b 30) 560 e0, bA g (b 32) 16 ro, bA g (b 34) 32 P5, bA g (b 36) 16 M2, iA g (b 37) 8 X4, bA g (b 38) 2000 sg, bA g (b 40) 96 FRF, bA g (b 41) 16 R1, bA g (b 42) 16 le]) (fun _ => rfl) (by decide) [h, (b 2), (b 4), (b 5), (b 6), (b 7), (b 8), (b 9), (b 10), (b 11), (b 12), (b 23), (b 0), (b 29), (b 30), (b 32), (b 34), (b 36), (b 37), (b 38), (b 40), (b 41), (b 42)] rfl (fun _ => rfl) (fun _ => rfl) [bA g (b 4) 32 FO, iA g (b 5) 64 w1, iA g (b 6) 8 S1, iA g (b 7) 8 fs, iA g (b 8) 64 rt, lA g (b 9) 25 A1, lA g (b 10) 25 T1, lA g (b 11) 5 U1, iA g (b 12) 25 tn, bA g (b 0) 600 tp, iA g (b 29) 40 D0, bA g (b 30) 560 e0, bA g (b 32) 16 ro, bA g (b 34) 32 P5, bA g (b 36) 16 M2, iA g (b 37) 8 X4, bA g (b 38) 2000 sg, bA g (b 40) 96 FRF, bA g (b 41) 16 R1, bA g (b 42) 16 le] rfl (fun _ => rfl) rfl [] rfl (Nat.le_of_ble_eq_true rfl) ⟨Nat.le_refl _, Nat.le_refl _⟩ dX11_verify_107 ?_
        intro F1 hF1
        try dsimp only at hF1
        refine j_w [oB h 11 (mO b (upd (upd (upd (upd v 3 (nI (hl fm nn))) 39 (nI (at1 + nn))) 27 (nI 0)) 28 (nI (ix 0)))), bA g (b 2) 1400 F1, bA g (b 4) 32 FO, iA g (b 5) 64 w1, iA g (b 6) 8 S1, iA g (b 7) 8 fs, iA g (b 8) 64 rt, lA g (b 9) 25 A1, lA g (b 10) 25 T1, lA g (b 11) 5 U1, iA g (b 12) 25 tn, bA g (b 23) 48 sd, bA g (b 0) 600 tp, iA g (b 29) 40 D0, bA g (b 30) 560 e0, bA g (b 32) 16 ro, bA g (b 34) 32 P5, bA g (b 36) 16 M2, iA g (b 37) 8 X4, bA g (b 38) 2000 sg, bA g (b 40) 96 FRF, bA g (b 41) 16 R1, bA g (b 42) 16 le] rfl ?_
        refine j_st [] rfl ?_
        refine j_pc 110 rfl ?_
        refine j_aload_n hX 1 dX11_verify_110 rfl ?_
        refine j_aload_n hX 1 dX11_verify_111 rfl ?_
        refine j_get hX in11 11 0 34 (v := .ref (b 34)) rfl rfl (by decide) (List.mem_of_getElem? (i := 11) rfl) rfl rfl dX11_verify_112 ?_
        refine j_iconst hX (0) dX11_verify_115 (by decide) ?_
        refine j_aload_n hX 1 dX11_verify_116 rfl ?_
        refine j_gete hX (nI nn) in11 11 0 16 rfl rfl (by decide) (List.mem_of_getElem? (i := 12) rfl) rfl rfl hv16 dX11_verify_117 ?_
        refine j_callV2 hX 3 (c_layRow l g h b (upd (upd (upd (upd v 3 (nI (hl fm nn))) 39 (nI (at1 + nn))) 27 (nI 0)) 28 (nI (ix 0))) (hl fm nn) F1 (b 34) 32 P5 0 nn rfl (by omega) (by omega) (by omega) hP5) gX11_verify_X11_layRow (by decide +kernel) rfl ⟨rfl, rfl⟩ ⟨Nat.le_of_ble_eq_true rfl, Nat.le_of_ble_eq_true rfl⟩ 11 0 rfl rfl [0, 1, 16] [2, 3, 4, 5, 6, 7, 8, 9, 10, 11, 12, 13, 14, 15, 17, 18, 19, 20, 21, 22] 23 rfl (by decide) (fun jj : (Nat → Int32) => [oB h 11 (mO b (upd (upd (upd (upd v 3 (nI ((hl fm nn) + nn))) 39 (nI (at1 + nn))) 27 (nI 0)) 28 (nI (ix 0)))), bA g (b 2) 1400 jj, bA g (b 4) 32 FO, iA g (b 5) 64 w1, iA g (b 6) 8 S1, iA g (b 7) 8 fs, iA g (b 8) 64 rt, lA g (b 9) 25 A1, lA g (b 10) 25 T1, lA g (b 11) 5 U1, iA g (b 12) 25 tn, bA g (b 23) 48 sd, bA g (b 0) 600 tp, iA g (b 29) 40 D0, bA g (b 30) 560 e0, bA g (b 32) 16 ro, bA g (b 34) 32 P5, bA g (b 36) 16 M2, iA g (b 37) 8 X4, bA g (b 38) 2000 sg, bA g (b 40) 96 FRF, bA g (b 41) 16 R1, bA g (b 42) 16 le]) (fun _ => rfl) (by decide) [h, (b 2), (b 4), (b 5), (b 6), (b 7), (b 8), (b 9), (b 10), (b 11), (b 12), (b 23), (b 0), (b 29), (b 30), (b 32), (b 34), (b 36), (b 37), (b 38), (b 40), (b 41), (b 42)] rfl (fun _ => rfl) (fun _ => rfl) [bA g (b 4) 32 FO, iA g (b 5) 64 w1, iA g (b 6) 8 S1, iA g (b 7) 8 fs, iA g (b 8) 64 rt, lA g (b 9) 25 A1, lA g (b 10) 25 T1, lA g (b 11) 5 U1, iA g (b 12) 25 tn, bA g (b 23) 48 sd, bA g (b 0) 600 tp, iA g (b 29) 40 D0, bA g (b 30) 560 e0, bA g (b 32) 16 ro, bA g (b 36) 16 M2, iA g (b 37) 8 X4, bA g (b 38) 2000 sg, bA g (b 40) 96 FRF, bA g (b 41) 16 R1, bA g (b 42) 16 le] rfl (fun _ => rfl) rfl [] rfl (Nat.le_of_ble_eq_true rfl) ⟨Nat.le_refl _, Nat.le_refl _⟩ dX11_verify_120 ?_
        intro F2 hF2
        try dsimp only at hF2
        refine j_w [oB h 11 (mO b (upd (upd (upd (upd v 3 (nI ((hl fm nn) + nn))) 39 (nI (at1 + nn))) 27 (nI 0)) 28 (nI (ix 0)))), bA g (b 2) 1400 F2, bA g (b 4) 32 FO, iA g (b 5) 64 w1, iA g (b 6) 8 S1, iA g (b 7) 8 fs, iA g (b 8) 64 rt, lA g (b 9) 25 A1, lA g (b 10) 25 T1, lA g (b 11) 5 U1, iA g (b 12) 25 tn, bA g (b 23) 48 sd, bA g (b 0) 600 tp, iA g (b 29) 40 D0, bA g (b 30) 560 e0, bA g (b 32) 16 ro, bA g (b 34) 32 P5, bA g (b 36) 16 M2, iA g (b 37) 8 X4, bA g (b 38) 2000 sg, bA g (b 40) 96 FRF, bA g (b 41) 16 R1, bA g (b 42) 16 le] rfl ?_
        refine j_st [] rfl ?_
        rw [hR, slice_put (by rw [slice_length])] at hF2
        refine j_aload_n hX 1 dX11_verify_123 rfl ?_
        refine j_pc 124 rfl ?_
        refine j_aload_n hX 1 dX11_verify_124 rfl ?_
        refine j_get hX in11 11 0 41 (v := .ref (b 41)) rfl rfl (by decide) (List.mem_of_getElem? (i := 13) rfl) rfl rfl dX11_verify_125 ?_
        refine j_iconst hX (0) dX11_verify_128 (by decide) ?_
        refine j_callV2 hX 2 (c_end l g h b (upd (upd (upd (upd v 3 (nI ((hl fm nn) + nn))) 39 (nI (at1 + nn))) 27 (nI 0)) 28 (nI (ix 0))) ((hl fm nn) + nn) F2 FO w1 S1 fs rt A1 T1 U1 tn (b 41) 16 R1 fm nn 0 rfl hv15 hv16 (by omega) hfs hrt htn (by omega) (by omega) (by omega) (by omega)) gX11_verify_X11_end (by decide +kernel) rfl ⟨rfl, rfl⟩ ⟨Nat.le_of_ble_eq_true rfl, Nat.le_of_ble_eq_true rfl⟩ 11 0 rfl rfl [0, 1, 2, 3, 4, 5, 6, 7, 8, 9, 10, 21] [11, 12, 13, 14, 15, 16, 17, 18, 19, 20, 22] 23 rfl (by decide) (fun jj : (Nat → Int32) × (Nat → Int32) × (Nat → Int64) × (Nat → Int64) × (Nat → Int64) × Nat × (Nat → Int32) × (Nat → Int32) × (Nat → Int32) => [oB h 11 (mO b (upd (upd (upd (upd v 3 (nI jj.2.2.2.2.2.1)) 39 (nI (at1 + nn))) 27 (nI 0)) 28 (nI (ix 0)))), bA g (b 2) 1400 jj.2.2.2.2.2.2.1, bA g (b 4) 32 jj.2.2.2.2.2.2.2.1, iA g (b 5) 64 jj.1, iA g (b 6) 8 jj.2.1, iA g (b 7) 8 fs, iA g (b 8) 64 rt, lA g (b 9) 25 jj.2.2.1, lA g (b 10) 25 jj.2.2.2.1, lA g (b 11) 5 jj.2.2.2.2.1, iA g (b 12) 25 tn, bA g (b 23) 48 sd, bA g (b 0) 600 tp, iA g (b 29) 40 D0, bA g (b 30) 560 e0, bA g (b 32) 16 ro, bA g (b 34) 32 P5, bA g (b 36) 16 M2, iA g (b 37) 8 X4, bA g (b 38) 2000 sg, bA g (b 40) 96 FRF, bA g (b 41) 16 jj.2.2.2.2.2.2.2.2, bA g (b 42) 16 le]) (fun _ => rfl) (by decide) [h, (b 2), (b 4), (b 5), (b 6), (b 7), (b 8), (b 9), (b 10), (b 11), (b 12), (b 23), (b 0), (b 29), (b 30), (b 32), (b 34), (b 36), (b 37), (b 38), (b 40), (b 41), (b 42)] rfl (fun _ => rfl) (fun _ => rfl) [bA g (b 23) 48 sd, bA g (b 0) 600 tp, iA g (b 29) 40 D0, bA g (b 30) 560 e0, bA g (b 32) 16 ro, bA g (b 34) 32 P5, bA g (b 36) 16 M2, iA g (b 37) 8 X4, bA g (b 38) 2000 sg, bA g (b 40) 96 FRF, bA g (b 42) 16 le] rfl (fun _ => rfl) rfl [] rfl (Nat.le_of_ble_eq_true rfl) ⟨Nat.le_refl _, Nat.le_refl _⟩ dX11_verify_129 ?_
        rintro ⟨w5, S5, A5, T5, U5, nl5, G5, FO5, R5⟩ hE
        try dsimp only at hE
        refine j_w [oB h 11 (mO b (upd (upd (upd (upd v 3 (nI nl5)) 39 (nI (at1 + nn))) 27 (nI 0)) 28 (nI (ix 0)))), bA g (b 2) 1400 G5, bA g (b 4) 32 FO5, iA g (b 5) 64 w5, iA g (b 6) 8 S5, iA g (b 7) 8 fs, iA g (b 8) 64 rt, lA g (b 9) 25 A5, lA g (b 10) 25 T5, lA g (b 11) 5 U5, iA g (b 12) 25 tn, bA g (b 23) 48 sd, bA g (b 0) 600 tp, iA g (b 29) 40 D0, bA g (b 30) 560 e0, bA g (b 32) 16 ro, bA g (b 34) 32 P5, bA g (b 36) 16 M2, iA g (b 37) 8 X4, bA g (b 38) 2000 sg, bA g (b 40) 96 FRF, bA g (b 41) 16 R5, bA g (b 42) 16 le] rfl ?_
        refine j_st [] rfl ?_
        have hdl := hd_length (fm := fm) (n := nn) (by omega) sd 0 (ix 0) 3 (ix 1) 0 (i * 2 ^ fa + ix (2 + i))
        rw [hF2, hF1, putL_app' (by first | (simp only [List.length_append, slice_length, hdl]; omega) | simp only [List.length_append, slice_length, hdl]), slice_put (by first | (simp only [List.length_append, slice_length, hdl]; omega) | simp only [List.length_append, slice_length, hdl]), hat1] at hE
        have hE5 : R5 = putL R1 0 (TT fm nn sd 0 (ix 0) 3 (ix 1) 0 (i * 2 ^ fa + ix (2 + i)) (slice sg (nn + i * ((fa + 1) * nn)) nn)) := hE.2
        have hR5 : isB R5 := by rw [hE5]; exact putL_B hR1 (TT_B _ _ _ _ _ _ _ _ _ _)
        have hTl : (TT fm nn sd 0 (ix 0) 3 (ix 1) 0 (i * 2 ^ fa + ix (2 + i)) (slice sg (nn + i * ((fa + 1) * nn)) nn)).length = nn := TT_length (by omega) _ _ _ _ _ _ _ _
        refine j_iconst hX (0) dX11_verify_132 (by decide) ?_
        refine j_st [.int (nI 0)] rfl ?_
        refine j_istore hX [(4, .int (nI 0)), (3, .int (nI ((i * 2 ^ fa) + (ix (2 + i))))), (0, .ref h), (1, .int (nI (ix 1))), (2, .int (nI i))] dX11_verify_133 (by decide) rfl ?_
        have lp_9 : ∀ (n_10 : Nat) (z : Nat) (w1_ : Nat → Int32) (S1_ : Nat → Int32) (A1_ : Nat → Int64) (T1_ : Nat → Int64) (U1_ : Nat → Int64) (nl_ : Nat) (G_ : Nat → Int32) (FO_ : Nat → Int32) (P2 : Nat → Int32) (at2 : Nat) (R2 : Nat → Int32), (fa - z < n_10) → (z ≤ fa) → (nl_ ≤ 1400) → (isB P2) → (isB R2) → (at2 = (nn + i * ((fa + 1) * nn)) + nn + z * nn) → (R2 = putL R1 0 (ldP fm nn sd 0 (ix 0) 3 (ix 1) (TT fm nn sd 0 (ix 0) 3 (ix 1) 0 (i * 2 ^ fa + ix (2 + i)) (slice sg (nn + i * ((fa + 1) * nn)) nn)) sg ((nn + i * ((fa + 1) * nn)) + nn) (i * 2 ^ fa + ix (2 + i)) z)) → J p l e ({ frames := 7, cells := 0, slots := 0, locals := 169 } : Room) s m ([.ref h] : List Value).toArray below meth c g A 5 Q 0 0 [oB h 11 (mO b (upd (upd (upd (upd v 3 (nI nl_)) 39 (nI at2)) 27 (nI 0)) 28 (nI (ix 0)))), bA g (b 2) 1400 G_, bA g (b 4) 32 FO_, iA g (b 5) 64 w1_, iA g (b 6) 8 S1_, iA g (b 7) 8 fs, iA g (b 8) 64 rt, lA g (b 9) 25 A1_, lA g (b 10) 25 T1_, lA g (b 11) 5 U1_, iA g (b 12) 25 tn, bA g (b 23) 48 sd, bA g (b 0) 600 tp, iA g (b 29) 40 D0, bA g (b 30) 560 e0, bA g (b 32) 16 ro, bA g (b 34) 32 P2, bA g (b 36) 16 M2, iA g (b 37) 8 X4, bA g (b 38) 2000 sg, bA g (b 40) 96 FRF, bA g (b 41) 16 R2, bA g (b 42) 16 le] [(0, .ref h), (1, .int (nI (ix 1))), (2, .int (nI i)), (3, .int (nI (i * 2 ^ fa + ix (2 + i)))), (4, .int (nI z))] 135 [] := by
          intro n_10
          induction n_10 with
          | zero => intro z w1_ S1_ A1_ T1_ U1_ nl_ G_ FO_ P2 at2 R2 hm; exact absurd hm (Nat.not_lt_zero _)
          | succ n_10 ih_11 =>
            intro z w1_ S1_ A1_ T1_ U1_ nl_ G_ FO_ P2 at2 R2 hm hz hnl2 hP2 hR2 hat2 hO2
            refine j_iload hX 4 dX11_verify_135 rfl ?_
            refine j_aload_n hX 0 dX11_verify_137 rfl ?_
            refine j_pc 138 rfl ?_
            refine j_gete hX (nI fa) in11 11 0 19 rfl rfl (by decide) (List.mem_of_getElem? (i := 10) rfl) rfl rfl hv19 dX11_verify_138 ?_
            refine j_icmp_geN hX z fa 187 dX11_verify_141 (by decide) (by omega) (by omega) (fun b_141 => ?_) (fun b_141 => ?_)
            · skip
              have hza : z = fa := by omega
              rw [hza] at hat2 hO2
              refine j_iconst hX (0) dX11_verify_187 (by decide) ?_
              refine j_st [.int (nI 0)] rfl ?_
              refine j_istore hX [(4, .int (nI 0)), (0, .ref h), (1, .int (nI (ix 1))), (2, .int (nI i)), (3, .int (nI (i * 2 ^ fa + ix (2 + i))))] dX11_verify_188 (by decide) rfl ?_
              have lp_12 : ∀ (n_13 : Nat) (k : Nat) (FR2 : Nat → Int32), (nn - k < n_13) → (k ≤ nn) → (isB FR2) → (FR2 = putL FRF (nn * i) (slice R2 0 k)) → J p l e ({ frames := 7, cells := 0, slots := 0, locals := 169 } : Room) s m ([.ref h] : List Value).toArray below meth c g A 5 Q 0 0 [oB h 11 (mO b (upd (upd (upd (upd v 3 (nI nl_)) 39 (nI at2)) 27 (nI 0)) 28 (nI (ix 0)))), bA g (b 2) 1400 G_, bA g (b 4) 32 FO_, iA g (b 5) 64 w1_, iA g (b 6) 8 S1_, iA g (b 7) 8 fs, iA g (b 8) 64 rt, lA g (b 9) 25 A1_, lA g (b 10) 25 T1_, lA g (b 11) 5 U1_, iA g (b 12) 25 tn, bA g (b 23) 48 sd, bA g (b 0) 600 tp, iA g (b 29) 40 D0, bA g (b 30) 560 e0, bA g (b 32) 16 ro, bA g (b 34) 32 P2, bA g (b 36) 16 M2, iA g (b 37) 8 X4, bA g (b 38) 2000 sg, bA g (b 40) 96 FR2, bA g (b 41) 16 R2, bA g (b 42) 16 le] [(0, .ref h), (1, .int (nI (ix 1))), (2, .int (nI i)), (3, .int (nI (i * 2 ^ fa + ix (2 + i)))), (4, .int (nI k))] 190 [] := by
                intro n_13
                induction n_13 with
                | zero => intro k FR2 hm; exact absurd hm (Nat.not_lt_zero _)
                | succ n_13 ih_14 =>
                  intro k FR2 hm hk hFR2 hF2
                  refine j_iload hX 4 dX11_verify_190 rfl ?_
                  refine j_aload_n hX 0 dX11_verify_192 rfl ?_
                  refine j_gete hX (nI nn) in11 11 0 16 rfl rfl (by decide) (List.mem_of_getElem? (i := 12) rfl) rfl rfl hv16 dX11_verify_193 ?_
                  refine j_icmp_geN hX k nn 226 dX11_verify_196 (by decide) (by omega) (by omega) (fun b_196 => ?_) (fun b_196 => ?_)
                  · skip
                    refine j_pc 226 rfl ?_
                    refine j_iincN hX i (i + 1) [(2, .int (nI (i + 1))), (0, .ref h), (1, .int (nI (ix 1))), (3, .int (nI (i * 2 ^ fa + ix (2 + i)))), (4, .int (nI k))] 2 dX11_verify_226 rfl (nI_1 _) (by decide) rfl ?_
                    refine j_goto hX 69 dX11_verify_229 (by decide) ?_
                    refine j_perm [(0, .ref h), (1, .int (nI (ix 1))), (2, .int (nI (i + 1)))] [1, 2, 0] rfl ?_
                    exact ih_3 (i + 1) w1_ S1_ A1_ T1_ U1_ nl_ G_ FO_ P2 at2 FR2 R2 (by omega) (by omega) hnl2 hP2 hFR2 hR2 (by rw [hat2, Nat.succ_mul i, Nat.succ_mul fa]; omega) (by rw [hF2, show k = nn by omega, hO2, slice_put (by rw [ldP_length (by omega) _ _ _ _ _ hTl]), hT1, putL_app' (by rw [fewLT_length (by omega), Nat.zero_add]; exact hic)]; rfl)
                  · skip
                    refine j_aload_n hX 0 dX11_verify_199 rfl ?_
                    refine j_get hX in11 11 0 40 (v := .ref (b 40)) rfl rfl (by decide) (List.mem_of_getElem? (i := 14) rfl) rfl rfl dX11_verify_200 ?_
                    refine j_aload_n hX 0 dX11_verify_203 rfl ?_
                    refine j_gete hX (nI nn) in11 11 0 16 rfl rfl (by decide) (List.mem_of_getElem? (i := 12) rfl) rfl rfl hv16 dX11_verify_204 ?_
                    refine j_iload_n hX 2 dX11_verify_207 rfl ?_
                    refine j_imulN hX nn i dX11_verify_208 ?_
                    refine j_pc 209 rfl ?_
                    refine j_iload hX 4 dX11_verify_209 rfl ?_
                    refine j_iaddN hX (nn * i) k dX11_verify_211 ?_
                    refine j_aload_n hX 0 dX11_verify_212 rfl ?_
                    refine j_get hX in11 11 0 41 (v := .ref (b 41)) rfl rfl (by decide) (List.mem_of_getElem? (i := 13) rfl) rfl rfl dX11_verify_213 ?_
                    refine j_iload hX 4 dX11_verify_216 rfl ?_
                    refine j_baldN hX 21 k rfl (by omega) (by omega) dX11_verify_218 ?_
                    refine j_bastN hX 20 ((nn * i) + k) rfl (by omega) (by omega) [oB h 11 (mO b (upd (upd (upd (upd v 3 (nI nl_)) 39 (nI at2)) 27 (nI 0)) 28 (nI (ix 0)))), bA g (b 2) 1400 G_, bA g (b 4) 32 FO_, iA g (b 5) 64 w1_, iA g (b 6) 8 S1_, iA g (b 7) 8 fs, iA g (b 8) 64 rt, lA g (b 9) 25 A1_, lA g (b 10) 25 T1_, lA g (b 11) 5 U1_, iA g (b 12) 25 tn, bA g (b 23) 48 sd, bA g (b 0) 600 tp, iA g (b 29) 40 D0, bA g (b 30) 560 e0, bA g (b 32) 16 ro, bA g (b 34) 32 P2, bA g (b 36) 16 M2, iA g (b 37) 8 X4, bA g (b 38) 2000 sg, bA g (b 40) 96 (upd FR2 ((nn * i) + k) (i8 (R2 k))), bA g (b 41) 16 R2, bA g (b 42) 16 le] rfl dX11_verify_219 ?_
                    refine j_iincN hX k (k + 1) [(4, .int (nI (k + 1))), (0, .ref h), (1, .int (nI (ix 1))), (2, .int (nI i)), (3, .int (nI (i * 2 ^ fa + ix (2 + i))))] 4 dX11_verify_220 rfl (nI_1 _) (by decide) rfl ?_
                    refine j_pc 223 rfl ?_
                    refine j_goto hX 190 dX11_verify_223 (by decide) ?_
                    refine j_perm [(0, .ref h), (1, .int (nI (ix 1))), (2, .int (nI i)), (3, .int (nI (i * 2 ^ fa + ix (2 + i)))), (4, .int (nI (k + 1)))] [1, 2, 3, 4, 0] rfl ?_
                    exact ih_14 (k + 1) (upd FR2 ((nn * i) + k) (i8 (R2 k))) (by omega) (by omega) (isB_upd hFR2) (by have h9 := slice_put_step hR2 hF2; rw [Nat.zero_add] at h9; exact h9)
              refine j_perm [(0, .ref h), (1, .int (nI (ix 1))), (2, .int (nI i)), (3, .int (nI (i * 2 ^ fa + ix (2 + i)))), (4, .int (nI 0))] [1, 2, 3, 4, 0] rfl ?_
              exact lp_12 _ 0 FRF (Nat.lt_succ_self _) (by omega) hFR (by rw [slice_zero, putL_nil])
            · skip
              have hzl : z < fa := by omega
              have hzn := mul_step (n := nn) hzl
              have hdz := Nat.div_le_self (i * 2 ^ fa + ix (2 + i)) (2 ^ z)
              refine j_aload_n hX 0 dX11_verify_144 rfl ?_
              refine j_iconst hX (3) dX11_verify_145 (by decide) ?_
              refine j_iload_n hX 1 dX11_verify_146 rfl ?_
              refine j_iload hX 4 dX11_verify_147 rfl ?_
              refine j_iconst hX (1) dX11_verify_149 (by decide) ?_
              refine j_iaddN hX z 1 dX11_verify_150 ?_
              refine j_iload_n hX 3 dX11_verify_151 rfl ?_
              refine j_pc 152 rfl ?_
              refine j_iload hX 4 dX11_verify_152 rfl ?_
              refine j_iconst hX (1) dX11_verify_154 (by decide) ?_
              refine j_iaddN hX z 1 dX11_verify_155 ?_
              refine j_ishrN hX (i * 2 ^ fa + ix (2 + i)) (z + 1) (by omega) (by omega) dX11_verify_156 ?_
              refine j_callV2 hX 4 (c_begin l g h b (upd (upd (upd (upd v 3 (nI nl_)) 39 (nI at2)) 27 (nI 0)) 28 (nI (ix 0))) G_ sd fm nn 0 (ix 0) 3 (ix 1) (z + 1) ((i * 2 ^ fa + ix (2 + i)) / 2 ^ (z + 1)) hv15 hv16 rfl rfl (by omega) (by omega) hB) gX11_verify_X11_begin (by decide +kernel) rfl ⟨rfl, rfl⟩ ⟨Nat.le_of_ble_eq_true rfl, Nat.le_of_ble_eq_true rfl⟩ 11 0 rfl rfl [0, 1, 11] [2, 3, 4, 5, 6, 7, 8, 9, 10, 12, 13, 14, 15, 16, 17, 18, 19, 20, 21, 22] 23 rfl (by decide) (fun jj : (Nat → Int32) => [oB h 11 (mO b (upd (upd (upd (upd v 3 (nI (hl fm nn))) 39 (nI at2)) 27 (nI 0)) 28 (nI (ix 0)))), bA g (b 2) 1400 jj, bA g (b 4) 32 FO_, iA g (b 5) 64 w1_, iA g (b 6) 8 S1_, iA g (b 7) 8 fs, iA g (b 8) 64 rt, lA g (b 9) 25 A1_, lA g (b 10) 25 T1_, lA g (b 11) 5 U1_, iA g (b 12) 25 tn, bA g (b 23) 48 sd, bA g (b 0) 600 tp, iA g (b 29) 40 D0, bA g (b 30) 560 e0, bA g (b 32) 16 ro, bA g (b 34) 32 P2, bA g (b 36) 16 M2, iA g (b 37) 8 X4, bA g (b 38) 2000 sg, bA g (b 40) 96 FRF, bA g (b 41) 16 R2, bA g (b 42) 16 le]) (fun _ => rfl) (by decide) [h, (b 2), (b 4), (b 5), (b 6), (b 7), (b 8), (b 9), (b 10), (b 11), (b 12), (b 23), (b 0), (b 29), (b 30), (b 32), (b 34), (b 36), (b 37), (b 38), (b 40), (b 41), (b 42)] rfl (fun _ => rfl) (fun _ => rfl) [bA g (b 4) 32 FO_, iA g (b 5) 64 w1_, iA g (b 6) 8 S1_, iA g (b 7) 8 fs, iA g (b 8) 64 rt, lA g (b 9) 25 A1_, lA g (b 10) 25 T1_, lA g (b 11) 5 U1_, iA g (b 12) 25 tn, bA g (b 0) 600 tp, iA g (b 29) 40 D0, bA g (b 30) 560 e0, bA g (b 32) 16 ro, bA g (b 34) 32 P2, bA g (b 36) 16 M2, iA g (b 37) 8 X4, bA g (b 38) 2000 sg, bA g (b 40) 96 FRF, bA g (b 41) 16 R2, bA g (b 42) 16 le] rfl (fun _ => rfl) rfl [] rfl (Nat.le_of_ble_eq_true rfl) ⟨Nat.le_refl _, Nat.le_refl _⟩ dX11_verify_157 ?_
              intro F1 hF1
              try dsimp only at hF1
              refine j_w [oB h 11 (mO b (upd (upd (upd (upd v 3 (nI (hl fm nn))) 39 (nI at2)) 27 (nI 0)) 28 (nI (ix 0)))), bA g (b 2) 1400 F1, bA g (b 4) 32 FO_, iA g (b 5) 64 w1_, iA g (b 6) 8 S1_, iA g (b 7) 8 fs, iA g (b 8) 64 rt, lA g (b 9) 25 A1_, lA g (b 10) 25 T1_, lA g (b 11) 5 U1_, iA g (b 12) 25 tn, bA g (b 23) 48 sd, bA g (b 0) 600 tp, iA g (b 29) 40 D0, bA g (b 30) 560 e0, bA g (b 32) 16 ro, bA g (b 34) 32 P2, bA g (b 36) 16 M2, iA g (b 37) 8 X4, bA g (b 38) 2000 sg, bA g (b 40) 96 FRF, bA g (b 41) 16 R2, bA g (b 42) 16 le] rfl ?_
              refine j_st [] rfl ?_
              refine j_aload_n hX 0 dX11_verify_160 rfl ?_
              refine j_aload_n hX 0 dX11_verify_161 rfl ?_
              refine j_get hX in11 11 0 41 (v := .ref (b 41)) rfl rfl (by decide) (List.mem_of_getElem? (i := 13) rfl) rfl rfl dX11_verify_162 ?_
              refine j_pc 165 rfl ?_
              refine j_iload_n hX 3 dX11_verify_165 rfl ?_
              refine j_iload hX 4 dX11_verify_166 rfl ?_
              refine j_ishrN hX (i * 2 ^ fa + ix (2 + i)) z (by omega) (by omega) dX11_verify_168 ?_
              refine j_callV2 hX 2 (c_layPair l g h b (upd (upd (upd (upd v 3 (nI (hl fm nn))) 39 (nI at2)) 27 (nI 0)) 28 (nI (ix 0))) (hl fm nn) F1 P2 sg R2 nn at2 ((i * 2 ^ fa + ix (2 + i)) / 2 ^ z) rfl hv16 rfl (by omega) (by omega) (by omega) hP2 hSgB hR2 (by omega)) gX11_verify_X11_layPair (by decide +kernel) rfl ⟨rfl, rfl⟩ ⟨Nat.le_of_ble_eq_true rfl, Nat.le_of_ble_eq_true rfl⟩ 11 0 rfl rfl [0, 1, 16, 19, 21] [2, 3, 4, 5, 6, 7, 8, 9, 10, 11, 12, 13, 14, 15, 17, 18, 20, 22] 23 rfl (by decide) (fun jj : (Nat → Int32) × (Nat → Int32) => [oB h 11 (mO b (upd (upd (upd (upd v 3 (nI ((hl fm nn) + nn + nn))) 39 (nI (at2 + nn))) 27 (nI 0)) 28 (nI (ix 0)))), bA g (b 2) 1400 jj.1, bA g (b 4) 32 FO_, iA g (b 5) 64 w1_, iA g (b 6) 8 S1_, iA g (b 7) 8 fs, iA g (b 8) 64 rt, lA g (b 9) 25 A1_, lA g (b 10) 25 T1_, lA g (b 11) 5 U1_, iA g (b 12) 25 tn, bA g (b 23) 48 sd, bA g (b 0) 600 tp, iA g (b 29) 40 D0, bA g (b 30) 560 e0, bA g (b 32) 16 ro, bA g (b 34) 32 jj.2, bA g (b 36) 16 M2, iA g (b 37) 8 X4, bA g (b 38) 2000 sg, bA g (b 40) 96 FRF, bA g (b 41) 16 R2, bA g (b 42) 16 le]) (fun _ => rfl) (by decide) [h, (b 2), (b 4), (b 5), (b 6), (b 7), (b 8), (b 9), (b 10), (b 11), (b 12), (b 23), (b 0), (b 29), (b 30), (b 32), (b 34), (b 36), (b 37), (b 38), (b 40), (b 41), (b 42)] rfl (fun _ => rfl) (fun _ => rfl) [bA g (b 4) 32 FO_, iA g (b 5) 64 w1_, iA g (b 6) 8 S1_, iA g (b 7) 8 fs, iA g (b 8) 64 rt, lA g (b 9) 25 A1_, lA g (b 10) 25 T1_, lA g (b 11) 5 U1_, iA g (b 12) 25 tn, bA g (b 23) 48 sd, bA g (b 0) 600 tp, iA g (b 29) 40 D0, bA g (b 30) 560 e0, bA g (b 32) 16 ro, bA g (b 36) 16 M2, iA g (b 37) 8 X4, bA g (b 40) 96 FRF, bA g (b 42) 16 le] rfl (fun _ => rfl) rfl [] rfl (Nat.le_of_ble_eq_true rfl) ⟨Nat.le_refl _, Nat.le_refl _⟩ dX11_verify_169 ?_
              rintro ⟨F2, P9⟩ hF2
              try dsimp only at hF2
              refine j_w [oB h 11 (mO b (upd (upd (upd (upd v 3 (nI ((hl fm nn) + nn + nn))) 39 (nI (at2 + nn))) 27 (nI 0)) 28 (nI (ix 0)))), bA g (b 2) 1400 F2, bA g (b 4) 32 FO_, iA g (b 5) 64 w1_, iA g (b 6) 8 S1_, iA g (b 7) 8 fs, iA g (b 8) 64 rt, lA g (b 9) 25 A1_, lA g (b 10) 25 T1_, lA g (b 11) 5 U1_, iA g (b 12) 25 tn, bA g (b 23) 48 sd, bA g (b 0) 600 tp, iA g (b 29) 40 D0, bA g (b 30) 560 e0, bA g (b 32) 16 ro, bA g (b 34) 32 P9, bA g (b 36) 16 M2, iA g (b 37) 8 X4, bA g (b 38) 2000 sg, bA g (b 40) 96 FRF, bA g (b 41) 16 R2, bA g (b 42) 16 le] rfl ?_
              refine j_st [] rfl ?_
              have hF3 := hF2.2
              rw [hF1, putL_app' (by rw [hd_length (by omega), Nat.zero_add])] at hF3
              refine j_aload_n hX 0 dX11_verify_172 rfl ?_
              refine j_aload_n hX 0 dX11_verify_173 rfl ?_
              refine j_get hX in11 11 0 41 (v := .ref (b 41)) rfl rfl (by decide) (List.mem_of_getElem? (i := 13) rfl) rfl rfl dX11_verify_174 ?_
              refine j_iconst hX (0) dX11_verify_177 (by decide) ?_
              refine j_pc 178 rfl ?_
              refine j_callV2 hX 2 (c_end l g h b (upd (upd (upd (upd v 3 (nI ((hl fm nn) + nn + nn))) 39 (nI (at2 + nn))) 27 (nI 0)) 28 (nI (ix 0))) ((hl fm nn) + nn + nn) F2 FO_ w1_ S1_ fs rt A1_ T1_ U1_ tn (b 41) 16 R2 fm nn 0 rfl hv15 hv16 (by omega) hfs hrt htn (by omega) (by omega) (by omega) (by omega)) gX11_verify_X11_end (by decide +kernel) rfl ⟨rfl, rfl⟩ ⟨Nat.le_of_ble_eq_true rfl, Nat.le_of_ble_eq_true rfl⟩ 11 0 rfl rfl [0, 1, 2, 3, 4, 5, 6, 7, 8, 9, 10, 21] [11, 12, 13, 14, 15, 16, 17, 18, 19, 20, 22] 23 rfl (by decide) (fun jj : (Nat → Int32) × (Nat → Int32) × (Nat → Int64) × (Nat → Int64) × (Nat → Int64) × Nat × (Nat → Int32) × (Nat → Int32) × (Nat → Int32) => [oB h 11 (mO b (upd (upd (upd (upd v 3 (nI jj.2.2.2.2.2.1)) 39 (nI (at2 + nn))) 27 (nI 0)) 28 (nI (ix 0)))), bA g (b 2) 1400 jj.2.2.2.2.2.2.1, bA g (b 4) 32 jj.2.2.2.2.2.2.2.1, iA g (b 5) 64 jj.1, iA g (b 6) 8 jj.2.1, iA g (b 7) 8 fs, iA g (b 8) 64 rt, lA g (b 9) 25 jj.2.2.1, lA g (b 10) 25 jj.2.2.2.1, lA g (b 11) 5 jj.2.2.2.2.1, iA g (b 12) 25 tn, bA g (b 23) 48 sd, bA g (b 0) 600 tp, iA g (b 29) 40 D0, bA g (b 30) 560 e0, bA g (b 32) 16 ro, bA g (b 34) 32 P9, bA g (b 36) 16 M2, iA g (b 37) 8 X4, bA g (b 38) 2000 sg, bA g (b 40) 96 FRF, bA g (b 41) 16 jj.2.2.2.2.2.2.2.2, bA g (b 42) 16 le]) (fun _ => rfl) (by decide) [h, (b 2), (b 4), (b 5), (b 6), (b 7), (b 8), (b 9), (b 10), (b 11), (b 12), (b 23), (b 0), (b 29), (b 30), (b 32), (b 34), (b 36), (b 37), (b 38), (b 40), (b 41), (b 42)] rfl (fun _ => rfl) (fun _ => rfl) [bA g (b 23) 48 sd, bA g (b 0) 600 tp, iA g (b 29) 40 D0, bA g (b 30) 560 e0, bA g (b 32) 16 ro, bA g (b 34) 32 P9, bA g (b 36) 16 M2, iA g (b 37) 8 X4, bA g (b 38) 2000 sg, bA g (b 40) 96 FRF, bA g (b 42) 16 le] rfl (fun _ => rfl) rfl [] rfl (Nat.le_of_ble_eq_true rfl) ⟨Nat.le_refl _, Nat.le_refl _⟩ dX11_verify_178 ?_
              rintro ⟨w6, S6, A6, T6, U6, nl6, G6, FO6, R6⟩ hE
              try dsimp only at hE
              refine j_w [oB h 11 (mO b (upd (upd (upd (upd v 3 (nI nl6)) 39 (nI (at2 + nn))) 27 (nI 0)) 28 (nI (ix 0)))), bA g (b 2) 1400 G6, bA g (b 4) 32 FO6, iA g (b 5) 64 w6, iA g (b 6) 8 S6, iA g (b 7) 8 fs, iA g (b 8) 64 rt, lA g (b 9) 25 A6, lA g (b 10) 25 T6, lA g (b 11) 5 U6, iA g (b 12) 25 tn, bA g (b 23) 48 sd, bA g (b 0) 600 tp, iA g (b 29) 40 D0, bA g (b 30) 560 e0, bA g (b 32) 16 ro, bA g (b 34) 32 P9, bA g (b 36) 16 M2, iA g (b 37) 8 X4, bA g (b 38) 2000 sg, bA g (b 40) 96 FRF, bA g (b 41) 16 R6, bA g (b 42) 16 le] rfl ?_
              refine j_st [] rfl ?_
              have hdl := hd_length (fm := fm) (n := nn) (by omega) sd 0 (ix 0) 3 (ix 1) (z + 1) ((i * 2 ^ fa + ix (2 + i)) / 2 ^ (z + 1))
              have hE6 := hE.2
              rw [hF3, slice_put (by rw [List.length_append, hdl]; split <;> (rw [List.length_append, slice_length, slice_length]; omega)), hat2] at hE6
              have hO6 := ldP_any hnn hTl hO2 hE6
              refine j_iincN hX z (z + 1) [(4, .int (nI (z + 1))), (0, .ref h), (1, .int (nI (ix 1))), (2, .int (nI i)), (3, .int (nI (i * 2 ^ fa + ix (2 + i))))] 4 dX11_verify_181 rfl (nI_1 _) (by decide) rfl ?_
              refine j_goto hX 135 dX11_verify_184 (by decide) ?_
              refine j_perm [(0, .ref h), (1, .int (nI (ix 1))), (2, .int (nI i)), (3, .int (nI (i * 2 ^ fa + ix (2 + i)))), (4, .int (nI (z + 1)))] [1, 2, 3, 4, 0] rfl ?_
              exact ih_11 (z + 1) w6 S6 A6 T6 U6 nl6 G6 FO6 P9 (at2 + nn) R6 (by omega) (by omega) hE.1 hF2.1 (by rw [hE.2]; exact putL_B hR2 (isBL_take (HH_B _ _) _)) (by rw [hat2, Nat.succ_mul z]; omega) hO6
        refine j_perm [(0, .ref h), (1, .int (nI (ix 1))), (2, .int (nI i)), (3, .int (nI ((i * 2 ^ fa) + (ix (2 + i))))), (4, .int (nI 0))] [2, 3, 4, 1, 0] rfl ?_
        exact lp_9 _ 0 w5 S5 A5 T5 U5 nl5 G5 FO5 P5 (at1 + nn) R5 (Nat.lt_succ_self _) (by omega) hE.1 hP5 hR5 (by rw [hat1, Nat.zero_mul]; rfl) hE5
  refine j_perm [(0, .ref h), (1, .int (nI (ix 1))), (2, .int (nI 0))] [2, 1, 0] rfl ?_
  exact lp_1 _ 0 w4 S4 A4 T4 U4 nl4 G4 FO4 P4 (0 + nn) frf rw (Nat.lt_succ_self _) (by omega) hN.1 hN.2.1 hFrB hRwB (by rw [Nat.zero_mul, Nat.zero_add]; rfl) (by rw [fewLT, putL_nil])

set_option maxHeartbeats 4000000 in
set_option maxRecDepth 100000 in
/-- the reference: verify, no key -/
theorem c_mverifyS (l : Launch) (g : jG) (h : Nat) (b : Nat → Nat) (v : Nat → Int32) (hv24 : v 24 = nI 0) : jC l g yX11_verify wsX11_verify ({ frames := 7, cells := 0, slots := 0, locals := 169 } : Room) [.ref h] [oB h 11 (mO b v)] (fun jj : Unit => some (.int (-3))) (fun jj : Unit => True) (fun jj : Unit => [oB h 11 (mO b v)]) := by
  refine jC.of (cc := cX11_verify) (own := RX11) (maxL := 5) (ret := (some .int)) (by decide +kernel) rfl rfl (Nat.le_of_ble_eq_true rfl) (fun u hu => ⟨_, rfl, rfl⟩) ?_
  intro p e s m below meth c A Q hX hret
  have in11 : ∀ w ∈ wsX110, w ∈ wsX11_verify := (fun w h => List.mem_cons_of_mem _ (List.mem_append_right _ h))
  refine j_aload_n hX 0 dX11_verify_0 rfl ?_
  refine j_gete hX (nI 0) in11 11 0 24 rfl rfl (by decide) (List.mem_of_getElem? (i := 1) rfl) rfl rfl hv24 dX11_verify_1 ?_
  refine j_if_neN hX 0 10 dX11_verify_4 (by decide) (by omega) (fun b_4 => absurd b_4 (by omega)) (fun b_4 => ?_)
  refine j_bipush hX (-3) dX11_verify_7 (by decide) ?_
  exact hret () trivial 9 _ .ireturn dX11_verify_9 rfl

set_option maxHeartbeats 4000000 in
set_option maxRecDepth 100000 in
/-- the reference: verify, another size -/
theorem c_mverify0 (l : Launch) (g : jG) (h : Nat) (b : Nat → Nat) (v : Nat → Int32) (fm : Nat) (nn : Nat) (ht : Nat) (lys : Nat) (fa : Nat) (mk : Nat) (nsg : Nat) (hv24 : v 24 = nI 1) (hv22 : v 22 = nI (sgS nn ht lys fa mk)) (hv25 : v 25 = nI nsg) (hnsg : nsg ≤ 1680) (hS : sgS nn ht lys fa mk ≤ 1680) (hne : ¬ nsg = sgS nn ht lys fa mk) : jC l g yX11_verify wsX11_verify ({ frames := 7, cells := 0, slots := 0, locals := 169 } : Room) [.ref h] [oB h 11 (mO b v)] (fun jj : Unit => some (.int (nI 0))) (fun jj : Unit => True) (fun jj : Unit => [oB h 11 (mO b v)]) := by
  refine jC.of (cc := cX11_verify) (own := RX11) (maxL := 5) (ret := (some .int)) (by decide +kernel) rfl rfl (Nat.le_of_ble_eq_true rfl) (fun u hu => ⟨_, rfl, rfl⟩) ?_
  intro p e s m below meth c A Q hX hret
  have in11 : ∀ w ∈ wsX110, w ∈ wsX11_verify := (fun w h => List.mem_cons_of_mem _ (List.mem_append_right _ h))
  refine j_aload_n hX 0 dX11_verify_0 rfl ?_
  refine j_gete hX (nI 1) in11 11 0 24 rfl rfl (by decide) (List.mem_of_getElem? (i := 1) rfl) rfl rfl hv24 dX11_verify_1 ?_
  refine j_if_neN hX 1 10 dX11_verify_4 (by decide) (by omega) (fun b_4 => ?_) (fun b_4 => absurd b_4 (by omega))
  refine j_aload_n hX 0 dX11_verify_10 rfl ?_
  refine j_gete hX (nI nsg) in11 11 0 25 rfl rfl (by decide) (List.mem_of_getElem? (i := 2) rfl) rfl rfl hv25 dX11_verify_11 ?_
  refine j_aload_n hX 0 dX11_verify_14 rfl ?_
  refine j_gete hX (nI (sgS nn ht lys fa mk)) in11 11 0 22 rfl rfl (by decide) (List.mem_of_getElem? (i := 3) rfl) rfl rfl hv22 dX11_verify_15 ?_
  refine j_pc 18 rfl ?_
  refine j_icmp_eqN hX nsg (sgS nn ht lys fa mk) 23 dX11_verify_18 (by decide) (by omega) (by omega) (fun b_18 => absurd b_18 (by omega)) (fun b_18 => ?_)
  refine j_iconst hX (0) dX11_verify_21 (by decide) ?_
  exact hret () trivial 22 _ .ireturn dX11_verify_22 rfl

set_option maxHeartbeats 4000000 in
set_option maxRecDepth 100000 in
/-- the reference: sign -/
theorem c_msignT (l : Launch) (g : jG) (h : Nat) (b : Nat → Nat) (v : Nat → Int32) (n0 : Nat) (f : Nat → Int32) (dg : Nat → Int32) (w0 : Nat → Int32) (S0 : Nat → Int32) (fs : Nat → Int32) (rt : Nat → Int32) (A0 : Nat → Int64) (T0 : Nat → Int64) (U0 : Nat → Int64) (tn : Nat → Int32) (sd : Nat → Int32) (tp : Nat → Int32) (ntp : Nat) (D0 : Nat → Int32) (e0 : Nat → Int32) (nd : Nat → Int32) (ro : Nat → Int32) (fn : Nat → Int32) (pf : Nat → Int32) (rd : Nat → Int32) (mx : Nat → Int32) (xf : Nat → Int32) (sg : Nat → Int32) (frf : Nat → Int32) (rw : Nat → Int32) (fm : Nat) (nn : Nat) (ht : Nat) (lys : Nat) (fa : Nat) (mk : Nat) (hfs : ∀ j, j < 8 → fs j = s_first.getD j 0) (hrt : ∀ j, j < 64 → rt j = s_cube.getD j 0) (htn : ∀ k, k < 25 → tn k = s_turns.getD k 0) (hv3 : v 3 = nI n0) (hn0 : n0 ≤ 1400) (hB : isB sd) (hv1 : v 1 = nI ntp) (hntp : ntp ≤ 600) (hTpB : isB tp) (hEB : isB e0) (hNB : isB nd) (hRoB : isB ro) (hFnB : isB fn) (hPB : isB pf) (hRdB : isB rd) (hMxB : isB mx) (hSgB : isB sg) (hFrB : isB frf) (hRwB : isB rw) (hv15 : v 15 = nI fm) (hv16 : v 16 = nI nn) (hv17 : v 17 = nI ht) (hv18 : v 18 = nI lys) (hv19 : v 19 = nI fa) (hv20 : v 20 = nI mk) (hv21 : v 21 = nI (ln nn)) (hv24 : v 24 = nI 1) (hfm : fm < 2) (hnn4 : nn = 4 ∨ nn = 8 ∨ nn = 12 ∨ nn = 16) (hht : 1 ≤ ht ∧ ht ≤ 2) (hlys : 1 ≤ lys ∧ lys ≤ 2) (hfa : 1 ≤ fa ∧ fa ≤ 4) (hmk : 1 ≤ mk ∧ mk ≤ 6) : jC l g yX11_sign wsX11_sign ({ frames := 10, cells := 0, slots := 0, locals := 241 } : Room) [.ref h] [oB h 11 (mO b v), bA g (b 2) 1400 f, bA g (b 4) 32 dg, iA g (b 5) 64 w0, iA g (b 6) 8 S0, iA g (b 7) 8 fs, iA g (b 8) 64 rt, lA g (b 9) 25 A0, lA g (b 10) 25 T0, lA g (b 11) 5 U0, iA g (b 12) 25 tn, bA g (b 23) 48 sd, bA g (b 0) 600 tp, iA g (b 29) 40 D0, bA g (b 30) 560 e0, bA g (b 31) 112 nd, bA g (b 32) 16 ro, bA g (b 33) 496 fn, bA g (b 34) 32 pf, bA g (b 35) 16 rd, bA g (b 36) 16 mx, iA g (b 37) 8 xf, bA g (b 38) 2000 sg, bA g (b 40) 96 frf, bA g (b 41) 16 rw] (fun jj : (Nat → Int32) × (Nat → Int32) × (Nat → Int64) × (Nat → Int64) × (Nat → Int64) × Nat × (Nat → Int32) × (Nat → Int32) × Nat × Nat × Nat × (Nat → Int32) × (Nat → Int32) × (Nat → Int32) × (Nat → Int32) × (Nat → Int32) × (Nat → Int32) × (Nat → Int32) × (Nat → Int32) × (Nat → Int32) × (Nat → Int32) × (Nat → Int32) => some (.int (nI (sgS nn ht lys fa mk)))) (fun jj : (Nat → Int32) × (Nat → Int32) × (Nat → Int64) × (Nat → Int64) × (Nat → Int64) × Nat × (Nat → Int32) × (Nat → Int32) × Nat × Nat × Nat × (Nat → Int32) × (Nat → Int32) × (Nat → Int32) × (Nat → Int32) × (Nat → Int32) × (Nat → Int32) × (Nat → Int32) × (Nat → Int32) × (Nat → Int32) × (Nat → Int32) × (Nat → Int32) => isB jj.2.2.2.2.2.2.2.2.2.2.2.2.2.2.2.2.2.2.2.2.2 ∧ jj.2.2.2.2.2.1 ≤ 1400 ∧ (isB jj.2.2.2.2.2.2.2.2.2.2.2.2.1 ∧ isB jj.2.2.2.2.2.2.2.2.2.2.2.2.2.1 ∧ isB jj.2.2.2.2.2.2.2.2.2.2.2.2.2.2.1 ∧ isB jj.2.2.2.2.2.2.2.2.2.2.2.2.2.2.2.1 ∧ isB jj.2.2.2.2.2.2.2.2.2.2.2.2.2.2.2.2.1 ∧ isB jj.2.2.2.2.2.2.2.2.2.2.2.2.2.2.2.2.2.2.1 ∧ isB jj.2.2.2.2.2.2.2.2.2.2.2.2.2.2.2.2.2.2.2.1) ∧ isB jj.2.2.2.2.2.2.2.2.2.2.2.2.2.2.2.2.2.2.2.2.1 ∧ jj.2.2.2.2.2.2.2.2.2.2.2.2.2.2.2.2.2.2.2.2.1 = putL sg 0 (SIG fm nn sd ht lys fa mk (slice sd 32 nn) (slice ro 0 nn) (slice tp 0 ntp)) ∧ ∀ j, j < 8 → jj.2.2.2.2.2.2.2.2.2.2.2.2.2.2.2.2.2.1 j = ixV (IXS fm nn sd ht lys fa mk (MIXED fm nn sd (slice sd 32 nn) (slice tp 0 ntp)) (slice ro 0 nn) (slice tp 0 ntp)) mk j) (fun jj : (Nat → Int32) × (Nat → Int32) × (Nat → Int64) × (Nat → Int64) × (Nat → Int64) × Nat × (Nat → Int32) × (Nat → Int32) × Nat × Nat × Nat × (Nat → Int32) × (Nat → Int32) × (Nat → Int32) × (Nat → Int32) × (Nat → Int32) × (Nat → Int32) × (Nat → Int32) × (Nat → Int32) × (Nat → Int32) × (Nat → Int32) × (Nat → Int32) => [oB h 11 (mO b (upd (upd (upd (upd (upd v 3 (nI jj.2.2.2.2.2.1)) 39 (nI jj.2.2.2.2.2.2.2.2.2.2.1)) 27 (nI jj.2.2.2.2.2.2.2.2.1)) 28 (nI jj.2.2.2.2.2.2.2.2.2.1)) 25 (nI (sgS nn ht lys fa mk)))), bA g (b 2) 1400 jj.2.2.2.2.2.2.1, bA g (b 4) 32 jj.2.2.2.2.2.2.2.1, iA g (b 5) 64 jj.1, iA g (b 6) 8 jj.2.1, iA g (b 7) 8 fs, iA g (b 8) 64 rt, lA g (b 9) 25 jj.2.2.1, lA g (b 10) 25 jj.2.2.2.1, lA g (b 11) 5 jj.2.2.2.2.1, iA g (b 12) 25 tn, bA g (b 23) 48 sd, bA g (b 0) 600 tp, iA g (b 29) 40 jj.2.2.2.2.2.2.2.2.2.2.2.1, bA g (b 30) 560 jj.2.2.2.2.2.2.2.2.2.2.2.2.1, bA g (b 31) 112 jj.2.2.2.2.2.2.2.2.2.2.2.2.2.1, bA g (b 32) 16 ro, bA g (b 33) 496 jj.2.2.2.2.2.2.2.2.2.2.2.2.2.2.1, bA g (b 34) 32 jj.2.2.2.2.2.2.2.2.2.2.2.2.2.2.2.1, bA g (b 35) 16 jj.2.2.2.2.2.2.2.2.2.2.2.2.2.2.2.2.2.2.2.2.2, bA g (b 36) 16 jj.2.2.2.2.2.2.2.2.2.2.2.2.2.2.2.2.1, iA g (b 37) 8 jj.2.2.2.2.2.2.2.2.2.2.2.2.2.2.2.2.2.1, bA g (b 38) 2000 jj.2.2.2.2.2.2.2.2.2.2.2.2.2.2.2.2.2.2.2.2.1, bA g (b 40) 96 jj.2.2.2.2.2.2.2.2.2.2.2.2.2.2.2.2.2.2.1, bA g (b 41) 16 jj.2.2.2.2.2.2.2.2.2.2.2.2.2.2.2.2.2.2.2.1]) := by
  refine jC.of (cc := cX11_sign) (own := RX11) (maxL := 2) (ret := (some .int)) (by decide +kernel) rfl rfl (Nat.le_of_ble_eq_true rfl) (fun u hu => ⟨_, rfl, rfl⟩) ?_
  intro p e s m below meth c A Q hX hret
  have in11 : ∀ w ∈ wsX110, w ∈ wsX11_sign := (fun w h => List.mem_cons_of_mem _ (List.mem_append_right _ h))
  have hnn : nn ≤ 16 := by omega
  refine j_iconst hX (0) dX11_sign_0 (by decide) ?_
  refine j_st [.int (nI 0)] rfl ?_
  refine j_istore_n hX 1 [(1, .int (nI 0)), (0, .ref h)] dX11_sign_1 rfl (by decide) rfl ?_
  have lp_1 : ∀ (n_2 : Nat) (k : Nat) (R1 : Nat → Int32), (nn - k < n_2) → (k ≤ nn) → (isB R1) → (R1 = putL rd 0 (slice sd 32 k)) → J p l e ({ frames := 10, cells := 0, slots := 0, locals := 241 } : Room) s m ([.ref h] : List Value).toArray below meth c g A 2 Q 0 0 [oB h 11 (mO b v), bA g (b 2) 1400 f, bA g (b 4) 32 dg, iA g (b 5) 64 w0, iA g (b 6) 8 S0, iA g (b 7) 8 fs, iA g (b 8) 64 rt, lA g (b 9) 25 A0, lA g (b 10) 25 T0, lA g (b 11) 5 U0, iA g (b 12) 25 tn, bA g (b 23) 48 sd, bA g (b 0) 600 tp, iA g (b 29) 40 D0, bA g (b 30) 560 e0, bA g (b 31) 112 nd, bA g (b 32) 16 ro, bA g (b 33) 496 fn, bA g (b 34) 32 pf, bA g (b 35) 16 R1, bA g (b 36) 16 mx, iA g (b 37) 8 xf, bA g (b 38) 2000 sg, bA g (b 40) 96 frf, bA g (b 41) 16 rw] [(0, .ref h), (1, .int (nI k))] 2 [] := by
    intro n_2
    induction n_2 with
    | zero => intro k R1 hm; exact absurd hm (Nat.not_lt_zero _)
    | succ n_2 ih_3 =>
      intro k R1 hm hk hR1 hF
      refine j_iload_n hX 1 dX11_sign_2 rfl ?_
      refine j_aload_n hX 0 dX11_sign_3 rfl ?_
      refine j_gete hX (nI nn) in11 11 0 16 rfl rfl (by decide) (List.mem_of_getElem? (i := 1) rfl) rfl rfl hv16 dX11_sign_4 ?_
      refine j_icmp_geN hX k nn 31 dX11_sign_7 (by decide) (by omega) (by omega) (fun b_7 => ?_) (fun b_7 => ?_)
      · skip
        refine j_aload_n hX 0 dX11_sign_31 rfl ?_
        refine j_pc 32 rfl ?_
        refine j_callV2 hX 0 (c_signMixedT l g h b v n0 f dg w0 S0 fs rt A0 T0 U0 tn sd tp ntp D0 e0 nd ro fn pf R1 mx xf sg frf rw fm nn ht lys fa mk hfs hrt htn hv3 hn0 hB hv1 hntp hTpB hEB hNB hRoB hFnB hPB hR1 hMxB hSgB hFrB hRwB hv15 hv16 hv17 hv18 hv19 hv20 hv21 hv24 hfm hnn4 hht hlys hfa hmk) gX11_sign_X11_signMixed (by decide +kernel) rfl ⟨rfl, rfl⟩ ⟨Nat.le_of_ble_eq_true rfl, Nat.le_of_ble_eq_true rfl⟩ 11 0 rfl rfl [0, 1, 2, 3, 4, 5, 6, 7, 8, 9, 10, 11, 12, 13, 14, 15, 16, 17, 18, 19, 20, 21, 22, 23, 24] [] 25 rfl (by decide) (fun jj : (Nat → Int32) × (Nat → Int32) × (Nat → Int64) × (Nat → Int64) × (Nat → Int64) × Nat × (Nat → Int32) × (Nat → Int32) × Nat × Nat × Nat × (Nat → Int32) × (Nat → Int32) × (Nat → Int32) × (Nat → Int32) × (Nat → Int32) × (Nat → Int32) × (Nat → Int32) × (Nat → Int32) × (Nat → Int32) × (Nat → Int32) => [oB h 11 (mO b (upd (upd (upd (upd (upd v 3 (nI jj.2.2.2.2.2.1)) 39 (nI jj.2.2.2.2.2.2.2.2.2.2.1)) 27 (nI jj.2.2.2.2.2.2.2.2.1)) 28 (nI jj.2.2.2.2.2.2.2.2.2.1)) 25 (nI (sgS nn ht lys fa mk)))), bA g (b 2) 1400 jj.2.2.2.2.2.2.1, bA g (b 4) 32 jj.2.2.2.2.2.2.2.1, iA g (b 5) 64 jj.1, iA g (b 6) 8 jj.2.1, iA g (b 7) 8 fs, iA g (b 8) 64 rt, lA g (b 9) 25 jj.2.2.1, lA g (b 10) 25 jj.2.2.2.1, lA g (b 11) 5 jj.2.2.2.2.1, iA g (b 12) 25 tn, bA g (b 23) 48 sd, bA g (b 0) 600 tp, iA g (b 29) 40 jj.2.2.2.2.2.2.2.2.2.2.2.1, bA g (b 30) 560 jj.2.2.2.2.2.2.2.2.2.2.2.2.1, bA g (b 31) 112 jj.2.2.2.2.2.2.2.2.2.2.2.2.2.1, bA g (b 32) 16 ro, bA g (b 33) 496 jj.2.2.2.2.2.2.2.2.2.2.2.2.2.2.1, bA g (b 34) 32 jj.2.2.2.2.2.2.2.2.2.2.2.2.2.2.2.1, bA g (b 35) 16 R1, bA g (b 36) 16 jj.2.2.2.2.2.2.2.2.2.2.2.2.2.2.2.2.1, iA g (b 37) 8 jj.2.2.2.2.2.2.2.2.2.2.2.2.2.2.2.2.2.1, bA g (b 38) 2000 jj.2.2.2.2.2.2.2.2.2.2.2.2.2.2.2.2.2.2.2.2, bA g (b 40) 96 jj.2.2.2.2.2.2.2.2.2.2.2.2.2.2.2.2.2.2.1, bA g (b 41) 16 jj.2.2.2.2.2.2.2.2.2.2.2.2.2.2.2.2.2.2.2.1]) (fun _ => rfl) (by decide) [h, (b 2), (b 4), (b 5), (b 6), (b 7), (b 8), (b 9), (b 10), (b 11), (b 12), (b 23), (b 0), (b 29), (b 30), (b 31), (b 32), (b 33), (b 34), (b 35), (b 36), (b 37), (b 38), (b 40), (b 41)] rfl (fun _ => rfl) (fun _ => rfl) [] rfl (fun _ => rfl) rfl [] rfl (Nat.le_of_ble_eq_true rfl) ⟨Nat.le_refl _, Nat.le_refl _⟩ dX11_sign_32 ?_
        rintro ⟨w1_, S1_, A1_, T1_, U1_, nl_, G_, FO_, ly2_, tr2_, at2_, D2_, E2_, N2_, FN2_, P2_, M2_, X2_, FR2_, R2_, SF_⟩ hS
        try dsimp only at hS
        refine j_w [oB h 11 (mO b (upd (upd (upd (upd (upd v 3 (nI nl_)) 39 (nI at2_)) 27 (nI ly2_)) 28 (nI tr2_)) 25 (nI (sgS nn ht lys fa mk)))), bA g (b 2) 1400 G_, bA g (b 4) 32 FO_, iA g (b 5) 64 w1_, iA g (b 6) 8 S1_, iA g (b 7) 8 fs, iA g (b 8) 64 rt, lA g (b 9) 25 A1_, lA g (b 10) 25 T1_, lA g (b 11) 5 U1_, iA g (b 12) 25 tn, bA g (b 23) 48 sd, bA g (b 0) 600 tp, iA g (b 29) 40 D2_, bA g (b 30) 560 E2_, bA g (b 31) 112 N2_, bA g (b 32) 16 ro, bA g (b 33) 496 FN2_, bA g (b 34) 32 P2_, bA g (b 35) 16 R1, bA g (b 36) 16 M2_, iA g (b 37) 8 X2_, bA g (b 38) 2000 SF_, bA g (b 40) 96 FR2_, bA g (b 41) 16 R2_] rfl ?_
        refine j_st [.int (nI (sgS nn ht lys fa mk))] rfl ?_
        rw [show slice R1 0 nn = (slice sd 32 nn) by rw [hF, show k = nn by omega, slice_put (by rw [slice_length])]] at hS
        exact hret (w1_, S1_, A1_, T1_, U1_, nl_, G_, FO_, ly2_, tr2_, at2_, D2_, E2_, N2_, FN2_, P2_, M2_, X2_, FR2_, R2_, SF_, R1) (by dsimp only; exact ⟨hR1, hS⟩) 35 _ .ireturn dX11_sign_35 rfl
      · skip
        refine j_aload_n hX 0 dX11_sign_10 rfl ?_
        refine j_get hX in11 11 0 35 (v := .ref (b 35)) rfl rfl (by decide) (List.mem_of_getElem? (i := 2) rfl) rfl rfl dX11_sign_11 ?_
        refine j_iload_n hX 1 dX11_sign_14 rfl ?_
        refine j_aload_n hX 0 dX11_sign_15 rfl ?_
        refine j_get hX in11 11 0 23 (v := .ref (b 23)) rfl rfl (by decide) (List.mem_of_getElem? (i := 3) rfl) rfl rfl dX11_sign_16 ?_
        refine j_bipush hX (32) dX11_sign_19 (by decide) ?_
        refine j_pc 21 rfl ?_
        refine j_iload_n hX 1 dX11_sign_21 rfl ?_
        refine j_iaddN hX 32 k dX11_sign_22 ?_
        refine j_baldN hX 11 (32 + k) rfl (by omega) (by omega) dX11_sign_23 ?_
        refine j_bastN hX 19 k rfl (by omega) (by omega) [oB h 11 (mO b v), bA g (b 2) 1400 f, bA g (b 4) 32 dg, iA g (b 5) 64 w0, iA g (b 6) 8 S0, iA g (b 7) 8 fs, iA g (b 8) 64 rt, lA g (b 9) 25 A0, lA g (b 10) 25 T0, lA g (b 11) 5 U0, iA g (b 12) 25 tn, bA g (b 23) 48 sd, bA g (b 0) 600 tp, iA g (b 29) 40 D0, bA g (b 30) 560 e0, bA g (b 31) 112 nd, bA g (b 32) 16 ro, bA g (b 33) 496 fn, bA g (b 34) 32 pf, bA g (b 35) 16 (upd R1 k (i8 (sd (32 + k)))), bA g (b 36) 16 mx, iA g (b 37) 8 xf, bA g (b 38) 2000 sg, bA g (b 40) 96 frf, bA g (b 41) 16 rw] rfl dX11_sign_24 ?_
        refine j_iincN hX k (k + 1) [(1, .int (nI (k + 1))), (0, .ref h)] 1 dX11_sign_25 rfl (nI_1 _) (by decide) rfl ?_
        refine j_goto hX 2 dX11_sign_28 (by decide) ?_
        refine j_perm [(0, .ref h), (1, .int (nI (k + 1)))] [1, 0] rfl ?_
        exact ih_3 (k + 1) (upd R1 k (i8 (sd (32 + k)))) (by omega) (by omega) (isB_upd hR1) (by have h9 := slice_put_step hB hF; rw [Nat.zero_add] at h9; exact h9)
  refine j_perm [(0, .ref h), (1, .int (nI 0))] [1, 0] rfl ?_
  exact lp_1 _ 0 rd (Nat.lt_succ_self _) (by omega) hRdB (by rw [slice_zero, putL_nil])

set_option maxHeartbeats 4000000 in
set_option maxRecDepth 100000 in
/-- the reference: sign, no key -/
theorem c_msignF (l : Launch) (g : jG) (h : Nat) (b : Nat → Nat) (v : Nat → Int32) (nn : Nat) (rd : Nat → Int32) (sd : Nat → Int32) (hv16 : v 16 = nI nn) (hnn : nn ≤ 16) (hv24 : v 24 = nI 0) (hRdB : isB rd) (hB : isB sd) : jC l g yX11_sign wsX11_sign ({ frames := 10, cells := 0, slots := 0, locals := 241 } : Room) [.ref h] [oB h 11 (mO b v), bA g (b 35) 16 rd, bA g (b 23) 48 sd] (fun jj : (Nat → Int32) => some (.int (-3))) (fun jj : (Nat → Int32) => isB jj) (fun jj : (Nat → Int32) => [oB h 11 (mO b v), bA g (b 35) 16 jj, bA g (b 23) 48 sd]) := by
  refine jC.of (cc := cX11_sign) (own := RX11) (maxL := 2) (ret := (some .int)) (by decide +kernel) rfl rfl (Nat.le_of_ble_eq_true rfl) (fun u hu => ⟨_, rfl, rfl⟩) ?_
  intro p e s m below meth c A Q hX hret
  have in11 : ∀ w ∈ wsX110, w ∈ wsX11_sign := (fun w h => List.mem_cons_of_mem _ (List.mem_append_right _ h))
  refine j_iconst hX (0) dX11_sign_0 (by decide) ?_
  refine j_st [.int (nI 0)] rfl ?_
  refine j_istore_n hX 1 [(1, .int (nI 0)), (0, .ref h)] dX11_sign_1 rfl (by decide) rfl ?_
  have lp_1 : ∀ (n_2 : Nat) (k : Nat) (R1 : Nat → Int32), (nn - k < n_2) → (k ≤ nn) → (isB R1) → (R1 = putL rd 0 (slice sd 32 k)) → J p l e ({ frames := 10, cells := 0, slots := 0, locals := 241 } : Room) s m ([.ref h] : List Value).toArray below meth c g A 2 Q 0 0 [oB h 11 (mO b v), bA g (b 35) 16 R1, bA g (b 23) 48 sd] [(0, .ref h), (1, .int (nI k))] 2 [] := by
    intro n_2
    induction n_2 with
    | zero => intro k R1 hm; exact absurd hm (Nat.not_lt_zero _)
    | succ n_2 ih_3 =>
      intro k R1 hm hk hR1 hF
      refine j_iload_n hX 1 dX11_sign_2 rfl ?_
      refine j_aload_n hX 0 dX11_sign_3 rfl ?_
      refine j_gete hX (nI nn) in11 11 0 16 rfl rfl (by decide) (List.mem_of_getElem? (i := 1) rfl) rfl rfl hv16 dX11_sign_4 ?_
      refine j_icmp_geN hX k nn 31 dX11_sign_7 (by decide) (by omega) (by omega) (fun b_7 => ?_) (fun b_7 => ?_)
      · skip
        refine j_aload_n hX 0 dX11_sign_31 rfl ?_
        refine j_pc 32 rfl ?_
        refine j_callV2 hX 0 (c_signMixedF l g h b v hv24) gX11_sign_X11_signMixed (by decide +kernel) rfl ⟨rfl, rfl⟩ ⟨Nat.le_of_ble_eq_true rfl, Nat.le_of_ble_eq_true rfl⟩ 11 0 rfl rfl [0] [1, 2] 3 rfl (by decide) (fun jj : Unit => [oB h 11 (mO b v), bA g (b 35) 16 R1, bA g (b 23) 48 sd]) (fun _ => rfl) (by decide) [h, (b 35), (b 23)] rfl (fun _ => rfl) (fun _ => rfl) [bA g (b 35) 16 R1, bA g (b 23) 48 sd] rfl (fun _ => rfl) rfl [] rfl (Nat.le_of_ble_eq_true rfl) ⟨Nat.le_refl _, Nat.le_refl _⟩ dX11_sign_32 ?_
        intro _ hu_4
        refine j_w [oB h 11 (mO b v), bA g (b 35) 16 R1, bA g (b 23) 48 sd] rfl ?_
        refine j_st [.int (-3)] rfl ?_
        exact hret R1 hR1 35 _ .ireturn dX11_sign_35 rfl
      · skip
        refine j_aload_n hX 0 dX11_sign_10 rfl ?_
        refine j_get hX in11 11 0 35 (v := .ref (b 35)) rfl rfl (by decide) (List.mem_of_getElem? (i := 2) rfl) rfl rfl dX11_sign_11 ?_
        refine j_iload_n hX 1 dX11_sign_14 rfl ?_
        refine j_aload_n hX 0 dX11_sign_15 rfl ?_
        refine j_get hX in11 11 0 23 (v := .ref (b 23)) rfl rfl (by decide) (List.mem_of_getElem? (i := 3) rfl) rfl rfl dX11_sign_16 ?_
        refine j_bipush hX (32) dX11_sign_19 (by decide) ?_
        refine j_pc 21 rfl ?_
        refine j_iload_n hX 1 dX11_sign_21 rfl ?_
        refine j_iaddN hX 32 k dX11_sign_22 ?_
        refine j_baldN hX 2 (32 + k) rfl (by omega) (by omega) dX11_sign_23 ?_
        refine j_bastN hX 1 k rfl (by omega) (by omega) [oB h 11 (mO b v), bA g (b 35) 16 (upd R1 k (i8 (sd (32 + k)))), bA g (b 23) 48 sd] rfl dX11_sign_24 ?_
        refine j_iincN hX k (k + 1) [(1, .int (nI (k + 1))), (0, .ref h)] 1 dX11_sign_25 rfl (nI_1 _) (by decide) rfl ?_
        refine j_goto hX 2 dX11_sign_28 (by decide) ?_
        refine j_perm [(0, .ref h), (1, .int (nI (k + 1)))] [1, 0] rfl ?_
        exact ih_3 (k + 1) (upd R1 k (i8 (sd (32 + k)))) (by omega) (by omega) (isB_upd hR1) (by have h9 := slice_put_step hB hF; rw [Nat.zero_add] at h9; exact h9)
  refine j_perm [(0, .ref h), (1, .int (nI 0))] [1, 0] rfl ?_
  exact lp_1 _ 0 rd (Nat.lt_succ_self _) (by omega) hRdB (by rw [slice_zero, putL_nil])

set_option maxHeartbeats 4000000 in
set_option maxRecDepth 100000 in
/-- the reference: signWith -/
theorem c_msignWithT (l : Launch) (g : jG) (h : Nat) (b : Nat → Nat) (v : Nat → Int32) (n0 : Nat) (f : Nat → Int32) (dg : Nat → Int32) (w0 : Nat → Int32) (S0 : Nat → Int32) (fs : Nat → Int32) (rt : Nat → Int32) (A0 : Nat → Int64) (T0 : Nat → Int64) (U0 : Nat → Int64) (tn : Nat → Int32) (sd : Nat → Int32) (tp : Nat → Int32) (ntp : Nat) (D0 : Nat → Int32) (e0 : Nat → Int32) (nd : Nat → Int32) (ro : Nat → Int32) (fn : Nat → Int32) (pf : Nat → Int32) (rd : Nat → Int32) (mx : Nat → Int32) (xf : Nat → Int32) (sg : Nat → Int32) (frf : Nat → Int32) (rw : Nat → Int32) (fm : Nat) (nn : Nat) (ht : Nat) (lys : Nat) (fa : Nat) (mk : Nat) (xh : Int64) (xw : Int64) (hfs : ∀ j, j < 8 → fs j = s_first.getD j 0) (hrt : ∀ j, j < 64 → rt j = s_cube.getD j 0) (htn : ∀ k, k < 25 → tn k = s_turns.getD k 0) (hv3 : v 3 = nI n0) (hn0 : n0 ≤ 1400) (hB : isB sd) (hv1 : v 1 = nI ntp) (hntp : ntp ≤ 600) (hTpB : isB tp) (hEB : isB e0) (hNB : isB nd) (hRoB : isB ro) (hFnB : isB fn) (hPB : isB pf) (hRdB : isB rd) (hMxB : isB mx) (hSgB : isB sg) (hFrB : isB frf) (hRwB : isB rw) (hv15 : v 15 = nI fm) (hv16 : v 16 = nI nn) (hv17 : v 17 = nI ht) (hv18 : v 18 = nI lys) (hv19 : v 19 = nI fa) (hv20 : v 20 = nI mk) (hv21 : v 21 = nI (ln nn)) (hv24 : v 24 = nI 1) (hfm : fm < 2) (hnn4 : nn = 4 ∨ nn = 8 ∨ nn = 12 ∨ nn = 16) (hht : 1 ≤ ht ∧ ht ≤ 2) (hlys : 1 ≤ lys ∧ lys ≤ 2) (hfa : 1 ≤ fa ∧ fa ≤ 4) (hmk : 1 ≤ mk ∧ mk ≤ 6) : jC l g yX11_signWith wsX11_signWith ({ frames := 10, cells := 0, slots := 0, locals := 241 } : Room) [.ref h, .long xh, .long xw] [oB h 11 (mO b v), bA g (b 2) 1400 f, bA g (b 4) 32 dg, iA g (b 5) 64 w0, iA g (b 6) 8 S0, iA g (b 7) 8 fs, iA g (b 8) 64 rt, lA g (b 9) 25 A0, lA g (b 10) 25 T0, lA g (b 11) 5 U0, iA g (b 12) 25 tn, bA g (b 23) 48 sd, bA g (b 0) 600 tp, iA g (b 29) 40 D0, bA g (b 30) 560 e0, bA g (b 31) 112 nd, bA g (b 32) 16 ro, bA g (b 33) 496 fn, bA g (b 34) 32 pf, bA g (b 35) 16 rd, bA g (b 36) 16 mx, iA g (b 37) 8 xf, bA g (b 38) 2000 sg, bA g (b 40) 96 frf, bA g (b 41) 16 rw] (fun jj : (Nat → Int32) × (Nat → Int32) × (Nat → Int64) × (Nat → Int64) × (Nat → Int64) × Nat × (Nat → Int32) × (Nat → Int32) × Nat × Nat × Nat × (Nat → Int32) × (Nat → Int32) × (Nat → Int32) × (Nat → Int32) × (Nat → Int32) × (Nat → Int32) × (Nat → Int32) × (Nat → Int32) × (Nat → Int32) × (Nat → Int32) × (Nat → Int32) => some (.int (nI (sgS nn ht lys fa mk)))) (fun jj : (Nat → Int32) × (Nat → Int32) × (Nat → Int64) × (Nat → Int64) × (Nat → Int64) × Nat × (Nat → Int32) × (Nat → Int32) × Nat × Nat × Nat × (Nat → Int32) × (Nat → Int32) × (Nat → Int32) × (Nat → Int32) × (Nat → Int32) × (Nat → Int32) × (Nat → Int32) × (Nat → Int32) × (Nat → Int32) × (Nat → Int32) × (Nat → Int32) => isB jj.2.2.2.2.2.2.2.2.2.2.2.2.2.2.2.2.2.2.2.2.2 ∧ jj.2.2.2.2.2.1 ≤ 1400 ∧ (isB jj.2.2.2.2.2.2.2.2.2.2.2.2.1 ∧ isB jj.2.2.2.2.2.2.2.2.2.2.2.2.2.1 ∧ isB jj.2.2.2.2.2.2.2.2.2.2.2.2.2.2.1 ∧ isB jj.2.2.2.2.2.2.2.2.2.2.2.2.2.2.2.1 ∧ isB jj.2.2.2.2.2.2.2.2.2.2.2.2.2.2.2.2.1 ∧ isB jj.2.2.2.2.2.2.2.2.2.2.2.2.2.2.2.2.2.2.1 ∧ isB jj.2.2.2.2.2.2.2.2.2.2.2.2.2.2.2.2.2.2.2.1) ∧ isB jj.2.2.2.2.2.2.2.2.2.2.2.2.2.2.2.2.2.2.2.2.1 ∧ jj.2.2.2.2.2.2.2.2.2.2.2.2.2.2.2.2.2.2.2.2.1 = putL sg 0 (SIG fm nn sd ht lys fa mk ((Zl xh 8 ++ Zl xw 8).take nn) (slice ro 0 nn) (slice tp 0 ntp)) ∧ ∀ j, j < 8 → jj.2.2.2.2.2.2.2.2.2.2.2.2.2.2.2.2.2.1 j = ixV (IXS fm nn sd ht lys fa mk (MIXED fm nn sd ((Zl xh 8 ++ Zl xw 8).take nn) (slice tp 0 ntp)) (slice ro 0 nn) (slice tp 0 ntp)) mk j) (fun jj : (Nat → Int32) × (Nat → Int32) × (Nat → Int64) × (Nat → Int64) × (Nat → Int64) × Nat × (Nat → Int32) × (Nat → Int32) × Nat × Nat × Nat × (Nat → Int32) × (Nat → Int32) × (Nat → Int32) × (Nat → Int32) × (Nat → Int32) × (Nat → Int32) × (Nat → Int32) × (Nat → Int32) × (Nat → Int32) × (Nat → Int32) × (Nat → Int32) => [oB h 11 (mO b (upd (upd (upd (upd (upd v 3 (nI jj.2.2.2.2.2.1)) 39 (nI jj.2.2.2.2.2.2.2.2.2.2.1)) 27 (nI jj.2.2.2.2.2.2.2.2.1)) 28 (nI jj.2.2.2.2.2.2.2.2.2.1)) 25 (nI (sgS nn ht lys fa mk)))), bA g (b 2) 1400 jj.2.2.2.2.2.2.1, bA g (b 4) 32 jj.2.2.2.2.2.2.2.1, iA g (b 5) 64 jj.1, iA g (b 6) 8 jj.2.1, iA g (b 7) 8 fs, iA g (b 8) 64 rt, lA g (b 9) 25 jj.2.2.1, lA g (b 10) 25 jj.2.2.2.1, lA g (b 11) 5 jj.2.2.2.2.1, iA g (b 12) 25 tn, bA g (b 23) 48 sd, bA g (b 0) 600 tp, iA g (b 29) 40 jj.2.2.2.2.2.2.2.2.2.2.2.1, bA g (b 30) 560 jj.2.2.2.2.2.2.2.2.2.2.2.2.1, bA g (b 31) 112 jj.2.2.2.2.2.2.2.2.2.2.2.2.2.1, bA g (b 32) 16 ro, bA g (b 33) 496 jj.2.2.2.2.2.2.2.2.2.2.2.2.2.2.1, bA g (b 34) 32 jj.2.2.2.2.2.2.2.2.2.2.2.2.2.2.2.1, bA g (b 35) 16 jj.2.2.2.2.2.2.2.2.2.2.2.2.2.2.2.2.2.2.2.2.2, bA g (b 36) 16 jj.2.2.2.2.2.2.2.2.2.2.2.2.2.2.2.2.1, iA g (b 37) 8 jj.2.2.2.2.2.2.2.2.2.2.2.2.2.2.2.2.2.1, bA g (b 38) 2000 jj.2.2.2.2.2.2.2.2.2.2.2.2.2.2.2.2.2.2.2.2.1, bA g (b 40) 96 jj.2.2.2.2.2.2.2.2.2.2.2.2.2.2.2.2.2.2.1, bA g (b 41) 16 jj.2.2.2.2.2.2.2.2.2.2.2.2.2.2.2.2.2.2.2.1]) := by
  refine jC.of (cc := cX11_signWith) (own := RX11) (maxL := 6) (ret := (some .int)) (by decide +kernel) rfl rfl (Nat.le_of_ble_eq_true rfl) (fun u hu => ⟨_, rfl, rfl⟩) ?_
  intro p e s m below meth c A Q hX hret
  have in11 : ∀ w ∈ wsX110, w ∈ wsX11_signWith := (fun w h => List.mem_cons_of_mem _ (List.mem_append_right _ h))
  have hnn : nn ≤ 16 := by omega
  refine j_iconst hX (0) dX11_signWith_0 (by decide) ?_
  refine j_st [.int (nI 0)] rfl ?_
  refine j_istore hX [(5, .int (nI 0)), (0, .ref h), (1, .long xh), (3, .long xw)] dX11_signWith_1 (by decide) rfl ?_
  have lp_1 : ∀ (n_2 : Nat) (k : Nat) (R1 : Nat → Int32), (nn - k < n_2) → (k ≤ nn) → (isB R1) → (R1 = putL rd 0 ((Zl xh 8 ++ Zl xw 8).take k)) → J p l e ({ frames := 10, cells := 0, slots := 0, locals := 241 } : Room) s m ([.ref h, .long xh, .long xw] : List Value).toArray below meth c g A 6 Q 0 0 [oB h 11 (mO b v), bA g (b 2) 1400 f, bA g (b 4) 32 dg, iA g (b 5) 64 w0, iA g (b 6) 8 S0, iA g (b 7) 8 fs, iA g (b 8) 64 rt, lA g (b 9) 25 A0, lA g (b 10) 25 T0, lA g (b 11) 5 U0, iA g (b 12) 25 tn, bA g (b 23) 48 sd, bA g (b 0) 600 tp, iA g (b 29) 40 D0, bA g (b 30) 560 e0, bA g (b 31) 112 nd, bA g (b 32) 16 ro, bA g (b 33) 496 fn, bA g (b 34) 32 pf, bA g (b 35) 16 R1, bA g (b 36) 16 mx, iA g (b 37) 8 xf, bA g (b 38) 2000 sg, bA g (b 40) 96 frf, bA g (b 41) 16 rw] [(0, .ref h), (1, .long xh), (3, .long xw), (5, .int (nI k))] 3 [] := by
    intro n_2
    induction n_2 with
    | zero => intro k R1 hm; exact absurd hm (Nat.not_lt_zero _)
    | succ n_2 ih_3 =>
      intro k R1 hm hk hR1 hF
      refine j_iload hX 3 dX11_signWith_3 rfl ?_
      refine j_aload_n hX 0 dX11_signWith_5 rfl ?_
      refine j_gete hX (nI nn) in11 11 0 16 rfl rfl (by decide) (List.mem_of_getElem? (i := 1) rfl) rfl rfl hv16 dX11_signWith_6 ?_
      refine j_icmp_geN hX k nn 57 dX11_signWith_9 (by decide) (by omega) (by omega) (fun b_9 => ?_) (fun b_9 => ?_)
      · skip
        refine j_aload_n hX 0 dX11_signWith_57 rfl ?_
        refine j_pc 58 rfl ?_
        refine j_callV2 hX 0 (c_signMixedT l g h b v n0 f dg w0 S0 fs rt A0 T0 U0 tn sd tp ntp D0 e0 nd ro fn pf R1 mx xf sg frf rw fm nn ht lys fa mk hfs hrt htn hv3 hn0 hB hv1 hntp hTpB hEB hNB hRoB hFnB hPB hR1 hMxB hSgB hFrB hRwB hv15 hv16 hv17 hv18 hv19 hv20 hv21 hv24 hfm hnn4 hht hlys hfa hmk) gX11_signWith_X11_signMixed (by decide +kernel) rfl ⟨rfl, rfl⟩ ⟨Nat.le_of_ble_eq_true rfl, Nat.le_of_ble_eq_true rfl⟩ 11 0 rfl rfl [0, 1, 2, 3, 4, 5, 6, 7, 8, 9, 10, 11, 12, 13, 14, 15, 16, 17, 18, 19, 20, 21, 22, 23, 24] [] 25 rfl (by decide) (fun jj : (Nat → Int32) × (Nat → Int32) × (Nat → Int64) × (Nat → Int64) × (Nat → Int64) × Nat × (Nat → Int32) × (Nat → Int32) × Nat × Nat × Nat × (Nat → Int32) × (Nat → Int32) × (Nat → Int32) × (Nat → Int32) × (Nat → Int32) × (Nat → Int32) × (Nat → Int32) × (Nat → Int32) × (Nat → Int32) × (Nat → Int32) => [oB h 11 (mO b (upd (upd (upd (upd (upd v 3 (nI jj.2.2.2.2.2.1)) 39 (nI jj.2.2.2.2.2.2.2.2.2.2.1)) 27 (nI jj.2.2.2.2.2.2.2.2.1)) 28 (nI jj.2.2.2.2.2.2.2.2.2.1)) 25 (nI (sgS nn ht lys fa mk)))), bA g (b 2) 1400 jj.2.2.2.2.2.2.1, bA g (b 4) 32 jj.2.2.2.2.2.2.2.1, iA g (b 5) 64 jj.1, iA g (b 6) 8 jj.2.1, iA g (b 7) 8 fs, iA g (b 8) 64 rt, lA g (b 9) 25 jj.2.2.1, lA g (b 10) 25 jj.2.2.2.1, lA g (b 11) 5 jj.2.2.2.2.1, iA g (b 12) 25 tn, bA g (b 23) 48 sd, bA g (b 0) 600 tp, iA g (b 29) 40 jj.2.2.2.2.2.2.2.2.2.2.2.1, bA g (b 30) 560 jj.2.2.2.2.2.2.2.2.2.2.2.2.1, bA g (b 31) 112 jj.2.2.2.2.2.2.2.2.2.2.2.2.2.1, bA g (b 32) 16 ro, bA g (b 33) 496 jj.2.2.2.2.2.2.2.2.2.2.2.2.2.2.1, bA g (b 34) 32 jj.2.2.2.2.2.2.2.2.2.2.2.2.2.2.2.1, bA g (b 35) 16 R1, bA g (b 36) 16 jj.2.2.2.2.2.2.2.2.2.2.2.2.2.2.2.2.1, iA g (b 37) 8 jj.2.2.2.2.2.2.2.2.2.2.2.2.2.2.2.2.2.1, bA g (b 38) 2000 jj.2.2.2.2.2.2.2.2.2.2.2.2.2.2.2.2.2.2.2.2, bA g (b 40) 96 jj.2.2.2.2.2.2.2.2.2.2.2.2.2.2.2.2.2.2.1, bA g (b 41) 16 jj.2.2.2.2.2.2.2.2.2.2.2.2.2.2.2.2.2.2.2.1]) (fun _ => rfl) (by decide) [h, (b 2), (b 4), (b 5), (b 6), (b 7), (b 8), (b 9), (b 10), (b 11), (b 12), (b 23), (b 0), (b 29), (b 30), (b 31), (b 32), (b 33), (b 34), (b 35), (b 36), (b 37), (b 38), (b 40), (b 41)] rfl (fun _ => rfl) (fun _ => rfl) [] rfl (fun _ => rfl) rfl [] rfl (Nat.le_of_ble_eq_true rfl) ⟨Nat.le_refl _, Nat.le_refl _⟩ dX11_signWith_58 ?_
        rintro ⟨w1_, S1_, A1_, T1_, U1_, nl_, G_, FO_, ly2_, tr2_, at2_, D2_, E2_, N2_, FN2_, P2_, M2_, X2_, FR2_, R2_, SF_⟩ hS
        try dsimp only at hS
        refine j_w [oB h 11 (mO b (upd (upd (upd (upd (upd v 3 (nI nl_)) 39 (nI at2_)) 27 (nI ly2_)) 28 (nI tr2_)) 25 (nI (sgS nn ht lys fa mk)))), bA g (b 2) 1400 G_, bA g (b 4) 32 FO_, iA g (b 5) 64 w1_, iA g (b 6) 8 S1_, iA g (b 7) 8 fs, iA g (b 8) 64 rt, lA g (b 9) 25 A1_, lA g (b 10) 25 T1_, lA g (b 11) 5 U1_, iA g (b 12) 25 tn, bA g (b 23) 48 sd, bA g (b 0) 600 tp, iA g (b 29) 40 D2_, bA g (b 30) 560 E2_, bA g (b 31) 112 N2_, bA g (b 32) 16 ro, bA g (b 33) 496 FN2_, bA g (b 34) 32 P2_, bA g (b 35) 16 R1, bA g (b 36) 16 M2_, iA g (b 37) 8 X2_, bA g (b 38) 2000 SF_, bA g (b 40) 96 FR2_, bA g (b 41) 16 R2_] rfl ?_
        refine j_st [.int (nI (sgS nn ht lys fa mk))] rfl ?_
        rw [show slice R1 0 nn = ((Zl xh 8 ++ Zl xw 8).take nn) by rw [hF, show k = nn by omega, slice_put (by rw [List.length_take, told_len]; omega)]] at hS
        exact hret (w1_, S1_, A1_, T1_, U1_, nl_, G_, FO_, ly2_, tr2_, at2_, D2_, E2_, N2_, FN2_, P2_, M2_, X2_, FR2_, R2_, SF_, R1) (by dsimp only; exact ⟨hR1, hS⟩) 61 _ .ireturn dX11_signWith_61 rfl
      · skip
        refine j_aload_n hX 0 dX11_signWith_12 rfl ?_
        refine j_get hX in11 11 0 35 (v := .ref (b 35)) rfl rfl (by decide) (List.mem_of_getElem? (i := 2) rfl) rfl rfl dX11_signWith_13 ?_
        refine j_iload hX 3 dX11_signWith_16 rfl ?_
        have jn_4 : ∀ (zz : Int64), (i8 zz.toInt32 = (Zl xh 8 ++ Zl xw 8).getD k 0) → J p l e ({ frames := 10, cells := 0, slots := 0, locals := 241 } : Room) s m ([.ref h, .long xh, .long xw] : List Value).toArray below meth c g A 6 Q 0 0 [oB h 11 (mO b v), bA g (b 2) 1400 f, bA g (b 4) 32 dg, iA g (b 5) 64 w0, iA g (b 6) 8 S0, iA g (b 7) 8 fs, iA g (b 8) 64 rt, lA g (b 9) 25 A0, lA g (b 10) 25 T0, lA g (b 11) 5 U0, iA g (b 12) 25 tn, bA g (b 23) 48 sd, bA g (b 0) 600 tp, iA g (b 29) 40 D0, bA g (b 30) 560 e0, bA g (b 31) 112 nd, bA g (b 32) 16 ro, bA g (b 33) 496 fn, bA g (b 34) 32 pf, bA g (b 35) 16 R1, bA g (b 36) 16 mx, iA g (b 37) 8 xf, bA g (b 38) 2000 sg, bA g (b 40) 96 frf, bA g (b 41) 16 rw] [(0, .ref h), (1, .long xh), (3, .long xw), (5, .int (nI k))] 48 [.long zz, .int (nI k), .ref (b 35)] := by
          intro zz hzz
          refine j_l2i hX dX11_signWith_48 ?_
          refine j_i2b hX dX11_signWith_49 ?_
          refine j_bast8 hX 19 k rfl (by omega) (by omega) [oB h 11 (mO b v), bA g (b 2) 1400 f, bA g (b 4) 32 dg, iA g (b 5) 64 w0, iA g (b 6) 8 S0, iA g (b 7) 8 fs, iA g (b 8) 64 rt, lA g (b 9) 25 A0, lA g (b 10) 25 T0, lA g (b 11) 5 U0, iA g (b 12) 25 tn, bA g (b 23) 48 sd, bA g (b 0) 600 tp, iA g (b 29) 40 D0, bA g (b 30) 560 e0, bA g (b 31) 112 nd, bA g (b 32) 16 ro, bA g (b 33) 496 fn, bA g (b 34) 32 pf, bA g (b 35) 16 (upd R1 k (i8 zz.toInt32)), bA g (b 36) 16 mx, iA g (b 37) 8 xf, bA g (b 38) 2000 sg, bA g (b 40) 96 frf, bA g (b 41) 16 rw] rfl dX11_signWith_50 ?_
          refine j_pc 51 rfl ?_
          refine j_iincN hX k (k + 1) [(5, .int (nI (k + 1))), (0, .ref h), (1, .long xh), (3, .long xw)] 3 dX11_signWith_51 rfl (nI_1 _) (by decide) rfl ?_
          refine j_goto hX 3 dX11_signWith_54 (by decide) ?_
          refine j_perm [(0, .ref h), (1, .long xh), (3, .long xw), (5, .int (nI (k + 1)))] [1, 2, 3, 0] rfl ?_
          exact ih_3 (k + 1) (upd R1 k (i8 zz.toInt32)) (by omega) (by omega) (isB_upd hR1) (take_put hF (by rw [told_len]; omega) hzz)
        refine j_iload hX 3 dX11_signWith_18 rfl ?_
        refine j_bipush hX (8) dX11_signWith_20 (by decide) ?_
        refine j_icmp_geN hX k 8 38 dX11_signWith_22 (by decide) (by omega) (by omega) (fun b_22 => ?_) (fun b_22 => ?_)
        · skip
          refine j_lload_n hX 2 dX11_signWith_38 rfl ?_
          refine j_bipush hX (120) dX11_signWith_39 (by decide) ?_
          refine j_bipush hX (8) dX11_signWith_41 (by decide) ?_
          refine j_pc 43 rfl ?_
          refine j_iload hX 3 dX11_signWith_43 rfl ?_
          refine j_imulN hX 8 k dX11_signWith_45 ?_
          refine j_isubN hX 120 (8 * k) (by omega) dX11_signWith_46 ?_
          refine j_lshr hX dX11_signWith_47 ?_
          exact jn_4 (lshr xw (nI (120 - (8 * k)))) (by rw [told_get _ _ (by omega)]; first | (rw [if_pos (by omega)]) | (rw [if_neg (by omega)]))
        · skip
          refine j_lload_n hX 1 dX11_signWith_25 rfl ?_
          refine j_bipush hX (56) dX11_signWith_26 (by decide) ?_
          refine j_bipush hX (8) dX11_signWith_28 (by decide) ?_
          refine j_iload hX 3 dX11_signWith_30 rfl ?_
          refine j_pc 32 rfl ?_
          refine j_imulN hX 8 k dX11_signWith_32 ?_
          refine j_isubN hX 56 (8 * k) (by omega) dX11_signWith_33 ?_
          refine j_lshr hX dX11_signWith_34 ?_
          refine j_goto hX 48 dX11_signWith_35 (by decide) ?_
          exact jn_4 (lshr xh (nI (56 - (8 * k)))) (by rw [told_get _ _ (by omega)]; first | (rw [if_pos (by omega)]) | (rw [if_neg (by omega)]))
  refine j_perm [(0, .ref h), (1, .long xh), (3, .long xw), (5, .int (nI 0))] [1, 2, 3, 0] rfl ?_
  exact lp_1 _ 0 rd (Nat.lt_succ_self _) (by omega) hRdB (by rw [List.take_zero, putL_nil])

set_option maxHeartbeats 4000000 in
set_option maxRecDepth 100000 in
/-- the reference: signWith, no key -/
theorem c_msignWithF (l : Launch) (g : jG) (h : Nat) (b : Nat → Nat) (v : Nat → Int32) (nn : Nat) (rd : Nat → Int32) (xh : Int64) (xw : Int64) (hv16 : v 16 = nI nn) (hnn : nn ≤ 16) (hv24 : v 24 = nI 0) (hRdB : isB rd) : jC l g yX11_signWith wsX11_signWith ({ frames := 10, cells := 0, slots := 0, locals := 241 } : Room) [.ref h, .long xh, .long xw] [oB h 11 (mO b v), bA g (b 35) 16 rd] (fun jj : (Nat → Int32) => some (.int (-3))) (fun jj : (Nat → Int32) => isB jj) (fun jj : (Nat → Int32) => [oB h 11 (mO b v), bA g (b 35) 16 jj]) := by
  refine jC.of (cc := cX11_signWith) (own := RX11) (maxL := 6) (ret := (some .int)) (by decide +kernel) rfl rfl (Nat.le_of_ble_eq_true rfl) (fun u hu => ⟨_, rfl, rfl⟩) ?_
  intro p e s m below meth c A Q hX hret
  have in11 : ∀ w ∈ wsX110, w ∈ wsX11_signWith := (fun w h => List.mem_cons_of_mem _ (List.mem_append_right _ h))
  refine j_iconst hX (0) dX11_signWith_0 (by decide) ?_
  refine j_st [.int (nI 0)] rfl ?_
  refine j_istore hX [(5, .int (nI 0)), (0, .ref h), (1, .long xh), (3, .long xw)] dX11_signWith_1 (by decide) rfl ?_
  have lp_1 : ∀ (n_2 : Nat) (k : Nat) (R1 : Nat → Int32), (nn - k < n_2) → (k ≤ nn) → (isB R1) → (R1 = putL rd 0 ((Zl xh 8 ++ Zl xw 8).take k)) → J p l e ({ frames := 10, cells := 0, slots := 0, locals := 241 } : Room) s m ([.ref h, .long xh, .long xw] : List Value).toArray below meth c g A 6 Q 0 0 [oB h 11 (mO b v), bA g (b 35) 16 R1] [(0, .ref h), (1, .long xh), (3, .long xw), (5, .int (nI k))] 3 [] := by
    intro n_2
    induction n_2 with
    | zero => intro k R1 hm; exact absurd hm (Nat.not_lt_zero _)
    | succ n_2 ih_3 =>
      intro k R1 hm hk hR1 hF
      refine j_iload hX 3 dX11_signWith_3 rfl ?_
      refine j_aload_n hX 0 dX11_signWith_5 rfl ?_
      refine j_gete hX (nI nn) in11 11 0 16 rfl rfl (by decide) (List.mem_of_getElem? (i := 1) rfl) rfl rfl hv16 dX11_signWith_6 ?_
      refine j_icmp_geN hX k nn 57 dX11_signWith_9 (by decide) (by omega) (by omega) (fun b_9 => ?_) (fun b_9 => ?_)
      · skip
        refine j_aload_n hX 0 dX11_signWith_57 rfl ?_
        refine j_pc 58 rfl ?_
        refine j_callV2 hX 0 (c_signMixedF l g h b v hv24) gX11_signWith_X11_signMixed (by decide +kernel) rfl ⟨rfl, rfl⟩ ⟨Nat.le_of_ble_eq_true rfl, Nat.le_of_ble_eq_true rfl⟩ 11 0 rfl rfl [0] [1] 2 rfl (by decide) (fun jj : Unit => [oB h 11 (mO b v), bA g (b 35) 16 R1]) (fun _ => rfl) (by decide) [h, (b 35)] rfl (fun _ => rfl) (fun _ => rfl) [bA g (b 35) 16 R1] rfl (fun _ => rfl) rfl [] rfl (Nat.le_of_ble_eq_true rfl) ⟨Nat.le_refl _, Nat.le_refl _⟩ dX11_signWith_58 ?_
        intro _ hu_4
        refine j_w [oB h 11 (mO b v), bA g (b 35) 16 R1] rfl ?_
        refine j_st [.int (-3)] rfl ?_
        exact hret R1 hR1 61 _ .ireturn dX11_signWith_61 rfl
      · skip
        refine j_aload_n hX 0 dX11_signWith_12 rfl ?_
        refine j_get hX in11 11 0 35 (v := .ref (b 35)) rfl rfl (by decide) (List.mem_of_getElem? (i := 2) rfl) rfl rfl dX11_signWith_13 ?_
        refine j_iload hX 3 dX11_signWith_16 rfl ?_
        have jn_5 : ∀ (zz : Int64), (i8 zz.toInt32 = (Zl xh 8 ++ Zl xw 8).getD k 0) → J p l e ({ frames := 10, cells := 0, slots := 0, locals := 241 } : Room) s m ([.ref h, .long xh, .long xw] : List Value).toArray below meth c g A 6 Q 0 0 [oB h 11 (mO b v), bA g (b 35) 16 R1] [(0, .ref h), (1, .long xh), (3, .long xw), (5, .int (nI k))] 48 [.long zz, .int (nI k), .ref (b 35)] := by
          intro zz hzz
          refine j_l2i hX dX11_signWith_48 ?_
          refine j_i2b hX dX11_signWith_49 ?_
          refine j_bast8 hX 1 k rfl (by omega) (by omega) [oB h 11 (mO b v), bA g (b 35) 16 (upd R1 k (i8 zz.toInt32))] rfl dX11_signWith_50 ?_
          refine j_pc 51 rfl ?_
          refine j_iincN hX k (k + 1) [(5, .int (nI (k + 1))), (0, .ref h), (1, .long xh), (3, .long xw)] 3 dX11_signWith_51 rfl (nI_1 _) (by decide) rfl ?_
          refine j_goto hX 3 dX11_signWith_54 (by decide) ?_
          refine j_perm [(0, .ref h), (1, .long xh), (3, .long xw), (5, .int (nI (k + 1)))] [1, 2, 3, 0] rfl ?_
          exact ih_3 (k + 1) (upd R1 k (i8 zz.toInt32)) (by omega) (by omega) (isB_upd hR1) (take_put hF (by rw [told_len]; omega) hzz)
        refine j_iload hX 3 dX11_signWith_18 rfl ?_
        refine j_bipush hX (8) dX11_signWith_20 (by decide) ?_
        refine j_icmp_geN hX k 8 38 dX11_signWith_22 (by decide) (by omega) (by omega) (fun b_22 => ?_) (fun b_22 => ?_)
        · skip
          refine j_lload_n hX 2 dX11_signWith_38 rfl ?_
          refine j_bipush hX (120) dX11_signWith_39 (by decide) ?_
          refine j_bipush hX (8) dX11_signWith_41 (by decide) ?_
          refine j_pc 43 rfl ?_
          refine j_iload hX 3 dX11_signWith_43 rfl ?_
          refine j_imulN hX 8 k dX11_signWith_45 ?_
          refine j_isubN hX 120 (8 * k) (by omega) dX11_signWith_46 ?_
          refine j_lshr hX dX11_signWith_47 ?_
          exact jn_5 (lshr xw (nI (120 - (8 * k)))) (by rw [told_get _ _ (by omega)]; first | (rw [if_pos (by omega)]) | (rw [if_neg (by omega)]))
        · skip
          refine j_lload_n hX 1 dX11_signWith_25 rfl ?_
          refine j_bipush hX (56) dX11_signWith_26 (by decide) ?_
          refine j_bipush hX (8) dX11_signWith_28 (by decide) ?_
          refine j_iload hX 3 dX11_signWith_30 rfl ?_
          refine j_pc 32 rfl ?_
          refine j_imulN hX 8 k dX11_signWith_32 ?_
          refine j_isubN hX 56 (8 * k) (by omega) dX11_signWith_33 ?_
          refine j_lshr hX dX11_signWith_34 ?_
          refine j_goto hX 48 dX11_signWith_35 (by decide) ?_
          exact jn_5 (lshr xh (nI (56 - (8 * k)))) (by rw [told_get _ _ (by omega)]; first | (rw [if_pos (by omega)]) | (rw [if_neg (by omega)]))
  refine j_perm [(0, .ref h), (1, .long xh), (3, .long xw), (5, .int (nI 0))] [1, 2, 3, 0] rfl ?_
  exact lp_1 _ 0 rd (Nat.lt_succ_self _) (by omega) hRdB (by rw [List.take_zero, putL_nil])

