set_option maxHeartbeats 1000000 in
set_option maxRecDepth 100000 in
/-- Hasher.finish -/
theorem c_finish (l : Launch) (g : jG) (hh : Nat) (inr : Nat) (outr : Nat) (zo : Nat) (on : Nat) (sp : Nat) (fm : Nat) (nn : Nat) (ht : Nat) (lys : Nat) (fa : Nat) (mk : Nat) (sdr : Nat) (ly : Nat) (tr : Nat) (ina : Nat) (ni : Nat) (fi : Nat → Int32) (outa : Nat) (no : Nat) (fo : Nat → Int32) (sa : Nat) (wa : Nat) (S0 : Nat → Int32) (w0 : Nat → Int32) (aa : Nat) (ba : Nat) (A0 : Nat → Int64) (B0 : Nat → Int64) (tor : Nat) (toa : Nat) (nt : Nat) (tcap : Nat) (tf : Nat → Int32) (t : Nat) (hfm : fm < 2) (hnn : nn ≤ 16) (hni : ni + 72 ≤ 768) (hni1 : fm = 0 ∨ ni + 136 ≤ 768) (hno : no ≤ 32) (hBo : isB fo) (hnt : nt ≤ tcap) (htc : tcap < 2 ^ 31) (htt : t ≤ nt) (htn : t + nn ≤ tcap) : jC l g yX5_finish wsX5_finish ({ frames := 2, cells := 0, slots := 0, locals := 65 } : Room) [.ref hh, .ref tor, .int (nI t)] [oB hh 5 [.ref inr, .ref outr, .ref zo, .ref on, .ref sp, .ref sdr, .int (nI ly), .int (nI tr)], oB sp 8 [.int (nI fm), .int (nI nn), .int (nI ht), .int (nI lys), .int (nI fa), .int (nI mk)], oB inr 7 [.ref ina, .int (nI ni)], bA g ina 768 fi, oB outr 7 [.ref outa, .int (nI no)], bA g outa 32 fo, oB zo 4 [.ref sa, .ref wa], iA g sa 8 S0, iA g wa 64 w0, oB on 3 [.ref aa, .ref ba], lA g aa 25 A0, lA g ba 25 B0, oB tor 7 [.ref toa, .int (nI nt)], bA g toa tcap tf] (fun jj : (Nat → Int32) × (Nat → Int32) × (Nat → Int64) × (Nat → Int64) × Nat × (Nat → Int32) × (Nat → Int32) × (Nat → Int32) => none) (fun jj : (Nat → Int32) × (Nat → Int32) × (Nat → Int64) × (Nat → Int64) × Nat × (Nat → Int32) × (Nat → Int32) × (Nat → Int32) => jj.2.2.2.2.1 ≤ 768 ∧ isB jj.2.2.2.2.2.2.1 ∧ jj.2.2.2.2.2.2.2 = putL tf t ((HH fm (slice fi 0 ni)).take nn)) (fun jj : (Nat → Int32) × (Nat → Int32) × (Nat → Int64) × (Nat → Int64) × Nat × (Nat → Int32) × (Nat → Int32) × (Nat → Int32) => [oB hh 5 [.ref inr, .ref outr, .ref zo, .ref on, .ref sp, .ref sdr, .int (nI ly), .int (nI tr)], oB sp 8 [.int (nI fm), .int (nI nn), .int (nI ht), .int (nI lys), .int (nI fa), .int (nI mk)], oB inr 7 [.ref ina, .int (nI jj.2.2.2.2.1)], bA g ina 768 jj.2.2.2.2.2.1, oB outr 7 [.ref outa, .int (nI 32)], bA g outa 32 jj.2.2.2.2.2.2.1, oB zo 4 [.ref sa, .ref wa], iA g sa 8 jj.1, iA g wa 64 jj.2.1, oB on 3 [.ref aa, .ref ba], lA g aa 25 jj.2.2.1, lA g ba 25 jj.2.2.2.1, oB tor 7 [.ref toa, .int (nI (max nt (t + nn)))], bA g toa tcap jj.2.2.2.2.2.2.2]) := by
  refine jC.of (cc := cX5_finish) (own := RX5) (maxL := 3) (ret := none) (by decide +kernel) rfl rfl (Nat.le_of_ble_eq_true rfl) (fun u hu => rfl) ?_
  intro p e s m below meth c A Q hX hret
  have in5 : ∀ w ∈ wsX50, w ∈ wsX5_finish := (fun w h => List.mem_cons_of_mem _ (List.mem_append_left _ (List.mem_append_left _ (List.mem_append_left _ (List.mem_append_left _ (List.mem_append_right _ h))))))
  have in8 : ∀ w ∈ wsX80, w ∈ wsX5_finish := (fun w h => List.mem_cons_of_mem _ (List.mem_append_left _ (List.mem_append_left _ (List.mem_append_left _ (List.mem_append_right _ h)))))
  by_cases h0 : fm = 0
  · skip
    refine j_aload_n hX 0 dX5_finish_0 rfl ?_
    refine j_aload_n hX 0 dX5_finish_1 rfl ?_
    refine j_get hX in5 5 0 4 (v := .ref sp) rfl rfl (by decide) (List.mem_of_getElem? (i := 1) rfl) rfl rfl dX5_finish_2 ?_
    refine j_get hX in8 8 1 0 (v := .int (nI fm)) rfl rfl (by decide) (List.mem_of_getElem? (i := 2) rfl) rfl rfl dX5_finish_5 ?_
    refine j_callV hX 1 (c_ofForm0 l g hh inr outr zo on sp fm 0 0 0 0 0 sdr ly tr h0 (by omega)) gX5_finish_X5_ofForm (by decide +kernel) rfl ⟨rfl, rfl⟩ ⟨Nat.le_of_ble_eq_true rfl, Nat.le_of_ble_eq_true rfl⟩ 5 0 rfl rfl [0] rfl (by decide) (fun _ => rfl) rfl [] rfl (Nat.le_of_ble_eq_true rfl) ⟨Nat.le_refl _, Nat.le_refl _⟩ dX5_finish_8 ?_
    intro _ hu_1
    refine j_w [oB hh 5 [.ref inr, .ref outr, .ref zo, .ref on, .ref sp, .ref sdr, .int (nI ly), .int (nI tr)], oB sp 8 [.int (nI fm), .int (nI nn), .int (nI ht), .int (nI lys), .int (nI fa), .int (nI mk)], oB inr 7 [.ref ina, .int (nI ni)], bA g ina 768 fi, oB outr 7 [.ref outa, .int (nI no)], bA g outa 32 fo, oB zo 4 [.ref sa, .ref wa], iA g sa 8 S0, iA g wa 64 w0, oB on 3 [.ref aa, .ref ba], lA g aa 25 A0, lA g ba 25 B0, oB tor 7 [.ref toa, .int (nI nt)], bA g toa tcap tf] rfl ?_
    refine j_st [.ref zo] rfl ?_
    refine j_aload_n hX 0 dX5_finish_11 rfl ?_
    refine j_get hX in5 5 0 0 (v := .ref inr) rfl rfl (by decide) (List.mem_of_getElem? (i := 3) rfl) rfl rfl dX5_finish_12 ?_
    refine j_pc 15 rfl ?_
    refine j_aload_n hX 0 dX5_finish_15 rfl ?_
    refine j_get hX in5 5 0 1 (v := .ref outr) rfl rfl (by decide) (List.mem_of_getElem? (i := 4) rfl) rfl rfl dX5_finish_16 ?_
    refine j_callA hX 2 (c_digest0 l g zo sa wa S0 w0 inr ina ni 768 fi outr outa no fo (by omega) (by omega) (by omega)) gX5_finish_X4_digest_u73X4 rfl (by decide +kernel) rfl ⟨rfl, rfl⟩ ⟨Nat.le_of_ble_eq_true rfl, Nat.le_of_ble_eq_true rfl⟩ 4 6 rfl rfl [6, 7, 8, 2, 3, 4, 5] rfl (by decide) (fun _ => rfl) rfl [] rfl (Nat.le_of_ble_eq_true rfl) ⟨Nat.le_refl _, Nat.le_refl _⟩ dX5_finish_19 ?_
    rintro ⟨S5, w5, nl5, G5, FO5⟩ hW
    try dsimp only at hW
    refine j_w [oB hh 5 [.ref inr, .ref outr, .ref zo, .ref on, .ref sp, .ref sdr, .int (nI ly), .int (nI tr)], oB sp 8 [.int (nI fm), .int (nI nn), .int (nI ht), .int (nI lys), .int (nI fa), .int (nI mk)], oB inr 7 [.ref ina, .int (nI nl5)], bA g ina 768 G5, oB outr 7 [.ref outa, .int (nI 32)], bA g outa 32 FO5, oB zo 4 [.ref sa, .ref wa], iA g sa 8 S5, iA g wa 64 w5, oB on 3 [.ref aa, .ref ba], lA g aa 25 A0, lA g ba 25 B0, oB tor 7 [.ref toa, .int (nI nt)], bA g toa tcap tf] rfl ?_
    refine j_st [] rfl ?_
    have hFB : isB FO5 := isB_fo hBo hW.2 (HASH0_B _)
    refine j_aload_n hX 1 dX5_finish_22 rfl ?_
    refine j_iload_n hX 2 dX5_finish_23 rfl ?_
    refine j_aload_n hX 0 dX5_finish_24 rfl ?_
    refine j_get hX in5 5 0 1 (v := .ref outr) rfl rfl (by decide) (List.mem_of_getElem? (i := 4) rfl) rfl rfl dX5_finish_25 ?_
    refine j_iconst hX (0) dX5_finish_28 (by decide) ?_
    refine j_pc 29 rfl ?_
    refine j_aload_n hX 0 dX5_finish_29 rfl ?_
    refine j_get hX in5 5 0 4 (v := .ref sp) rfl rfl (by decide) (List.mem_of_getElem? (i := 1) rfl) rfl rfl dX5_finish_30 ?_
    refine j_get hX in8 8 1 1 (v := .int (nI nn)) rfl rfl (by decide) (List.mem_of_getElem? (i := 5) rfl) rfl rfl dX5_finish_33 ?_
    refine j_callV hX 4 (c_lay l g tor toa nt tcap tf outr outa 32 32 FO5 t 0 nn (by omega) (by omega) (by omega) (by omega) hFB (by omega) (by omega) (by omega)) gX5_finish_X7_lay (by decide +kernel) rfl ⟨rfl, rfl⟩ ⟨Nat.le_of_ble_eq_true rfl, Nat.le_of_ble_eq_true rfl⟩ 7 12 rfl rfl [12, 13, 4, 5] rfl (by decide) (fun _ => rfl) rfl [] rfl (Nat.le_of_ble_eq_true rfl) ⟨Nat.le_refl _, Nat.le_refl _⟩ dX5_finish_36 ?_
    intro TO5 hT
    try dsimp only at hT
    refine j_w [oB hh 5 [.ref inr, .ref outr, .ref zo, .ref on, .ref sp, .ref sdr, .int (nI ly), .int (nI tr)], oB sp 8 [.int (nI fm), .int (nI nn), .int (nI ht), .int (nI lys), .int (nI fa), .int (nI mk)], oB inr 7 [.ref ina, .int (nI nl5)], bA g ina 768 G5, oB outr 7 [.ref outa, .int (nI 32)], bA g outa 32 FO5, oB zo 4 [.ref sa, .ref wa], iA g sa 8 S5, iA g wa 64 w5, oB on 3 [.ref aa, .ref ba], lA g aa 25 A0, lA g ba 25 B0, oB tor 7 [.ref toa, .int (nI (max nt (t + nn)))], bA g toa tcap TO5] rfl ?_
    refine j_st [] rfl ?_
    exact hret (S5, w5, A0, B0, nl5, G5, FO5, TO5) (by dsimp only; exact ⟨hW.1, hFB, by rw [hT, hW.2, slice_put_take (by rw [HASH0_length]; omega), HH, if_pos h0]⟩) 39 _ .return_ dX5_finish_39 rfl
  · skip
    refine j_aload_n hX 0 dX5_finish_0 rfl ?_
    refine j_aload_n hX 0 dX5_finish_1 rfl ?_
    refine j_get hX in5 5 0 4 (v := .ref sp) rfl rfl (by decide) (List.mem_of_getElem? (i := 1) rfl) rfl rfl dX5_finish_2 ?_
    refine j_pc 5 rfl ?_
    refine j_get hX in8 8 1 0 (v := .int (nI fm)) rfl rfl (by decide) (List.mem_of_getElem? (i := 2) rfl) rfl rfl dX5_finish_5 ?_
    refine j_callV hX 1 (c_ofForm1 l g hh inr outr zo on sp fm 0 0 0 0 0 sdr ly tr h0 (by omega)) gX5_finish_X5_ofForm (by decide +kernel) rfl ⟨rfl, rfl⟩ ⟨Nat.le_of_ble_eq_true rfl, Nat.le_of_ble_eq_true rfl⟩ 5 0 rfl rfl [0] rfl (by decide) (fun _ => rfl) rfl [] rfl (Nat.le_of_ble_eq_true rfl) ⟨Nat.le_refl _, Nat.le_refl _⟩ dX5_finish_8 ?_
    intro _ hu_2
    refine j_w [oB hh 5 [.ref inr, .ref outr, .ref zo, .ref on, .ref sp, .ref sdr, .int (nI ly), .int (nI tr)], oB sp 8 [.int (nI fm), .int (nI nn), .int (nI ht), .int (nI lys), .int (nI fa), .int (nI mk)], oB inr 7 [.ref ina, .int (nI ni)], bA g ina 768 fi, oB outr 7 [.ref outa, .int (nI no)], bA g outa 32 fo, oB zo 4 [.ref sa, .ref wa], iA g sa 8 S0, iA g wa 64 w0, oB on 3 [.ref aa, .ref ba], lA g aa 25 A0, lA g ba 25 B0, oB tor 7 [.ref toa, .int (nI nt)], bA g toa tcap tf] rfl ?_
    refine j_st [.ref on] rfl ?_
    refine j_aload_n hX 0 dX5_finish_11 rfl ?_
    refine j_get hX in5 5 0 0 (v := .ref inr) rfl rfl (by decide) (List.mem_of_getElem? (i := 3) rfl) rfl rfl dX5_finish_12 ?_
    refine j_aload_n hX 0 dX5_finish_15 rfl ?_
    refine j_get hX in5 5 0 1 (v := .ref outr) rfl rfl (by decide) (List.mem_of_getElem? (i := 4) rfl) rfl rfl dX5_finish_16 ?_
    refine j_callA hX 2 (c_digest1 l g on aa ba A0 B0 inr ina ni 768 fi outr outa no fo (by omega) (by omega) (by omega)) gX5_finish_X3_digest_u73X3 rfl (by decide +kernel) rfl ⟨rfl, rfl⟩ ⟨Nat.le_of_ble_eq_true rfl, Nat.le_of_ble_eq_true rfl⟩ 3 9 rfl rfl [9, 10, 11, 2, 3, 4, 5] rfl (by decide) (fun _ => rfl) rfl [] rfl (Nat.le_of_ble_eq_true rfl) ⟨Nat.le_refl _, Nat.le_refl _⟩ dX5_finish_19 ?_
    rintro ⟨A5, B5, nl5, G5, FO5⟩ hW
    try dsimp only at hW
    refine j_w [oB hh 5 [.ref inr, .ref outr, .ref zo, .ref on, .ref sp, .ref sdr, .int (nI ly), .int (nI tr)], oB sp 8 [.int (nI fm), .int (nI nn), .int (nI ht), .int (nI lys), .int (nI fa), .int (nI mk)], oB inr 7 [.ref ina, .int (nI nl5)], bA g ina 768 G5, oB outr 7 [.ref outa, .int (nI 32)], bA g outa 32 FO5, oB zo 4 [.ref sa, .ref wa], iA g sa 8 S0, iA g wa 64 w0, oB on 3 [.ref aa, .ref ba], lA g aa 25 A5, lA g ba 25 B5, oB tor 7 [.ref toa, .int (nI nt)], bA g toa tcap tf] rfl ?_
    refine j_st [] rfl ?_
    have hFB : isB FO5 := isB_fo hBo hW.2 (HASH1_B _)
    refine j_aload_n hX 1 dX5_finish_22 rfl ?_
    refine j_pc 23 rfl ?_
    refine j_iload_n hX 2 dX5_finish_23 rfl ?_
    refine j_aload_n hX 0 dX5_finish_24 rfl ?_
    refine j_get hX in5 5 0 1 (v := .ref outr) rfl rfl (by decide) (List.mem_of_getElem? (i := 4) rfl) rfl rfl dX5_finish_25 ?_
    refine j_iconst hX (0) dX5_finish_28 (by decide) ?_
    refine j_aload_n hX 0 dX5_finish_29 rfl ?_
    refine j_get hX in5 5 0 4 (v := .ref sp) rfl rfl (by decide) (List.mem_of_getElem? (i := 1) rfl) rfl rfl dX5_finish_30 ?_
    refine j_get hX in8 8 1 1 (v := .int (nI nn)) rfl rfl (by decide) (List.mem_of_getElem? (i := 5) rfl) rfl rfl dX5_finish_33 ?_
    refine j_callV hX 4 (c_lay l g tor toa nt tcap tf outr outa 32 32 FO5 t 0 nn (by omega) (by omega) (by omega) (by omega) hFB (by omega) (by omega) (by omega)) gX5_finish_X7_lay (by decide +kernel) rfl ⟨rfl, rfl⟩ ⟨Nat.le_of_ble_eq_true rfl, Nat.le_of_ble_eq_true rfl⟩ 7 12 rfl rfl [12, 13, 4, 5] rfl (by decide) (fun _ => rfl) rfl [] rfl (Nat.le_of_ble_eq_true rfl) ⟨Nat.le_refl _, Nat.le_refl _⟩ dX5_finish_36 ?_
    intro TO5 hT
    try dsimp only at hT
    refine j_w [oB hh 5 [.ref inr, .ref outr, .ref zo, .ref on, .ref sp, .ref sdr, .int (nI ly), .int (nI tr)], oB sp 8 [.int (nI fm), .int (nI nn), .int (nI ht), .int (nI lys), .int (nI fa), .int (nI mk)], oB inr 7 [.ref ina, .int (nI nl5)], bA g ina 768 G5, oB outr 7 [.ref outa, .int (nI 32)], bA g outa 32 FO5, oB zo 4 [.ref sa, .ref wa], iA g sa 8 S0, iA g wa 64 w0, oB on 3 [.ref aa, .ref ba], lA g aa 25 A5, lA g ba 25 B5, oB tor 7 [.ref toa, .int (nI (max nt (t + nn)))], bA g toa tcap TO5] rfl ?_
    refine j_st [] rfl ?_
    refine j_pc 39 rfl ?_
    exact hret (S0, w0, A5, B5, nl5, G5, FO5, TO5) (by dsimp only; exact ⟨hW.1, hFB, by rw [hT, hW.2, slice_put_take (by rw [HASH1_length]; omega), HH, if_neg h0]⟩) 39 _ .return_ dX5_finish_39 rfl

set_option maxHeartbeats 1000000 in
set_option maxRecDepth 100000 in
/-- Hasher.addSecret -/
theorem c_addSecret (l : Launch) (g : jG) (hh : Nat) (inr : Nat) (outr : Nat) (zo : Nat) (on : Nat) (sp : Nat) (fm : Nat) (nn : Nat) (ht : Nat) (lys : Nat) (fa : Nat) (mk : Nat) (sdr : Nat) (ly : Nat) (tr : Nat) (sda : Nat) (sd : Nat → Int32) (ina : Nat) (ni : Nat) (fi : Nat → Int32) (outa : Nat) (no : Nat) (fo : Nat → Int32) (sa : Nat) (wa : Nat) (S0 : Nat → Int32) (w0 : Nat → Int32) (aa : Nat) (ba : Nat) (A0 : Nat → Int64) (B0 : Nat → Int64) (tor : Nat) (toa : Nat) (nt : Nat) (tcap : Nat) (tf : Nat → Int32) (kd : Nat) (ku : Nat) (kv : Nat) (kw : Nat) (hfm : fm < 2) (hnn : nn ≤ 16) (hB : isB sd) (hno : no ≤ 32) (hBo : isB fo) (hnt : nt ≤ tcap) (htc : tcap < 2 ^ 31) (htn : nt + nn ≤ tcap) : jC l g yX5_addSecret wsX5_addSecret ({ frames := 3, cells := 0, slots := 0, locals := 90 } : Room) [.ref hh, .int (nI kd), .int (nI ku), .int (nI kv), .int (nI kw), .ref tor] [oB hh 5 [.ref inr, .ref outr, .ref zo, .ref on, .ref sp, .ref sdr, .int (nI ly), .int (nI tr)], oB sp 8 [.int (nI fm), .int (nI nn), .int (nI ht), .int (nI lys), .int (nI fa), .int (nI mk)], oB sdr 7 [.ref sda, .int (nI 48)], bA g sda 48 sd, oB inr 7 [.ref ina, .int (nI ni)], bA g ina 768 fi, oB outr 7 [.ref outa, .int (nI no)], bA g outa 32 fo, oB zo 4 [.ref sa, .ref wa], iA g sa 8 S0, iA g wa 64 w0, oB on 3 [.ref aa, .ref ba], lA g aa 25 A0, lA g ba 25 B0, oB tor 7 [.ref toa, .int (nI nt)], bA g toa tcap tf] (fun jj : (Nat → Int32) × (Nat → Int32) × (Nat → Int64) × (Nat → Int64) × Nat × (Nat → Int32) × (Nat → Int32) × (Nat → Int32) => none) (fun jj : (Nat → Int32) × (Nat → Int32) × (Nat → Int64) × (Nat → Int64) × Nat × (Nat → Int32) × (Nat → Int32) × (Nat → Int32) => jj.2.2.2.2.1 ≤ 768 ∧ isB jj.2.2.2.2.2.2.1 ∧ jj.2.2.2.2.2.2.2 = putL tf nt (secT fm nn sd ly tr kd ku kv kw)) (fun jj : (Nat → Int32) × (Nat → Int32) × (Nat → Int64) × (Nat → Int64) × Nat × (Nat → Int32) × (Nat → Int32) × (Nat → Int32) => [oB hh 5 [.ref inr, .ref outr, .ref zo, .ref on, .ref sp, .ref sdr, .int (nI ly), .int (nI tr)], oB sp 8 [.int (nI fm), .int (nI nn), .int (nI ht), .int (nI lys), .int (nI fa), .int (nI mk)], oB sdr 7 [.ref sda, .int (nI 48)], bA g sda 48 sd, oB inr 7 [.ref ina, .int (nI jj.2.2.2.2.1)], bA g ina 768 jj.2.2.2.2.2.1, oB outr 7 [.ref outa, .int (nI 32)], bA g outa 32 jj.2.2.2.2.2.2.1, oB zo 4 [.ref sa, .ref wa], iA g sa 8 jj.1, iA g wa 64 jj.2.1, oB on 3 [.ref aa, .ref ba], lA g aa 25 jj.2.2.1, lA g ba 25 jj.2.2.2.1, oB tor 7 [.ref toa, .int (nI (nt + nn))], bA g toa tcap jj.2.2.2.2.2.2.2]) := by
  refine jC.of (cc := cX5_addSecret) (own := RX5) (maxL := 6) (ret := none) (by decide +kernel) rfl rfl (Nat.le_of_ble_eq_true rfl) (fun u hu => rfl) ?_
  intro p e s m below meth c A Q hX hret
  have in5 : ∀ w ∈ wsX50, w ∈ wsX5_addSecret := (fun w h => List.mem_cons_of_mem _ (List.mem_append_left _ (List.mem_append_left _ (List.mem_append_left _ (List.mem_append_left _ (List.mem_append_right _ h))))))
  have in7 : ∀ w ∈ wsX70, w ∈ wsX5_addSecret := (fun w h => List.mem_cons_of_mem _ (List.mem_append_left _ (List.mem_append_left _ (List.mem_append_right _ h))))
  have in8 : ∀ w ∈ wsX80, w ∈ wsX5_addSecret := (fun w h => List.mem_cons_of_mem _ (List.mem_append_left _ (List.mem_append_left _ (List.mem_append_left _ (List.mem_append_right _ h)))))
  have hh2 := hl_le (fm := fm) hnn
  have hdl := hd_length (fm := fm) (n := nn) (by omega) sd ly tr kd ku kv kw
  refine j_aload_n hX 0 dX5_addSecret_0 rfl ?_
  refine j_iload_n hX 1 dX5_addSecret_1 rfl ?_
  refine j_iload_n hX 2 dX5_addSecret_2 rfl ?_
  refine j_iload_n hX 3 dX5_addSecret_3 rfl ?_
  refine j_iload hX 4 dX5_addSecret_4 rfl ?_
  refine j_callV hX 4 (c_start l g hh inr outr zo on sp fm nn ht lys fa mk sdr ly tr sda sd ina ni fi kd ku kv kw (by omega) (by omega) hB) gX5_addSecret_X5_start (by decide +kernel) rfl ⟨rfl, rfl⟩ ⟨Nat.le_of_ble_eq_true rfl, Nat.le_of_ble_eq_true rfl⟩ 5 0 rfl rfl [0, 1, 2, 3, 4, 5] rfl (by decide) (fun _ => rfl) rfl [] rfl (Nat.le_of_ble_eq_true rfl) ⟨Nat.le_refl _, Nat.le_refl _⟩ dX5_addSecret_6 ?_
  intro F1 hF1
  try dsimp only at hF1
  refine j_w [oB hh 5 [.ref inr, .ref outr, .ref zo, .ref on, .ref sp, .ref sdr, .int (nI ly), .int (nI tr)], oB sp 8 [.int (nI fm), .int (nI nn), .int (nI ht), .int (nI lys), .int (nI fa), .int (nI mk)], oB sdr 7 [.ref sda, .int (nI 48)], bA g sda 48 sd, oB inr 7 [.ref ina, .int (nI (hl fm nn))], bA g ina 768 F1, oB outr 7 [.ref outa, .int (nI no)], bA g outa 32 fo, oB zo 4 [.ref sa, .ref wa], iA g sa 8 S0, iA g wa 64 w0, oB on 3 [.ref aa, .ref ba], lA g aa 25 A0, lA g ba 25 B0, oB tor 7 [.ref toa, .int (nI nt)], bA g toa tcap tf] rfl ?_
  refine j_st [] rfl ?_
  refine j_aload_n hX 0 dX5_addSecret_9 rfl ?_
  refine j_pc 10 rfl ?_
  refine j_get hX in5 5 0 0 (v := .ref inr) rfl rfl (by decide) (List.mem_of_getElem? (i := 1) rfl) rfl rfl dX5_addSecret_10 ?_
  refine j_aload_n hX 0 dX5_addSecret_13 rfl ?_
  refine j_get hX in5 5 0 5 (v := .ref sdr) rfl rfl (by decide) (List.mem_of_getElem? (i := 2) rfl) rfl rfl dX5_addSecret_14 ?_
  refine j_iconst hX (0) dX5_addSecret_17 (by decide) ?_
  refine j_aload_n hX 0 dX5_addSecret_18 rfl ?_
  refine j_get hX in5 5 0 4 (v := .ref sp) rfl rfl (by decide) (List.mem_of_getElem? (i := 3) rfl) rfl rfl dX5_addSecret_19 ?_
  refine j_get hX in8 8 1 1 (v := .int (nI nn)) rfl rfl (by decide) (List.mem_of_getElem? (i := 4) rfl) rfl rfl dX5_addSecret_22 ?_
  refine j_callV hX 3 (c_add l g inr ina (hl fm nn) 768 F1 sdr sda 48 48 sd 0 nn (by omega) (by omega) (by omega) (by omega) hB (by omega) (by omega)) gX5_addSecret_X7_add (by decide +kernel) rfl ⟨rfl, rfl⟩ ⟨Nat.le_of_ble_eq_true rfl, Nat.le_of_ble_eq_true rfl⟩ 7 4 rfl rfl [4, 5, 2, 3] rfl (by decide) (fun _ => rfl) rfl [] rfl (Nat.le_of_ble_eq_true rfl) ⟨Nat.le_refl _, Nat.le_refl _⟩ dX5_addSecret_25 ?_
  intro F2 hF2
  try dsimp only at hF2
  refine j_w [oB hh 5 [.ref inr, .ref outr, .ref zo, .ref on, .ref sp, .ref sdr, .int (nI ly), .int (nI tr)], oB sp 8 [.int (nI fm), .int (nI nn), .int (nI ht), .int (nI lys), .int (nI fa), .int (nI mk)], oB sdr 7 [.ref sda, .int (nI 48)], bA g sda 48 sd, oB inr 7 [.ref ina, .int (nI ((hl fm nn) + nn))], bA g ina 768 F2, oB outr 7 [.ref outa, .int (nI no)], bA g outa 32 fo, oB zo 4 [.ref sa, .ref wa], iA g sa 8 S0, iA g wa 64 w0, oB on 3 [.ref aa, .ref ba], lA g aa 25 A0, lA g ba 25 B0, oB tor 7 [.ref toa, .int (nI nt)], bA g toa tcap tf] rfl ?_
  refine j_st [] rfl ?_
  refine j_pc 28 rfl ?_
  refine j_aload_n hX 0 dX5_addSecret_28 rfl ?_
  refine j_aload hX 5 dX5_addSecret_29 rfl ?_
  refine j_aload hX 5 dX5_addSecret_31 rfl ?_
  refine j_get hX in7 7 14 1 (v := .int (nI nt)) rfl rfl (by decide) (List.mem_of_getElem? (i := 5) rfl) rfl rfl dX5_addSecret_33 ?_
  refine j_callV hX 2 (c_finish l g hh inr outr zo on sp fm nn ht lys fa mk sdr ly tr ina ((hl fm nn) + nn) F2 outa no fo sa wa S0 w0 aa ba A0 B0 tor toa nt tcap tf nt (by omega) (by omega) (by omega) (by omega) (by omega) hBo (by omega) (by omega) (by omega) (by omega)) gX5_addSecret_X5_finish (by decide +kernel) rfl ⟨rfl, rfl⟩ ⟨Nat.le_of_ble_eq_true rfl, Nat.le_of_ble_eq_true rfl⟩ 5 0 rfl rfl [0, 1, 4, 5, 6, 7, 8, 9, 10, 11, 12, 13, 14, 15] rfl (by decide) (fun _ => rfl) rfl [] rfl (Nat.le_of_ble_eq_true rfl) ⟨Nat.le_refl _, Nat.le_refl _⟩ dX5_addSecret_36 ?_
  rintro ⟨S5, w5, A5, B5, nl5, G5, FO5, TO5⟩ hE
  try dsimp only at hE
  refine j_w [oB hh 5 [.ref inr, .ref outr, .ref zo, .ref on, .ref sp, .ref sdr, .int (nI ly), .int (nI tr)], oB sp 8 [.int (nI fm), .int (nI nn), .int (nI ht), .int (nI lys), .int (nI fa), .int (nI mk)], oB sdr 7 [.ref sda, .int (nI 48)], bA g sda 48 sd, oB inr 7 [.ref ina, .int (nI nl5)], bA g ina 768 G5, oB outr 7 [.ref outa, .int (nI 32)], bA g outa 32 FO5, oB zo 4 [.ref sa, .ref wa], iA g sa 8 S5, iA g wa 64 w5, oB on 3 [.ref aa, .ref ba], lA g aa 25 A5, lA g ba 25 B5, oB tor 7 [.ref toa, .int (nI (max nt (nt + nn)))], bA g toa tcap TO5] rfl ?_
  refine j_st [] rfl ?_
  rw [hF2, hF1, putL_app' (by rw [hdl, Nat.zero_add]), slice_put (by rw [List.length_append, hdl, slice_length])] at hE
  refine j_w [oB hh 5 [.ref inr, .ref outr, .ref zo, .ref on, .ref sp, .ref sdr, .int (nI ly), .int (nI tr)], oB sp 8 [.int (nI fm), .int (nI nn), .int (nI ht), .int (nI lys), .int (nI fa), .int (nI mk)], oB sdr 7 [.ref sda, .int (nI 48)], bA g sda 48 sd, oB inr 7 [.ref ina, .int (nI nl5)], bA g ina 768 G5, oB outr 7 [.ref outa, .int (nI 32)], bA g outa 32 FO5, oB zo 4 [.ref sa, .ref wa], iA g sa 8 S5, iA g wa 64 w5, oB on 3 [.ref aa, .ref ba], lA g aa 25 A5, lA g ba 25 B5, oB tor 7 [.ref toa, .int (nI (nt + nn))], bA g toa tcap TO5] (by rw [show max nt (nt + nn) = nt + nn by omega]) ?_
  exact hret (S5, w5, A5, B5, nl5, G5, FO5, TO5) hE 39 _ .return_ dX5_addSecret_39 rfl

set_option maxHeartbeats 1000000 in
set_option maxRecDepth 100000 in
/-- Hasher.chain -/
theorem c_hchain (l : Launch) (g : jG) (hh : Nat) (inr : Nat) (outr : Nat) (zo : Nat) (on : Nat) (sp : Nat) (fm : Nat) (nn : Nat) (ht : Nat) (lys : Nat) (fa : Nat) (mk : Nat) (sdr : Nat) (ly : Nat) (tr : Nat) (sda : Nat) (sd : Nat → Int32) (ina : Nat) (ni : Nat) (fi : Nat → Int32) (outa : Nat) (no : Nat) (fo : Nat → Int32) (sa : Nat) (wa : Nat) (S0 : Nat → Int32) (w0 : Nat → Int32) (aa : Nat) (ba : Nat) (A0 : Nat → Int64) (B0 : Nat → Int64) (tor : Nat) (toa : Nat) (nt : Nat) (tcap : Nat) (tf : Nat → Int32) (t : Nat) (fr : Nat) (stp : Nat) (ku : Nat) (kv : Nat) (hfm : fm < 2) (hnn : nn ≤ 16) (hB : isB sd) (hno : no ≤ 32) (hBo : isB fo) (hnt : nt ≤ tcap) (htc : tcap < 2 ^ 31) (hni0 : ni ≤ 768) (htn : t + nn ≤ nt) (hTB : isB tf) (hsp : fr + stp < 2 ^ 31) : jC l g yX5_chain wsX5_chain ({ frames := 3, cells := 0, slots := 0, locals := 90 } : Room) [.ref hh, .ref tor, .int (nI t), .int (nI fr), .int (nI stp), .int (nI ku), .int (nI kv)] [oB hh 5 [.ref inr, .ref outr, .ref zo, .ref on, .ref sp, .ref sdr, .int (nI ly), .int (nI tr)], oB sp 8 [.int (nI fm), .int (nI nn), .int (nI ht), .int (nI lys), .int (nI fa), .int (nI mk)], oB sdr 7 [.ref sda, .int (nI 48)], bA g sda 48 sd, oB inr 7 [.ref ina, .int (nI ni)], bA g ina 768 fi, oB outr 7 [.ref outa, .int (nI no)], bA g outa 32 fo, oB zo 4 [.ref sa, .ref wa], iA g sa 8 S0, iA g wa 64 w0, oB on 3 [.ref aa, .ref ba], lA g aa 25 A0, lA g ba 25 B0, oB tor 7 [.ref toa, .int (nI nt)], bA g toa tcap tf] (fun jj : Nat × (Nat → Int32) × (Nat → Int32) × (Nat → Int64) × (Nat → Int64) × Nat × (Nat → Int32) × (Nat → Int32) × (Nat → Int32) => none) (fun jj : Nat × (Nat → Int32) × (Nat → Int32) × (Nat → Int64) × (Nat → Int64) × Nat × (Nat → Int32) × (Nat → Int32) × (Nat → Int32) => (jj.2.2.2.2.2.1 ≤ 768 ∧ jj.1 ≤ 32) ∧ isB jj.2.2.2.2.2.2.2.1 ∧ isB jj.2.2.2.2.2.2.2.2 ∧ jj.2.2.2.2.2.2.2.2 = putL tf t (chT fm nn sd ly tr ku kv (slice tf t nn) fr stp)) (fun jj : Nat × (Nat → Int32) × (Nat → Int32) × (Nat → Int64) × (Nat → Int64) × Nat × (Nat → Int32) × (Nat → Int32) × (Nat → Int32) => [oB hh 5 [.ref inr, .ref outr, .ref zo, .ref on, .ref sp, .ref sdr, .int (nI ly), .int (nI tr)], oB sp 8 [.int (nI fm), .int (nI nn), .int (nI ht), .int (nI lys), .int (nI fa), .int (nI mk)], oB sdr 7 [.ref sda, .int (nI 48)], bA g sda 48 sd, oB inr 7 [.ref ina, .int (nI jj.2.2.2.2.2.1)], bA g ina 768 jj.2.2.2.2.2.2.1, oB outr 7 [.ref outa, .int (nI jj.1)], bA g outa 32 jj.2.2.2.2.2.2.2.1, oB zo 4 [.ref sa, .ref wa], iA g sa 8 jj.2.1, iA g wa 64 jj.2.2.1, oB on 3 [.ref aa, .ref ba], lA g aa 25 jj.2.2.2.1, lA g ba 25 jj.2.2.2.2.1, oB tor 7 [.ref toa, .int (nI nt)], bA g toa tcap jj.2.2.2.2.2.2.2.2]) := by
  refine jC.of (cc := cX5_chain) (own := RX5) (maxL := 8) (ret := none) (by decide +kernel) rfl rfl (Nat.le_of_ble_eq_true rfl) (fun u hu => rfl) ?_
  intro p e s m below meth c A Q hX hret
  have in5 : ∀ w ∈ wsX50, w ∈ wsX5_chain := (fun w h => List.mem_cons_of_mem _ (List.mem_append_left _ (List.mem_append_left _ (List.mem_append_left _ (List.mem_append_left _ (List.mem_append_right _ h))))))
  have in8 : ∀ w ∈ wsX80, w ∈ wsX5_chain := (fun w h => List.mem_cons_of_mem _ (List.mem_append_left _ (List.mem_append_left _ (List.mem_append_left _ (List.mem_append_right _ h)))))
  have hh2 := hl_le (fm := fm) hnn
  refine j_iload_n hX 3 dX5_chain_0 rfl ?_
  refine j_istore hX [(7, .int (nI fr)), (0, .ref hh), (1, .ref tor), (2, .int (nI t)), (3, .int (nI fr)), (4, .int (nI stp)), (5, .int (nI ku)), (6, .int (nI kv))] dX5_chain_1 (by decide) rfl ?_
  have lp_1 : ∀ (n_2 : Nat) (wk : Nat) (k : Nat) (no1 : Nat) (S1 : Nat → Int32) (w1 : Nat → Int32) (A1 : Nat → Int64) (B1 : Nat → Int64) (nl : Nat) (G : Nat → Int32) (FO : Nat → Int32) (TO : Nat → Int32), (stp - k < n_2) → (wk = fr + k) → (k ≤ stp) → (nl ≤ 768 ∧ no1 ≤ 32) → (isB FO) → (isB TO) → (TO = putL tf t (chT fm nn sd ly tr ku kv (slice tf t nn) fr k)) → J p l e ({ frames := 3, cells := 0, slots := 0, locals := 90 } : Room) s m ([.ref hh, .ref tor, .int (nI t), .int (nI fr), .int (nI stp), .int (nI ku), .int (nI kv)] : List Value).toArray below meth c g A 8 Q 0 0 [oB hh 5 [.ref inr, .ref outr, .ref zo, .ref on, .ref sp, .ref sdr, .int (nI ly), .int (nI tr)], oB sp 8 [.int (nI fm), .int (nI nn), .int (nI ht), .int (nI lys), .int (nI fa), .int (nI mk)], oB sdr 7 [.ref sda, .int (nI 48)], bA g sda 48 sd, oB inr 7 [.ref ina, .int (nI nl)], bA g ina 768 G, oB outr 7 [.ref outa, .int (nI no1)], bA g outa 32 FO, oB zo 4 [.ref sa, .ref wa], iA g sa 8 S1, iA g wa 64 w1, oB on 3 [.ref aa, .ref ba], lA g aa 25 A1, lA g ba 25 B1, oB tor 7 [.ref toa, .int (nI nt)], bA g toa tcap TO] [(0, .ref hh), (1, .ref tor), (2, .int (nI t)), (3, .int (nI fr)), (4, .int (nI stp)), (5, .int (nI ku)), (6, .int (nI kv)), (7, .int (nI wk))] 3 [] := by
    intro n_2
    induction n_2 with
    | zero => intro wk k no1 S1 w1 A1 B1 nl G FO TO hm; exact absurd hm (Nat.not_lt_zero _)
    | succ n_2 ih_3 =>
      intro wk k no1 S1 w1 A1 B1 nl G FO TO hm hwk hk hnl hFO hTO hO
      refine j_iload hX 7 dX5_chain_3 rfl ?_
      refine j_iload_n hX 3 dX5_chain_5 rfl ?_
      refine j_iload hX 4 dX5_chain_6 rfl ?_
      refine j_iaddN hX fr stp dX5_chain_8 ?_
      refine j_icmp_geN hX wk (fr + stp) 51 dX5_chain_9 (by decide) (by omega) (by omega) (fun b_9 => ?_) (fun b_9 => ?_)
      · skip
        refine j_pc 51 rfl ?_
        exact hret (no1, S1, w1, A1, B1, nl, G, FO, TO) (by dsimp only; exact ⟨hnl, hFO, hTO, by rw [hO, show k = stp by omega]⟩) 51 _ .return_ dX5_chain_51 rfl
      · skip
        refine j_aload_n hX 0 dX5_chain_12 rfl ?_
        refine j_iconst hX (0) dX5_chain_13 (by decide) ?_
        refine j_iload hX 5 dX5_chain_14 rfl ?_
        refine j_iload hX 6 dX5_chain_16 rfl ?_
        refine j_iload hX 7 dX5_chain_18 rfl ?_
        refine j_callV hX 4 (c_start l g hh inr outr zo on sp fm nn ht lys fa mk sdr ly tr sda sd ina nl G 0 ku kv wk (by omega) (by omega) hB) gX5_chain_X5_start (by decide +kernel) rfl ⟨rfl, rfl⟩ ⟨Nat.le_of_ble_eq_true rfl, Nat.le_of_ble_eq_true rfl⟩ 5 0 rfl rfl [0, 1, 2, 3, 4, 5] rfl (by decide) (fun _ => rfl) rfl [] rfl (Nat.le_of_ble_eq_true rfl) ⟨Nat.le_refl _, Nat.le_refl _⟩ dX5_chain_20 ?_
        intro F1 hF1
        try dsimp only at hF1
        refine j_w [oB hh 5 [.ref inr, .ref outr, .ref zo, .ref on, .ref sp, .ref sdr, .int (nI ly), .int (nI tr)], oB sp 8 [.int (nI fm), .int (nI nn), .int (nI ht), .int (nI lys), .int (nI fa), .int (nI mk)], oB sdr 7 [.ref sda, .int (nI 48)], bA g sda 48 sd, oB inr 7 [.ref ina, .int (nI (hl fm nn))], bA g ina 768 F1, oB outr 7 [.ref outa, .int (nI no1)], bA g outa 32 FO, oB zo 4 [.ref sa, .ref wa], iA g sa 8 S1, iA g wa 64 w1, oB on 3 [.ref aa, .ref ba], lA g aa 25 A1, lA g ba 25 B1, oB tor 7 [.ref toa, .int (nI nt)], bA g toa tcap TO] rfl ?_
        refine j_st [] rfl ?_
        refine j_aload_n hX 0 dX5_chain_23 rfl ?_
        refine j_pc 24 rfl ?_
        refine j_get hX in5 5 0 0 (v := .ref inr) rfl rfl (by decide) (List.mem_of_getElem? (i := 1) rfl) rfl rfl dX5_chain_24 ?_
        refine j_aload_n hX 1 dX5_chain_27 rfl ?_
        refine j_iload_n hX 2 dX5_chain_28 rfl ?_
        refine j_aload_n hX 0 dX5_chain_29 rfl ?_
        refine j_get hX in5 5 0 4 (v := .ref sp) rfl rfl (by decide) (List.mem_of_getElem? (i := 2) rfl) rfl rfl dX5_chain_30 ?_
        refine j_get hX in8 8 1 1 (v := .int (nI nn)) rfl rfl (by decide) (List.mem_of_getElem? (i := 3) rfl) rfl rfl dX5_chain_33 ?_
        refine j_callV hX 3 (c_add l g inr ina (hl fm nn) 768 F1 tor toa nt tcap TO t nn (by omega) (by omega) (by omega) (by omega) hTO (by omega) (by omega)) gX5_chain_X7_add (by decide +kernel) rfl ⟨rfl, rfl⟩ ⟨Nat.le_of_ble_eq_true rfl, Nat.le_of_ble_eq_true rfl⟩ 7 4 rfl rfl [4, 5, 14, 15] rfl (by decide) (fun _ => rfl) rfl [] rfl (Nat.le_of_ble_eq_true rfl) ⟨Nat.le_refl _, Nat.le_refl _⟩ dX5_chain_36 ?_
        intro F2 hF2
        try dsimp only at hF2
        refine j_w [oB hh 5 [.ref inr, .ref outr, .ref zo, .ref on, .ref sp, .ref sdr, .int (nI ly), .int (nI tr)], oB sp 8 [.int (nI fm), .int (nI nn), .int (nI ht), .int (nI lys), .int (nI fa), .int (nI mk)], oB sdr 7 [.ref sda, .int (nI 48)], bA g sda 48 sd, oB inr 7 [.ref ina, .int (nI ((hl fm nn) + nn))], bA g ina 768 F2, oB outr 7 [.ref outa, .int (nI no1)], bA g outa 32 FO, oB zo 4 [.ref sa, .ref wa], iA g sa 8 S1, iA g wa 64 w1, oB on 3 [.ref aa, .ref ba], lA g aa 25 A1, lA g ba 25 B1, oB tor 7 [.ref toa, .int (nI nt)], bA g toa tcap TO] rfl ?_
        refine j_st [] rfl ?_
        refine j_aload_n hX 0 dX5_chain_39 rfl ?_
        refine j_pc 40 rfl ?_
        refine j_aload_n hX 1 dX5_chain_40 rfl ?_
        refine j_iload_n hX 2 dX5_chain_41 rfl ?_
        refine j_callV hX 2 (c_finish l g hh inr outr zo on sp fm nn ht lys fa mk sdr ly tr ina ((hl fm nn) + nn) F2 outa no1 FO sa wa S1 w1 aa ba A1 B1 tor toa nt tcap TO t (by omega) (by omega) (by omega) (by omega) (by omega) hFO (by omega) (by omega) (by omega) (by omega)) gX5_chain_X5_finish (by decide +kernel) rfl ⟨rfl, rfl⟩ ⟨Nat.le_of_ble_eq_true rfl, Nat.le_of_ble_eq_true rfl⟩ 5 0 rfl rfl [0, 1, 4, 5, 6, 7, 8, 9, 10, 11, 12, 13, 14, 15] rfl (by decide) (fun _ => rfl) rfl [] rfl (Nat.le_of_ble_eq_true rfl) ⟨Nat.le_refl _, Nat.le_refl _⟩ dX5_chain_42 ?_
        rintro ⟨S5, w5, A5, B5, nl5, G5, FO5, TO5⟩ hE
        try dsimp only at hE
        refine j_w [oB hh 5 [.ref inr, .ref outr, .ref zo, .ref on, .ref sp, .ref sdr, .int (nI ly), .int (nI tr)], oB sp 8 [.int (nI fm), .int (nI nn), .int (nI ht), .int (nI lys), .int (nI fa), .int (nI mk)], oB sdr 7 [.ref sda, .int (nI 48)], bA g sda 48 sd, oB inr 7 [.ref ina, .int (nI nl5)], bA g ina 768 G5, oB outr 7 [.ref outa, .int (nI 32)], bA g outa 32 FO5, oB zo 4 [.ref sa, .ref wa], iA g sa 8 S5, iA g wa 64 w5, oB on 3 [.ref aa, .ref ba], lA g aa 25 A5, lA g ba 25 B5, oB tor 7 [.ref toa, .int (nI (max nt (t + nn)))], bA g toa tcap TO5] rfl ?_
        refine j_st [] rfl ?_
        have hdl := hd_length (fm := fm) (n := nn) (by omega) sd ly tr 0 ku kv wk
        rw [hF2, hF1, putL_app' (by rw [hdl, Nat.zero_add]), slice_put (by rw [List.length_append, hdl, slice_length])] at hE
        refine j_w [oB hh 5 [.ref inr, .ref outr, .ref zo, .ref on, .ref sp, .ref sdr, .int (nI ly), .int (nI tr)], oB sp 8 [.int (nI fm), .int (nI nn), .int (nI ht), .int (nI lys), .int (nI fa), .int (nI mk)], oB sdr 7 [.ref sda, .int (nI 48)], bA g sda 48 sd, oB inr 7 [.ref ina, .int (nI nl5)], bA g ina 768 G5, oB outr 7 [.ref outa, .int (nI 32)], bA g outa 32 FO5, oB zo 4 [.ref sa, .ref wa], iA g sa 8 S5, iA g wa 64 w5, oB on 3 [.ref aa, .ref ba], lA g aa 25 A5, lA g ba 25 B5, oB tor 7 [.ref toa, .int (nI nt)], bA g toa tcap TO5] (by rw [show max nt (t + nn) = nt by omega]) ?_
        refine j_iincN hX wk (wk + 1) [(7, .int (nI (wk + 1))), (0, .ref hh), (1, .ref tor), (2, .int (nI t)), (3, .int (nI fr)), (4, .int (nI stp)), (5, .int (nI ku)), (6, .int (nI kv))] 7 dX5_chain_45 rfl (nI_1 _) (by decide) rfl ?_
        refine j_goto hX 3 dX5_chain_48 (by decide) ?_
        refine j_perm [(0, .ref hh), (1, .ref tor), (2, .int (nI t)), (3, .int (nI fr)), (4, .int (nI stp)), (5, .int (nI ku)), (6, .int (nI kv)), (7, .int (nI (wk + 1)))] [1, 2, 3, 4, 5, 6, 7, 0] rfl ?_
        exact ih_3 (wk + 1) (k + 1) 32 S5 w5 A5 B5 nl5 G5 FO5 TO5 (by omega) (by omega) (by omega) ⟨hE.1, Nat.le_refl _⟩ hE.2.1 (by rw [hE.2.2]; exact putL_B hTO (TT_B _ _ _ _ _ _ _ _ _ _)) (by rw [hE.2.2, hwk, hO, slice_put (by rw [chT_length (by omega) _ _ _ _ _ (slice_length _ _ _)]), putL_over (by rw [chT_length (by omega) _ _ _ _ _ (slice_length _ _ _), TT_length_of (by omega)])]; rfl)
  refine j_perm [(0, .ref hh), (1, .ref tor), (2, .int (nI t)), (3, .int (nI fr)), (4, .int (nI stp)), (5, .int (nI ku)), (6, .int (nI kv)), (7, .int (nI fr))] [1, 2, 3, 4, 5, 6, 7, 0] rfl ?_
  exact lp_1 _ fr 0 no S0 w0 A0 B0 ni fi fo tf (Nat.lt_succ_self _) (by omega) (by omega) ⟨hni0, hno⟩ hBo hTB (by rw [chT, put_slice])

