/-! MIXED, POINTS, said plainly -/
theorem zB0 (y : Int32) : zB y.toInt64 0 = i8 y := by
  have h := sh4 y 3 (by decide)
  rw [← h]
  congr 1
  apply Int32.toBitVec_inj.mp
  show BitVec.sshiftRight' y.toBitVec ((nI (24 - 8 * 3) &&& 31).toBitVec.smod 32) = _
  rw [show (nI (24 - 8 * 3) &&& 31).toBitVec.smod 32 = 0#32 by decide]
  simp [BitVec.sshiftRight']
theorem Zl1i (y : Int32) : Zl y.toInt64 1 = [i8 y] := by
  show [zB y.toInt64 0] = _
  rw [zB0]
theorem i8_and255 (x m : Int32) : i8 ((x &&& 255) ^^^ m) = i8 (x ^^^ m) := by
  have k : ∀ i, i < 8 → (255#32).getLsbD i = true := by decide
  have e : BitVec.setWidth 8 ((x.toBitVec &&& 255#32) ^^^ m.toBitVec) = BitVec.setWidth 8 (x.toBitVec ^^^ m.toBitVec) := by
    apply BitVec.eq_of_getLsbD_eq
    intro i hi
    rw [BitVec.getLsbD_setWidth, BitVec.getLsbD_setWidth, BitVec.getLsbD_xor, BitVec.getLsbD_xor, BitVec.getLsbD_and, k i hi, Bool.and_true]
  rw [i8_c8, i8_c8]
  exact congrArg (fun z : BitVec 8 => ((⟨⟨z⟩⟩ : Int8)).toInt32) e
/-- a byte of the masked seed -/
def mskB (sd : Nat → Int32) (n mk i : Nat) : Int32 := i8 ((if i < n then sd (16 + i) else 0) ^^^ nI mk)
def mskL (sd : Nat → Int32) (n mk : Nat) : Nat → List Int32
  | 0 => []
  | k + 1 => mskL sd n mk k ++ [mskB sd n mk k]
theorem mskL_length (sd : Nat → Int32) (n mk : Nat) : ∀ k, (mskL sd n mk k).length = k
  | 0 => rfl
  | k + 1 => by rw [mskL, List.length_append, mskL_length]; rfl
def MIXED (fm n : Nat) (sd : Nat → Int32) (rnd msg : List Int32) : List Int32 := if fm = 0 then (HASH0 (mskL sd n 92 64 ++ HASH0 (mskL sd n 54 64 ++ (rnd ++ msg)))).take n else (HASH1 (slice sd 16 n ++ (rnd ++ msg))).take n
theorem MIXED_B (fm n : Nat) (sd : Nat → Int32) (rnd msg : List Int32) : isBL (MIXED fm n sd rnd msg) := by
  unfold MIXED
  split
  · exact isBL_take (HASH0_B _) _
  · exact isBL_take (HASH1_B _) _
theorem MIXED_length {fm n : Nat} (hn : n ≤ 32) (sd : Nat → Int32) (rnd msg : List Int32) : (MIXED fm n sd rnd msg).length = n := by
  unfold MIXED
  split
  · rw [List.length_take, HASH0_length]; omega
  · rw [List.length_take, HASH1_length]; omega
def PNTS (fm n : Nat) (sd : Nat → Int32) (r rt msg : List Int32) : List Int32 := if fm = 0 then HASH0 ((r ++ slice sd 32 n) ++ (HASH0 ((r ++ slice sd 32 n) ++ (rt ++ msg)) ++ List.replicate 4 0)) else HASH1 ((r ++ slice sd 32 n) ++ (rt ++ msg))
theorem PNTS_length (fm n : Nat) (sd : Nat → Int32) (r rt msg : List Int32) : (PNTS fm n sd r rt msg).length = 32 := by
  unfold PNTS
  split
  · exact HASH0_length _
  · exact HASH1_length _
/-- a byte's number -/
def tn (x : Int32) : Nat := x.toBitVec.toNat
theorem tn_255 (x : Int32) : x &&& 255 = nI (tn x % 256) := pk_and x 8 rfl
def bitB (d : Nat → Int32) (i : Nat) : Nat := tn (d (i / 8)) % 256 / 2 ^ (7 - i % 8) % 2
theorem bitB_lt (d : Nat → Int32) (i : Nat) : bitB d i < 2 := Nat.mod_lt _ (by decide)
theorem bit_m (x : Int32) {q : Nat} (hq : q ≤ 7) : (x >>> (nI q &&& 31)) &&& 1 = nI (tn x % 256 / 2 ^ q % 2) := by
  rw [pk_and _ 1 rfl]
  congr 1
  have key : ∀ k, k ≤ 7 → (nI k &&& 31).toBitVec.smod 32 = BitVec.ofNat 32 k := by decide
  have e1 : (x >>> (nI q &&& 31)).toBitVec = x.toBitVec.sshiftRight q := by
    show BitVec.sshiftRight' x.toBitVec ((nI q &&& 31).toBitVec.smod 32) = _
    rw [key q hq, BitVec.sshiftRight', BitVec.toNat_ofNat, Nat.mod_eq_of_lt (by omega)]
  have e2 := congrArg (fun y : BitVec 4 => y.toNat % 2) (ext4 x.toBitVec q (by omega))
  simp only [BitVec.toNat_setWidth, BitVec.toNat_ushiftRight, Nat.shiftRight_eq_div_pow] at e2
  rw [e1]
  show _ % 2 ^ 1 = _
  rw [show (2 : Nat) ^ 4 = 16 by decide, Nat.mod_mod_of_dvd _ (by decide), Nat.mod_mod_of_dvd _ (by decide)] at e2
  rw [show (2 : Nat) ^ 1 = 2 by decide, e2]
  unfold tn
  rcases (show q = 0 ∨ q = 1 ∨ q = 2 ∨ q = 3 ∨ q = 4 ∨ q = 5 ∨ q = 6 ∨ q = 7 by omega) with rfl | rfl | rfl | rfl | rfl | rfl | rfl | rfl <;> omega
def bts (d : Nat → Int32) (s : Nat) : Nat → Nat
  | 0 => 0
  | c + 1 => 2 * bts d s c + bitB d (s + c)
theorem bts_lt (d : Nat → Int32) (s : Nat) : ∀ c, bts d s c < 2 ^ c
  | 0 => (by decide : 0 < 2 ^ 0)
  | c + 1 => by have := bts_lt d s c; have := bitB_lt d (s + c); rw [bts, Nat.pow_succ]; omega
theorem bts_congr {d h : Nat → Int32} {s : Nat} : ∀ c, (∀ i, s ≤ i → i < s + c → d (i / 8) = h (i / 8)) → bts d s c = bts h s c
  | 0, _ => rfl
  | c + 1, e => by rw [bts, bts, bts_congr c (fun i h1 h2 => e i h1 (by omega)), bitB, bitB, e (s + c) (by omega) (by omega)]
def teN (ht lys fa mk : Nat) : Nat := (mk * fa + 7) / 8 + (ht * (lys - 1) + 7) / 8
/-- the numbers of POINTS: TREE, LEAF, CHOICES -/
def ixN (d : Nat → Int32) (ht lys fa mk : Nat) : Nat → Nat
  | 0 => tn (d (teN ht lys fa mk - 1)) % 2 ^ (ht * (lys - 1))
  | 1 => tn (d (teN ht lys fa mk)) % 2 ^ ht
  | i + 2 => bts d (i * fa) fa
theorem teN_bd {ht lys fa mk : Nat} (h1 : ht ≤ 2) (h2 : 1 ≤ lys ∧ lys ≤ 2) (h3 : 1 ≤ fa ∧ fa ≤ 4) (h4 : 1 ≤ mk ∧ mk ≤ 6) : ht * (lys - 1) ≤ 2 ∧ 1 ≤ mk * fa ∧ mk * fa ≤ 24 ∧ 1 ≤ teN ht lys fa mk ∧ teN ht lys fa mk ≤ 4 := by
  have a1 : ht * (lys - 1) ≤ 2 * 1 := Nat.mul_le_mul h1 (by omega)
  have a2 : 1 * 1 ≤ mk * fa := Nat.mul_le_mul h4.1 h3.1
  have a3 : mk * fa ≤ 6 * 4 := Nat.mul_le_mul h4.2 h3.2
  unfold teN
  omega
theorem ixN_congr {d h : Nat → Int32} {ht lys fa mk : Nat} (e : ∀ j, j < 32 → d j = h j) (h1 : ht ≤ 2) (h2 : 1 ≤ lys ∧ lys ≤ 2) (h3 : 1 ≤ fa ∧ fa ≤ 4) (h4 : 1 ≤ mk ∧ mk ≤ 6) : ∀ i, i < 2 + mk → ixN d ht lys fa mk i = ixN h ht lys fa mk i := by
  obtain ⟨-, -, b3, -, b5⟩ := teN_bd h1 h2 h3 h4
  intro i hi
  rcases i with _ | _ | i
  · rw [ixN, ixN, e _ (by omega)]
  · rw [ixN, ixN, e _ (by omega)]
  · rw [ixN, ixN]
    apply bts_congr
    intro q _ hq
    have := Nat.mul_le_mul_right fa (show i + 1 ≤ mk by omega)
    rw [Nat.succ_mul] at this
    exact e _ (by omega)
theorem ixN_lt (d : Nat → Int32) {ht lys fa mk : Nat} (h1 : ht ≤ 2) (h2 : 1 ≤ lys ∧ lys ≤ 2) (h3 : 1 ≤ fa ∧ fa ≤ 4) (h4 : 1 ≤ mk ∧ mk ≤ 6) (i : Nat) : ixN d ht lys fa mk i < 16 := by
  obtain ⟨b1, -⟩ := teN_bd h1 h2 h3 h4
  have p4 : ∀ k, k ≤ 4 → 2 ^ k ≤ 16 := fun k hk => pow_le16 hk
  rcases i with _ | _ | i
  · exact Nat.lt_of_lt_of_le (Nat.mod_lt _ (Nat.two_pow_pos _)) (p4 _ (by omega))
  · exact Nat.lt_of_lt_of_le (Nat.mod_lt _ (Nat.two_pow_pos _)) (p4 _ (by omega))
  · exact Nat.lt_of_lt_of_le (bts_lt _ _ _) (p4 _ h3.2)
theorem rAt_ix {f : Nat → Int32} {n j q : Nat} (h : f j = nI q) (hq : q < 128) (hj : j < n) (hn : n < 2 ^ 31) : rAt f n (nI j) = nI q := by
  rw [rAt_in hj hn, h, pk_andN (by omega) 8 rfl, Nat.mod_eq_of_lt (by omega)]
theorem i8_nI {q : Nat} (h : q < 128) : i8 (nI q) = nI q := by
  have : ∀ k, k < 128 → i8 (nI k) = nI k := by decide +kernel
  exact this q h
theorem mod_and {a k : Nat} (hk : k ≤ 8) : a % 256 % 2 ^ k = a % 2 ^ k := by
  apply Nat.mod_mod_of_dvd
  exact (show (256 : Nat) = 2 ^ 8 by decide) ▸ Nat.pow_dvd_pow 2 hk
theorem z1_cap {n : Nat} (h : n < 680) : n + 1 + z1 n ≤ 680 := by unfold z1; omega
theorem found_step {F F2 : Nat → Int32} {i x : Nat} {ix : Nat → Nat} (hx : x < 128) (e : x = ix i) (hF : ∀ j, j < i → F j = nI (ix j)) (h2 : F2 = putL F i (Zl (nI x).toInt64 1)) : ∀ j, j < i + 1 → F2 j = nI (ix j) := by
  intro j hj
  rw [h2, Zl1i, i8_nI hx]
  by_cases hji : j = i
  · subst hji
    have h := putL_in (f := F) (n := j) (L := [nI x]) (j := 0) (Nat.zero_lt_succ _)
    rw [Nat.add_zero] at h
    rw [h, ← e]
    rfl
  · rw [putL_out (Or.inl (by omega))]
    exact hF j (by omega)

set_option maxRecDepth 20000 in
theorem ggX6_treeNumber_X7_at : GoodIn wsX6_treeNumber wsX7_at := goodIn_r _ [10, 11, 12, 18, 19] rfl (by decide +kernel)
set_option maxRecDepth 20000 in
theorem gX6_treeNumber_X7_at : GoodIn wsX6_treeNumber (wsV RX6 34 RX7 yX7_at wsX7_at) := goodIn_app (goodIn_of _ (by decide +kernel)) ggX6_treeNumber_X7_at
theorem dX6_treeNumber_0 : decode cX6_treeNumber 0 = .ok (.aload_n 0, 1) := by decide +kernel
theorem dX6_treeNumber_1 : decode cX6_treeNumber 1 = .ok (.getfield 14, 3) := by decide +kernel
theorem dX6_treeNumber_4 : decode cX6_treeNumber 4 = .ok (.iconst 0, 1) := by decide +kernel
theorem dX6_treeNumber_5 : decode cX6_treeNumber 5 = .ok (.invokevirtual 34, 3) := by decide +kernel
theorem dX6_treeNumber_8 : decode cX6_treeNumber 8 = .ok (.iconst 0, 1) := by decide +kernel
theorem dX6_treeNumber_9 : decode cX6_treeNumber 9 = .ok (.invokestatic 38, 3) := by decide +kernel
theorem dX6_treeNumber_12 : decode cX6_treeNumber 12 = .ok (.ireturn, 1) := by decide +kernel
set_option maxRecDepth 20000 in
theorem ggX6_leafNumber_X7_at : GoodIn wsX6_leafNumber wsX7_at := goodIn_r _ [10, 11, 12, 18, 19] rfl (by decide +kernel)
set_option maxRecDepth 20000 in
theorem gX6_leafNumber_X7_at : GoodIn wsX6_leafNumber (wsV RX6 34 RX7 yX7_at wsX7_at) := goodIn_app (goodIn_of _ (by decide +kernel)) ggX6_leafNumber_X7_at
theorem dX6_leafNumber_0 : decode cX6_leafNumber 0 = .ok (.aload_n 0, 1) := by decide +kernel
theorem dX6_leafNumber_1 : decode cX6_leafNumber 1 = .ok (.getfield 14, 3) := by decide +kernel
theorem dX6_leafNumber_4 : decode cX6_leafNumber 4 = .ok (.iconst 1, 1) := by decide +kernel
theorem dX6_leafNumber_5 : decode cX6_leafNumber 5 = .ok (.invokevirtual 34, 3) := by decide +kernel
theorem dX6_leafNumber_8 : decode cX6_leafNumber 8 = .ok (.iconst 0, 1) := by decide +kernel
theorem dX6_leafNumber_9 : decode cX6_leafNumber 9 = .ok (.invokestatic 38, 3) := by decide +kernel
theorem dX6_leafNumber_12 : decode cX6_leafNumber 12 = .ok (.ireturn, 1) := by decide +kernel
set_option maxRecDepth 20000 in
theorem ggX6_choice_X7_at : GoodIn wsX6_choice wsX7_at := goodIn_r _ [10, 11, 12, 18, 19] rfl (by decide +kernel)
set_option maxRecDepth 20000 in
theorem gX6_choice_X7_at : GoodIn wsX6_choice (wsV RX6 34 RX7 yX7_at wsX7_at) := goodIn_app (goodIn_of _ (by decide +kernel)) ggX6_choice_X7_at
theorem dX6_choice_0 : decode cX6_choice 0 = .ok (.aload_n 0, 1) := by decide +kernel
theorem dX6_choice_1 : decode cX6_choice 1 = .ok (.getfield 14, 3) := by decide +kernel
theorem dX6_choice_4 : decode cX6_choice 4 = .ok (.iconst 2, 1) := by decide +kernel
theorem dX6_choice_5 : decode cX6_choice 5 = .ok (.iload_n 1, 1) := by decide +kernel
theorem dX6_choice_6 : decode cX6_choice 6 = .ok (.iadd, 1) := by decide +kernel
theorem dX6_choice_7 : decode cX6_choice 7 = .ok (.invokevirtual 34, 3) := by decide +kernel
theorem dX6_choice_10 : decode cX6_choice 10 = .ok (.iconst 0, 1) := by decide +kernel
theorem dX6_choice_11 : decode cX6_choice 11 = .ok (.invokestatic 38, 3) := by decide +kernel
theorem dX6_choice_14 : decode cX6_choice 14 = .ok (.ireturn, 1) := by decide +kernel
set_option maxRecDepth 20000 in
theorem ggX6_mix_X5_ofForm : GoodIn wsX6_mix wsX5_ofForm := goodIn_r _ [13, 14, 15, 119, 120, 121, 122, 123, 124, 125, 126] rfl (by decide +kernel)
set_option maxRecDepth 20000 in
theorem gX6_mix_X5_ofForm : GoodIn wsX6_mix (wsV RX6 55 RX5 yX5_ofForm wsX5_ofForm) := goodIn_app (goodIn_of _ (by decide +kernel)) ggX6_mix_X5_ofForm
set_option maxRecDepth 20000 in
theorem ggX6_mix_X7_clear : GoodIn wsX6_mix wsX7_clear := goodIn_r _ [20, 21, 133, 134] rfl (by decide +kernel)
set_option maxRecDepth 20000 in
theorem gX6_mix_X7_clear : GoodIn wsX6_mix (wsV RX6 59 RX7 yX7_clear wsX7_clear) := goodIn_app (goodIn_of _ (by decide +kernel)) ggX6_mix_X7_clear
set_option maxRecDepth 20000 in
theorem ggX6_mix_X6_addMasked : GoodIn wsX6_mix wsX6_addMasked := goodIn_r _ [26, 3, 6, 5, 1, 2, 27, 28, 29, 19, 30, 21, 31, 32, 33, 34, 35, 114, 115, 116, 117, 118, 127, 128, 129, 130, 131, 132, 119, 120, 121, 122, 123, 124, 125, 126, 133, 134] rfl (by decide +kernel)
set_option maxRecDepth 20000 in
theorem gX6_mix_X6_addMasked : GoodIn wsX6_mix (wsV RX6 62 RX6 yX6_addMasked wsX6_addMasked) := goodIn_app (goodIn_of _ (by decide +kernel)) ggX6_mix_X6_addMasked
set_option maxRecDepth 20000 in
theorem ggX6_mix_X7_add : GoodIn wsX6_mix wsX7_add := goodIn_r _ [39, 21, 40, 41, 42, 19, 43, 31, 44, 45, 46, 47, 48, 49, 50, 51, 133, 134] rfl (by decide +kernel)
set_option maxRecDepth 20000 in
theorem gX6_mix_X7_add : GoodIn wsX6_mix (wsV RX6 68 RX7 yX7_add wsX7_add) := goodIn_app (goodIn_of _ (by decide +kernel)) ggX6_mix_X7_add
set_option maxRecDepth 20000 in
theorem ggX6_mix_X7_addAll : GoodIn wsX6_mix wsX7_addAll := goodIn_r _ [55, 21, 40, 41, 42, 19, 43, 31, 44, 45, 46, 47, 48, 49, 50, 51, 133, 134] rfl (by decide +kernel)
set_option maxRecDepth 20000 in
theorem gX6_mix_X7_addAll : GoodIn wsX6_mix (wsV RX6 72 RX7 yX7_addAll wsX7_addAll) := goodIn_app (goodIn_of _ (by decide +kernel)) ggX6_mix_X7_addAll
set_option maxRecDepth 20000 in
theorem ggX6_mix_X3_digest : GoodIn wsX6_mix wsX3_digest := goodIn_r _ [61, 62, 63, 64, 65, 66, 67, 33, 34, 19, 35, 21, 31, 68, 28, 29, 30, 69, 70, 71, 72, 73, 74, 75, 60, 76, 77, 78, 79, 80, 81, 82, 83, 84, 85, 86, 87, 88, 89, 90, 17, 18, 20, 133, 134, 135, 136] rfl (by decide +kernel)
set_option maxRecDepth 20000 in
theorem gX6_mix_X3_digest_u79X3 : GoodIn wsX6_mix (va_wsU RX6 79 RX3 "HashSigner$Hash" ⟨"HashSigner$Hash", "digest", "(LHashSigner$Row;LHashSigner$Row;)V"⟩ yX3_digest wsX3_digest) := goodIn_app (goodIn_of _ (by decide +kernel)) ggX6_mix_X3_digest
set_option maxRecDepth 20000 in
theorem ggX6_mix_X4_digest : GoodIn wsX6_mix wsX4_digest := goodIn_r _ [94, 95, 96, 97, 98, 99, 100, 101, 33, 34, 19, 35, 21, 31, 102, 103, 104, 93, 105, 106, 107, 108, 109, 110, 111, 112, 17, 18, 20, 133, 134, 137, 138] rfl (by decide +kernel)
set_option maxRecDepth 20000 in
theorem gX6_mix_X4_digest_u79X4 : GoodIn wsX6_mix (va_wsU RX6 79 RX4 "HashSigner$Hash" ⟨"HashSigner$Hash", "digest", "(LHashSigner$Row;LHashSigner$Row;)V"⟩ yX4_digest wsX4_digest) := goodIn_app (goodIn_of _ (by decide +kernel)) ggX6_mix_X4_digest
set_option maxRecDepth 20000 in
theorem ggX6_mix_X7_lay : GoodIn wsX6_mix wsX7_lay := goodIn_r _ [43, 21, 31, 44, 45, 46, 47, 48, 49, 50, 51, 133, 134] rfl (by decide +kernel)
set_option maxRecDepth 20000 in
theorem gX6_mix_X7_lay : GoodIn wsX6_mix (wsV RX6 85 RX7 yX7_lay wsX7_lay) := goodIn_app (goodIn_of _ (by decide +kernel)) ggX6_mix_X7_lay
theorem dX6_mix_0 : decode cX6_mix 0 = .ok (.aload_n 0, 1) := by decide +kernel
theorem dX6_mix_1 : decode cX6_mix 1 = .ok (.getfield 30, 3) := by decide +kernel
theorem dX6_mix_4 : decode cX6_mix 4 = .ok (.getfield 44, 3) := by decide +kernel
theorem dX6_mix_7 : decode cX6_mix 7 = .ok (.astore 5, 2) := by decide +kernel
theorem dX6_mix_9 : decode cX6_mix 9 = .ok (.aload_n 0, 1) := by decide +kernel
theorem dX6_mix_10 : decode cX6_mix 10 = .ok (.getfield 30, 3) := by decide +kernel
theorem dX6_mix_13 : decode cX6_mix 13 = .ok (.aload_n 0, 1) := by decide +kernel
theorem dX6_mix_14 : decode cX6_mix 14 = .ok (.getfield 23, 3) := by decide +kernel
theorem dX6_mix_17 : decode cX6_mix 17 = .ok (.getfield 49, 3) := by decide +kernel
theorem dX6_mix_20 : decode cX6_mix 20 = .ok (.invokevirtual 55, 3) := by decide +kernel
theorem dX6_mix_23 : decode cX6_mix 23 = .ok (.astore 6, 2) := by decide +kernel
theorem dX6_mix_25 : decode cX6_mix 25 = .ok (.aload 5, 2) := by decide +kernel
theorem dX6_mix_27 : decode cX6_mix 27 = .ok (.invokevirtual 59, 3) := by decide +kernel
theorem dX6_mix_30 : decode cX6_mix 30 = .ok (.aload_n 0, 1) := by decide +kernel
theorem dX6_mix_31 : decode cX6_mix 31 = .ok (.getfield 23, 3) := by decide +kernel
theorem dX6_mix_34 : decode cX6_mix 34 = .ok (.getfield 49, 3) := by decide +kernel
theorem dX6_mix_37 : decode cX6_mix 37 = .ok (.ifCond .ne 12, 3) := by decide +kernel
theorem dX6_mix_40 : decode cX6_mix 40 = .ok (.aload_n 0, 1) := by decide +kernel
theorem dX6_mix_41 : decode cX6_mix 41 = .ok (.bipush 54, 2) := by decide +kernel
theorem dX6_mix_43 : decode cX6_mix 43 = .ok (.invokevirtual 62, 3) := by decide +kernel
theorem dX6_mix_46 : decode cX6_mix 46 = .ok (.goto 21, 3) := by decide +kernel
theorem dX6_mix_49 : decode cX6_mix 49 = .ok (.aload 5, 2) := by decide +kernel
theorem dX6_mix_51 : decode cX6_mix 51 = .ok (.aload_n 0, 1) := by decide +kernel
theorem dX6_mix_52 : decode cX6_mix 52 = .ok (.getfield 27, 3) := by decide +kernel
theorem dX6_mix_55 : decode cX6_mix 55 = .ok (.bipush 16, 2) := by decide +kernel
theorem dX6_mix_57 : decode cX6_mix 57 = .ok (.aload_n 0, 1) := by decide +kernel
theorem dX6_mix_58 : decode cX6_mix 58 = .ok (.getfield 23, 3) := by decide +kernel
theorem dX6_mix_61 : decode cX6_mix 61 = .ok (.getfield 65, 3) := by decide +kernel
theorem dX6_mix_64 : decode cX6_mix 64 = .ok (.invokevirtual 68, 3) := by decide +kernel
theorem dX6_mix_67 : decode cX6_mix 67 = .ok (.aload 5, 2) := by decide +kernel
theorem dX6_mix_69 : decode cX6_mix 69 = .ok (.aload_n 1, 1) := by decide +kernel
theorem dX6_mix_70 : decode cX6_mix 70 = .ok (.iload_n 2, 1) := by decide +kernel
theorem dX6_mix_71 : decode cX6_mix 71 = .ok (.aload_n 0, 1) := by decide +kernel
theorem dX6_mix_72 : decode cX6_mix 72 = .ok (.getfield 23, 3) := by decide +kernel
theorem dX6_mix_75 : decode cX6_mix 75 = .ok (.getfield 65, 3) := by decide +kernel
theorem dX6_mix_78 : decode cX6_mix 78 = .ok (.invokevirtual 68, 3) := by decide +kernel
theorem dX6_mix_81 : decode cX6_mix 81 = .ok (.aload 5, 2) := by decide +kernel
theorem dX6_mix_83 : decode cX6_mix 83 = .ok (.aload_n 3, 1) := by decide +kernel
theorem dX6_mix_84 : decode cX6_mix 84 = .ok (.invokevirtual 72, 3) := by decide +kernel
theorem dX6_mix_87 : decode cX6_mix 87 = .ok (.aload 6, 2) := by decide +kernel
theorem dX6_mix_89 : decode cX6_mix 89 = .ok (.aload 5, 2) := by decide +kernel
theorem dX6_mix_91 : decode cX6_mix 91 = .ok (.aload_n 0, 1) := by decide +kernel
theorem dX6_mix_92 : decode cX6_mix 92 = .ok (.getfield 30, 3) := by decide +kernel
theorem dX6_mix_95 : decode cX6_mix 95 = .ok (.getfield 76, 3) := by decide +kernel
theorem dX6_mix_98 : decode cX6_mix 98 = .ok (.invokevirtual 79, 3) := by decide +kernel
theorem dX6_mix_101 : decode cX6_mix 101 = .ok (.aload_n 0, 1) := by decide +kernel
theorem dX6_mix_102 : decode cX6_mix 102 = .ok (.getfield 23, 3) := by decide +kernel
theorem dX6_mix_105 : decode cX6_mix 105 = .ok (.getfield 49, 3) := by decide +kernel
theorem dX6_mix_108 : decode cX6_mix 108 = .ok (.ifCond .ne 55, 3) := by decide +kernel
theorem dX6_mix_111 : decode cX6_mix 111 = .ok (.aload_n 0, 1) := by decide +kernel
theorem dX6_mix_112 : decode cX6_mix 112 = .ok (.getfield 20, 3) := by decide +kernel
theorem dX6_mix_115 : decode cX6_mix 115 = .ok (.iconst 0, 1) := by decide +kernel
theorem dX6_mix_116 : decode cX6_mix 116 = .ok (.aload_n 0, 1) := by decide +kernel
theorem dX6_mix_117 : decode cX6_mix 117 = .ok (.getfield 30, 3) := by decide +kernel
theorem dX6_mix_120 : decode cX6_mix 120 = .ok (.getfield 76, 3) := by decide +kernel
theorem dX6_mix_123 : decode cX6_mix 123 = .ok (.iconst 0, 1) := by decide +kernel
theorem dX6_mix_124 : decode cX6_mix 124 = .ok (.bipush 32, 2) := by decide +kernel
theorem dX6_mix_126 : decode cX6_mix 126 = .ok (.invokevirtual 85, 3) := by decide +kernel
theorem dX6_mix_129 : decode cX6_mix 129 = .ok (.aload 5, 2) := by decide +kernel
theorem dX6_mix_131 : decode cX6_mix 131 = .ok (.invokevirtual 59, 3) := by decide +kernel
theorem dX6_mix_134 : decode cX6_mix 134 = .ok (.aload_n 0, 1) := by decide +kernel
theorem dX6_mix_135 : decode cX6_mix 135 = .ok (.bipush 92, 2) := by decide +kernel
theorem dX6_mix_137 : decode cX6_mix 137 = .ok (.invokevirtual 62, 3) := by decide +kernel
theorem dX6_mix_140 : decode cX6_mix 140 = .ok (.aload 5, 2) := by decide +kernel
theorem dX6_mix_142 : decode cX6_mix 142 = .ok (.aload_n 0, 1) := by decide +kernel
theorem dX6_mix_143 : decode cX6_mix 143 = .ok (.getfield 20, 3) := by decide +kernel
theorem dX6_mix_146 : decode cX6_mix 146 = .ok (.invokevirtual 72, 3) := by decide +kernel
theorem dX6_mix_149 : decode cX6_mix 149 = .ok (.aload 6, 2) := by decide +kernel
theorem dX6_mix_151 : decode cX6_mix 151 = .ok (.aload 5, 2) := by decide +kernel
theorem dX6_mix_153 : decode cX6_mix 153 = .ok (.aload_n 0, 1) := by decide +kernel
theorem dX6_mix_154 : decode cX6_mix 154 = .ok (.getfield 30, 3) := by decide +kernel
theorem dX6_mix_157 : decode cX6_mix 157 = .ok (.getfield 76, 3) := by decide +kernel
theorem dX6_mix_160 : decode cX6_mix 160 = .ok (.invokevirtual 79, 3) := by decide +kernel
theorem dX6_mix_163 : decode cX6_mix 163 = .ok (.aload 4, 2) := by decide +kernel
theorem dX6_mix_165 : decode cX6_mix 165 = .ok (.aload_n 0, 1) := by decide +kernel
theorem dX6_mix_166 : decode cX6_mix 166 = .ok (.getfield 30, 3) := by decide +kernel
theorem dX6_mix_169 : decode cX6_mix 169 = .ok (.getfield 76, 3) := by decide +kernel
theorem dX6_mix_172 : decode cX6_mix 172 = .ok (.iconst 0, 1) := by decide +kernel
theorem dX6_mix_173 : decode cX6_mix 173 = .ok (.aload_n 0, 1) := by decide +kernel
theorem dX6_mix_174 : decode cX6_mix 174 = .ok (.getfield 23, 3) := by decide +kernel
theorem dX6_mix_177 : decode cX6_mix 177 = .ok (.getfield 65, 3) := by decide +kernel
theorem dX6_mix_180 : decode cX6_mix 180 = .ok (.invokevirtual 68, 3) := by decide +kernel
theorem dX6_mix_183 : decode cX6_mix 183 = .ok (.return_, 1) := by decide +kernel
set_option maxRecDepth 20000 in
theorem ggX6_find_X5_ofForm : GoodIn wsX6_find wsX5_ofForm := goodIn_r _ [11, 12, 13, 134, 135, 136, 137, 138, 139, 140, 141] rfl (by decide +kernel)
set_option maxRecDepth 20000 in
theorem gX6_find_X5_ofForm : GoodIn wsX6_find (wsV RX6 55 RX5 yX5_ofForm wsX5_ofForm) := goodIn_app (goodIn_of _ (by decide +kernel)) ggX6_find_X5_ofForm
set_option maxRecDepth 20000 in
theorem ggX6_find_X6_startPoints : GoodIn wsX6_find wsX6_startPoints := goodIn_r _ [18, 1, 2, 3, 19, 20, 21, 22, 23, 24, 25, 26, 27, 28, 29, 30, 31, 32, 33, 34, 35, 36, 37, 38, 39, 40, 41, 42, 43, 129, 130, 131, 132, 133, 134, 135, 136, 137, 138, 139, 140, 141, 142, 143, 144, 145, 146, 147, 148, 149] rfl (by decide +kernel)
set_option maxRecDepth 20000 in
theorem gX6_find_X6_startPoints : GoodIn wsX6_find (wsV RX6 93 RX6 yX6_startPoints wsX6_startPoints) := goodIn_app (goodIn_of _ (by decide +kernel)) ggX6_find_X6_startPoints
set_option maxRecDepth 20000 in
theorem ggX6_find_X7_addAll : GoodIn wsX6_find wsX7_addAll := goodIn_r _ [47, 26, 31, 32, 33, 24, 34, 35, 36, 37, 38, 39, 40, 41, 42, 43, 148, 149] rfl (by decide +kernel)
set_option maxRecDepth 20000 in
theorem gX6_find_X7_addAll : GoodIn wsX6_find (wsV RX6 72 RX7 yX7_addAll wsX7_addAll) := goodIn_app (goodIn_of _ (by decide +kernel)) ggX6_find_X7_addAll
set_option maxRecDepth 20000 in
theorem ggX6_find_X3_digest : GoodIn wsX6_find wsX3_digest := goodIn_r _ [53, 54, 55, 56, 57, 58, 59, 60, 61, 24, 62, 26, 35, 63, 64, 65, 66, 67, 68, 69, 70, 71, 72, 73, 52, 74, 75, 76, 77, 78, 79, 80, 81, 82, 83, 84, 85, 86, 87, 88, 22, 23, 25, 148, 149, 150, 151] rfl (by decide +kernel)
set_option maxRecDepth 20000 in
theorem gX6_find_X3_digest_u79X3 : GoodIn wsX6_find (va_wsU RX6 79 RX3 "HashSigner$Hash" ⟨"HashSigner$Hash", "digest", "(LHashSigner$Row;LHashSigner$Row;)V"⟩ yX3_digest wsX3_digest) := goodIn_app (goodIn_of _ (by decide +kernel)) ggX6_find_X3_digest
set_option maxRecDepth 20000 in
theorem ggX6_find_X4_digest : GoodIn wsX6_find wsX4_digest := goodIn_r _ [92, 93, 94, 95, 96, 97, 98, 99, 60, 61, 24, 62, 26, 35, 100, 101, 102, 91, 103, 104, 105, 106, 107, 108, 109, 110, 22, 23, 25, 148, 149, 152, 153] rfl (by decide +kernel)
set_option maxRecDepth 20000 in
theorem gX6_find_X4_digest_u79X4 : GoodIn wsX6_find (va_wsU RX6 79 RX4 "HashSigner$Hash" ⟨"HashSigner$Hash", "digest", "(LHashSigner$Row;LHashSigner$Row;)V"⟩ yX4_digest wsX4_digest) := goodIn_app (goodIn_of _ (by decide +kernel)) ggX6_find_X4_digest
set_option maxRecDepth 20000 in
theorem ggX6_find_X7_lay : GoodIn wsX6_find wsX7_lay := goodIn_r _ [34, 26, 35, 36, 37, 38, 39, 40, 41, 42, 43, 148, 149] rfl (by decide +kernel)
set_option maxRecDepth 20000 in
theorem gX6_find_X7_lay : GoodIn wsX6_find (wsV RX6 85 RX7 yX7_lay wsX7_lay) := goodIn_app (goodIn_of _ (by decide +kernel)) ggX6_find_X7_lay
set_option maxRecDepth 20000 in
theorem ggX6_find_X7_addNumber : GoodIn wsX6_find wsX7_addNumber := goodIn_r _ [62, 26, 35, 148, 149] rfl (by decide +kernel)
set_option maxRecDepth 20000 in
theorem gX6_find_X7_addNumber : GoodIn wsX6_find (wsV RX6 89 RX7 yX7_addNumber wsX7_addNumber) := goodIn_app (goodIn_of _ (by decide +kernel)) ggX6_find_X7_addNumber
set_option maxRecDepth 20000 in
theorem ggX6_find_X6_readNumbers : GoodIn wsX6_find wsX6_readNumbers := goodIn_r _ [116, 3, 117, 118, 119, 120, 121, 122, 123, 17, 124, 125, 64, 65, 24, 66, 26, 35, 21, 22, 23, 25, 112, 60, 61, 62, 126, 127, 128, 129, 130, 131, 132, 133, 142, 143, 144, 145, 146, 147, 148, 149] rfl (by decide +kernel)
set_option maxRecDepth 20000 in
theorem gX6_find_X6_readNumbers : GoodIn wsX6_find (wsV RX6 96 RX6 yX6_readNumbers wsX6_readNumbers) := goodIn_app (goodIn_of _ (by decide +kernel)) ggX6_find_X6_readNumbers
theorem dX6_find_0 : decode cX6_find 0 = .ok (.aload_n 0, 1) := by decide +kernel
theorem dX6_find_1 : decode cX6_find 1 = .ok (.getfield 30, 3) := by decide +kernel
theorem dX6_find_4 : decode cX6_find 4 = .ok (.getfield 44, 3) := by decide +kernel
theorem dX6_find_7 : decode cX6_find 7 = .ok (.astore 4, 2) := by decide +kernel
theorem dX6_find_9 : decode cX6_find 9 = .ok (.aload_n 0, 1) := by decide +kernel
theorem dX6_find_10 : decode cX6_find 10 = .ok (.getfield 30, 3) := by decide +kernel
theorem dX6_find_13 : decode cX6_find 13 = .ok (.aload_n 0, 1) := by decide +kernel
theorem dX6_find_14 : decode cX6_find 14 = .ok (.getfield 23, 3) := by decide +kernel
theorem dX6_find_17 : decode cX6_find 17 = .ok (.getfield 49, 3) := by decide +kernel
theorem dX6_find_20 : decode cX6_find 20 = .ok (.invokevirtual 55, 3) := by decide +kernel
theorem dX6_find_23 : decode cX6_find 23 = .ok (.astore 5, 2) := by decide +kernel
theorem dX6_find_25 : decode cX6_find 25 = .ok (.aload_n 0, 1) := by decide +kernel
theorem dX6_find_26 : decode cX6_find 26 = .ok (.aload_n 1, 1) := by decide +kernel
theorem dX6_find_27 : decode cX6_find 27 = .ok (.invokevirtual 93, 3) := by decide +kernel
theorem dX6_find_30 : decode cX6_find 30 = .ok (.aload 4, 2) := by decide +kernel
theorem dX6_find_32 : decode cX6_find 32 = .ok (.aload_n 2, 1) := by decide +kernel
theorem dX6_find_33 : decode cX6_find 33 = .ok (.invokevirtual 72, 3) := by decide +kernel
theorem dX6_find_36 : decode cX6_find 36 = .ok (.aload 4, 2) := by decide +kernel
theorem dX6_find_38 : decode cX6_find 38 = .ok (.aload_n 3, 1) := by decide +kernel
theorem dX6_find_39 : decode cX6_find 39 = .ok (.invokevirtual 72, 3) := by decide +kernel
theorem dX6_find_42 : decode cX6_find 42 = .ok (.aload 5, 2) := by decide +kernel
theorem dX6_find_44 : decode cX6_find 44 = .ok (.aload 4, 2) := by decide +kernel
theorem dX6_find_46 : decode cX6_find 46 = .ok (.aload_n 0, 1) := by decide +kernel
theorem dX6_find_47 : decode cX6_find 47 = .ok (.getfield 30, 3) := by decide +kernel
theorem dX6_find_50 : decode cX6_find 50 = .ok (.getfield 76, 3) := by decide +kernel
theorem dX6_find_53 : decode cX6_find 53 = .ok (.invokevirtual 79, 3) := by decide +kernel
theorem dX6_find_56 : decode cX6_find 56 = .ok (.aload_n 0, 1) := by decide +kernel
theorem dX6_find_57 : decode cX6_find 57 = .ok (.getfield 23, 3) := by decide +kernel
theorem dX6_find_60 : decode cX6_find 60 = .ok (.getfield 49, 3) := by decide +kernel
theorem dX6_find_63 : decode cX6_find 63 = .ok (.ifCond .ne 56, 3) := by decide +kernel
theorem dX6_find_66 : decode cX6_find 66 = .ok (.aload_n 0, 1) := by decide +kernel
theorem dX6_find_67 : decode cX6_find 67 = .ok (.getfield 20, 3) := by decide +kernel
theorem dX6_find_70 : decode cX6_find 70 = .ok (.iconst 0, 1) := by decide +kernel
theorem dX6_find_71 : decode cX6_find 71 = .ok (.aload_n 0, 1) := by decide +kernel
theorem dX6_find_72 : decode cX6_find 72 = .ok (.getfield 30, 3) := by decide +kernel
theorem dX6_find_75 : decode cX6_find 75 = .ok (.getfield 76, 3) := by decide +kernel
theorem dX6_find_78 : decode cX6_find 78 = .ok (.iconst 0, 1) := by decide +kernel
theorem dX6_find_79 : decode cX6_find 79 = .ok (.bipush 32, 2) := by decide +kernel
theorem dX6_find_81 : decode cX6_find 81 = .ok (.invokevirtual 85, 3) := by decide +kernel
theorem dX6_find_84 : decode cX6_find 84 = .ok (.aload_n 0, 1) := by decide +kernel
theorem dX6_find_85 : decode cX6_find 85 = .ok (.aload_n 1, 1) := by decide +kernel
theorem dX6_find_86 : decode cX6_find 86 = .ok (.invokevirtual 93, 3) := by decide +kernel
theorem dX6_find_89 : decode cX6_find 89 = .ok (.aload 4, 2) := by decide +kernel
theorem dX6_find_91 : decode cX6_find 91 = .ok (.aload_n 0, 1) := by decide +kernel
theorem dX6_find_92 : decode cX6_find 92 = .ok (.getfield 20, 3) := by decide +kernel
theorem dX6_find_95 : decode cX6_find 95 = .ok (.invokevirtual 72, 3) := by decide +kernel
theorem dX6_find_98 : decode cX6_find 98 = .ok (.aload 4, 2) := by decide +kernel
theorem dX6_find_100 : decode cX6_find 100 = .ok (.lconst 0, 1) := by decide +kernel
theorem dX6_find_101 : decode cX6_find 101 = .ok (.iconst 4, 1) := by decide +kernel
theorem dX6_find_102 : decode cX6_find 102 = .ok (.invokevirtual 89, 3) := by decide +kernel
theorem dX6_find_105 : decode cX6_find 105 = .ok (.aload 5, 2) := by decide +kernel
theorem dX6_find_107 : decode cX6_find 107 = .ok (.aload 4, 2) := by decide +kernel
theorem dX6_find_109 : decode cX6_find 109 = .ok (.aload_n 0, 1) := by decide +kernel
theorem dX6_find_110 : decode cX6_find 110 = .ok (.getfield 30, 3) := by decide +kernel
theorem dX6_find_113 : decode cX6_find 113 = .ok (.getfield 76, 3) := by decide +kernel
theorem dX6_find_116 : decode cX6_find 116 = .ok (.invokevirtual 79, 3) := by decide +kernel
theorem dX6_find_119 : decode cX6_find 119 = .ok (.aload_n 0, 1) := by decide +kernel
theorem dX6_find_120 : decode cX6_find 120 = .ok (.aload_n 0, 1) := by decide +kernel
theorem dX6_find_121 : decode cX6_find 121 = .ok (.getfield 30, 3) := by decide +kernel
theorem dX6_find_124 : decode cX6_find 124 = .ok (.getfield 76, 3) := by decide +kernel
theorem dX6_find_127 : decode cX6_find 127 = .ok (.invokevirtual 96, 3) := by decide +kernel
theorem dX6_find_130 : decode cX6_find 130 = .ok (.return_, 1) := by decide +kernel
set_option maxRecDepth 20000 in
theorem ggX6_addMasked_X7_at : GoodIn wsX6_addMasked wsX7_at := goodIn_r _ [10, 11, 12, 36, 37] rfl (by decide +kernel)
set_option maxRecDepth 20000 in
theorem gX6_addMasked_X7_at : GoodIn wsX6_addMasked (wsV RX6 34 RX7 yX7_at wsX7_at) := goodIn_app (goodIn_of _ (by decide +kernel)) ggX6_addMasked_X7_at
set_option maxRecDepth 20000 in
theorem ggX6_addMasked_X7_addNumber : GoodIn wsX6_addMasked wsX7_addNumber := goodIn_r _ [16, 11, 12, 36, 37] rfl (by decide +kernel)
set_option maxRecDepth 20000 in
theorem gX6_addMasked_X7_addNumber : GoodIn wsX6_addMasked (wsV RX6 89 RX7 yX7_addNumber wsX7_addNumber) := goodIn_app (goodIn_of _ (by decide +kernel)) ggX6_addMasked_X7_addNumber
theorem dX6_addMasked_0 : decode cX6_addMasked 0 = .ok (.iconst 0, 1) := by decide +kernel
theorem dX6_addMasked_1 : decode cX6_addMasked 1 = .ok (.istore_n 2, 1) := by decide +kernel
theorem dX6_addMasked_2 : decode cX6_addMasked 2 = .ok (.iload_n 2, 1) := by decide +kernel
theorem dX6_addMasked_3 : decode cX6_addMasked 3 = .ok (.bipush 64, 2) := by decide +kernel
theorem dX6_addMasked_5 : decode cX6_addMasked 5 = .ok (.if_icmp .ge 51, 3) := by decide +kernel
theorem dX6_addMasked_8 : decode cX6_addMasked 8 = .ok (.iload_n 2, 1) := by decide +kernel
theorem dX6_addMasked_9 : decode cX6_addMasked 9 = .ok (.aload_n 0, 1) := by decide +kernel
theorem dX6_addMasked_10 : decode cX6_addMasked 10 = .ok (.getfield 23, 3) := by decide +kernel
theorem dX6_addMasked_13 : decode cX6_addMasked 13 = .ok (.getfield 65, 3) := by decide +kernel
theorem dX6_addMasked_16 : decode cX6_addMasked 16 = .ok (.if_icmp .ge 17, 3) := by decide +kernel
theorem dX6_addMasked_19 : decode cX6_addMasked 19 = .ok (.aload_n 0, 1) := by decide +kernel
theorem dX6_addMasked_20 : decode cX6_addMasked 20 = .ok (.getfield 27, 3) := by decide +kernel
theorem dX6_addMasked_23 : decode cX6_addMasked 23 = .ok (.bipush 16, 2) := by decide +kernel
theorem dX6_addMasked_25 : decode cX6_addMasked 25 = .ok (.iload_n 2, 1) := by decide +kernel
theorem dX6_addMasked_26 : decode cX6_addMasked 26 = .ok (.iadd, 1) := by decide +kernel
theorem dX6_addMasked_27 : decode cX6_addMasked 27 = .ok (.invokevirtual 34, 3) := by decide +kernel
theorem dX6_addMasked_30 : decode cX6_addMasked 30 = .ok (.goto 4, 3) := by decide +kernel
theorem dX6_addMasked_33 : decode cX6_addMasked 33 = .ok (.iconst 0, 1) := by decide +kernel
theorem dX6_addMasked_34 : decode cX6_addMasked 34 = .ok (.istore_n 3, 1) := by decide +kernel
theorem dX6_addMasked_35 : decode cX6_addMasked 35 = .ok (.aload_n 0, 1) := by decide +kernel
theorem dX6_addMasked_36 : decode cX6_addMasked 36 = .ok (.getfield 30, 3) := by decide +kernel
theorem dX6_addMasked_39 : decode cX6_addMasked 39 = .ok (.getfield 44, 3) := by decide +kernel
theorem dX6_addMasked_42 : decode cX6_addMasked 42 = .ok (.iload_n 3, 1) := by decide +kernel
theorem dX6_addMasked_43 : decode cX6_addMasked 43 = .ok (.iload_n 1, 1) := by decide +kernel
theorem dX6_addMasked_44 : decode cX6_addMasked 44 = .ok (.ixor, 1) := by decide +kernel
theorem dX6_addMasked_45 : decode cX6_addMasked 45 = .ok (.i2l, 1) := by decide +kernel
theorem dX6_addMasked_46 : decode cX6_addMasked 46 = .ok (.iconst 1, 1) := by decide +kernel
theorem dX6_addMasked_47 : decode cX6_addMasked 47 = .ok (.invokevirtual 89, 3) := by decide +kernel
theorem dX6_addMasked_50 : decode cX6_addMasked 50 = .ok (.iinc 2 1, 3) := by decide +kernel
theorem dX6_addMasked_53 : decode cX6_addMasked 53 = .ok (.goto (-51), 3) := by decide +kernel
theorem dX6_addMasked_56 : decode cX6_addMasked 56 = .ok (.return_, 1) := by decide +kernel
set_option maxRecDepth 20000 in
theorem ggX6_startPoints_X7_clear : GoodIn wsX6_startPoints wsX7_clear := goodIn_r _ [10, 11, 48, 49] rfl (by decide +kernel)
set_option maxRecDepth 20000 in
theorem gX6_startPoints_X7_clear : GoodIn wsX6_startPoints (wsV RX6 59 RX7 yX7_clear wsX7_clear) := goodIn_app (goodIn_of _ (by decide +kernel)) ggX6_startPoints_X7_clear
set_option maxRecDepth 20000 in
theorem ggX6_startPoints_X7_add : GoodIn wsX6_startPoints wsX7_add := goodIn_r _ [15, 11, 16, 17, 18, 9, 19, 20, 21, 22, 23, 24, 25, 26, 27, 28, 48, 49] rfl (by decide +kernel)
set_option maxRecDepth 20000 in
theorem gX6_startPoints_X7_add : GoodIn wsX6_startPoints (wsV RX6 68 RX7 yX7_add wsX7_add) := goodIn_app (goodIn_of _ (by decide +kernel)) ggX6_startPoints_X7_add
theorem dX6_startPoints_0 : decode cX6_startPoints 0 = .ok (.aload_n 0, 1) := by decide +kernel
theorem dX6_startPoints_1 : decode cX6_startPoints 1 = .ok (.getfield 30, 3) := by decide +kernel
theorem dX6_startPoints_4 : decode cX6_startPoints 4 = .ok (.getfield 44, 3) := by decide +kernel
theorem dX6_startPoints_7 : decode cX6_startPoints 7 = .ok (.invokevirtual 59, 3) := by decide +kernel
theorem dX6_startPoints_10 : decode cX6_startPoints 10 = .ok (.aload_n 0, 1) := by decide +kernel
theorem dX6_startPoints_11 : decode cX6_startPoints 11 = .ok (.getfield 30, 3) := by decide +kernel
theorem dX6_startPoints_14 : decode cX6_startPoints 14 = .ok (.getfield 44, 3) := by decide +kernel
theorem dX6_startPoints_17 : decode cX6_startPoints 17 = .ok (.aload_n 1, 1) := by decide +kernel
theorem dX6_startPoints_18 : decode cX6_startPoints 18 = .ok (.iconst 0, 1) := by decide +kernel
theorem dX6_startPoints_19 : decode cX6_startPoints 19 = .ok (.aload_n 0, 1) := by decide +kernel
theorem dX6_startPoints_20 : decode cX6_startPoints 20 = .ok (.getfield 23, 3) := by decide +kernel
theorem dX6_startPoints_23 : decode cX6_startPoints 23 = .ok (.getfield 65, 3) := by decide +kernel
theorem dX6_startPoints_26 : decode cX6_startPoints 26 = .ok (.invokevirtual 68, 3) := by decide +kernel
theorem dX6_startPoints_29 : decode cX6_startPoints 29 = .ok (.aload_n 0, 1) := by decide +kernel
theorem dX6_startPoints_30 : decode cX6_startPoints 30 = .ok (.getfield 30, 3) := by decide +kernel
theorem dX6_startPoints_33 : decode cX6_startPoints 33 = .ok (.getfield 44, 3) := by decide +kernel
theorem dX6_startPoints_36 : decode cX6_startPoints 36 = .ok (.aload_n 0, 1) := by decide +kernel
theorem dX6_startPoints_37 : decode cX6_startPoints 37 = .ok (.getfield 27, 3) := by decide +kernel
theorem dX6_startPoints_40 : decode cX6_startPoints 40 = .ok (.bipush 32, 2) := by decide +kernel
theorem dX6_startPoints_42 : decode cX6_startPoints 42 = .ok (.aload_n 0, 1) := by decide +kernel
theorem dX6_startPoints_43 : decode cX6_startPoints 43 = .ok (.getfield 23, 3) := by decide +kernel
theorem dX6_startPoints_46 : decode cX6_startPoints 46 = .ok (.getfield 65, 3) := by decide +kernel
theorem dX6_startPoints_49 : decode cX6_startPoints 49 = .ok (.invokevirtual 68, 3) := by decide +kernel
theorem dX6_startPoints_52 : decode cX6_startPoints 52 = .ok (.return_, 1) := by decide +kernel
set_option maxRecDepth 20000 in
theorem ggX6_readNumbers_X6_roundedUp : GoodIn wsX6_readNumbers wsX6_roundedUp := goodIn_r _ [10] rfl (by decide +kernel)
set_option maxRecDepth 20000 in
theorem gX6_readNumbers_X6_roundedUp : GoodIn wsX6_readNumbers (va_wsS RX6 111 yX6_roundedUp wsX6_roundedUp) := goodIn_app (goodIn_of _ (by decide +kernel)) ggX6_readNumbers_X6_roundedUp
set_option maxRecDepth 20000 in
theorem ggX6_readNumbers_X7_at : GoodIn wsX6_readNumbers wsX7_at := goodIn_r _ [15, 16, 17, 40, 41] rfl (by decide +kernel)
set_option maxRecDepth 20000 in
theorem gX6_readNumbers_X7_at : GoodIn wsX6_readNumbers (wsV RX6 34 RX7 yX7_at wsX7_at) := goodIn_app (goodIn_of _ (by decide +kernel)) ggX6_readNumbers_X7_at
set_option maxRecDepth 20000 in
theorem ggX6_readNumbers_X7_clear : GoodIn wsX6_readNumbers wsX7_clear := goodIn_r _ [21, 16, 40, 41] rfl (by decide +kernel)
set_option maxRecDepth 20000 in
theorem gX6_readNumbers_X7_clear : GoodIn wsX6_readNumbers (wsV RX6 59 RX7 yX7_clear wsX7_clear) := goodIn_app (goodIn_of _ (by decide +kernel)) ggX6_readNumbers_X7_clear
set_option maxRecDepth 20000 in
theorem ggX6_readNumbers_X7_addNumber : GoodIn wsX6_readNumbers wsX7_addNumber := goodIn_r _ [25, 16, 17, 40, 41] rfl (by decide +kernel)
set_option maxRecDepth 20000 in
theorem gX6_readNumbers_X7_addNumber : GoodIn wsX6_readNumbers (wsV RX6 89 RX7 yX7_addNumber wsX7_addNumber) := goodIn_app (goodIn_of _ (by decide +kernel)) ggX6_readNumbers_X7_addNumber
set_option maxRecDepth 20000 in
theorem ggX6_readNumbers_X6_readBits : GoodIn wsX6_readNumbers wsX6_readBits := goodIn_r _ [28, 11, 12, 13, 14, 15, 16, 17, 40, 41] rfl (by decide +kernel)
set_option maxRecDepth 20000 in
theorem gX6_readNumbers_X6_readBits : GoodIn wsX6_readNumbers (va_wsS RX6 114 yX6_readBits wsX6_readBits) := goodIn_app (goodIn_of _ (by decide +kernel)) ggX6_readNumbers_X6_readBits
theorem dX6_readNumbers_0 : decode cX6_readNumbers 0 = .ok (.aload_n 0, 1) := by decide +kernel
theorem dX6_readNumbers_1 : decode cX6_readNumbers 1 = .ok (.getfield 23, 3) := by decide +kernel
theorem dX6_readNumbers_4 : decode cX6_readNumbers 4 = .ok (.getfield 99, 3) := by decide +kernel
theorem dX6_readNumbers_7 : decode cX6_readNumbers 7 = .ok (.aload_n 0, 1) := by decide +kernel
theorem dX6_readNumbers_8 : decode cX6_readNumbers 8 = .ok (.getfield 23, 3) := by decide +kernel
theorem dX6_readNumbers_11 : decode cX6_readNumbers 11 = .ok (.getfield 102, 3) := by decide +kernel
theorem dX6_readNumbers_14 : decode cX6_readNumbers 14 = .ok (.iconst 1, 1) := by decide +kernel
theorem dX6_readNumbers_15 : decode cX6_readNumbers 15 = .ok (.isub, 1) := by decide +kernel
theorem dX6_readNumbers_16 : decode cX6_readNumbers 16 = .ok (.imul, 1) := by decide +kernel
theorem dX6_readNumbers_17 : decode cX6_readNumbers 17 = .ok (.istore_n 2, 1) := by decide +kernel
theorem dX6_readNumbers_18 : decode cX6_readNumbers 18 = .ok (.aload_n 0, 1) := by decide +kernel
theorem dX6_readNumbers_19 : decode cX6_readNumbers 19 = .ok (.getfield 23, 3) := by decide +kernel
theorem dX6_readNumbers_22 : decode cX6_readNumbers 22 = .ok (.getfield 105, 3) := by decide +kernel
theorem dX6_readNumbers_25 : decode cX6_readNumbers 25 = .ok (.aload_n 0, 1) := by decide +kernel
theorem dX6_readNumbers_26 : decode cX6_readNumbers 26 = .ok (.getfield 23, 3) := by decide +kernel
theorem dX6_readNumbers_29 : decode cX6_readNumbers 29 = .ok (.getfield 108, 3) := by decide +kernel
theorem dX6_readNumbers_32 : decode cX6_readNumbers 32 = .ok (.imul, 1) := by decide +kernel
theorem dX6_readNumbers_33 : decode cX6_readNumbers 33 = .ok (.invokestatic 111, 3) := by decide +kernel
theorem dX6_readNumbers_36 : decode cX6_readNumbers 36 = .ok (.iload_n 2, 1) := by decide +kernel
theorem dX6_readNumbers_37 : decode cX6_readNumbers 37 = .ok (.invokestatic 111, 3) := by decide +kernel
theorem dX6_readNumbers_40 : decode cX6_readNumbers 40 = .ok (.iadd, 1) := by decide +kernel
theorem dX6_readNumbers_41 : decode cX6_readNumbers 41 = .ok (.istore_n 3, 1) := by decide +kernel
theorem dX6_readNumbers_42 : decode cX6_readNumbers 42 = .ok (.aload_n 1, 1) := by decide +kernel
theorem dX6_readNumbers_43 : decode cX6_readNumbers 43 = .ok (.iload_n 3, 1) := by decide +kernel
theorem dX6_readNumbers_44 : decode cX6_readNumbers 44 = .ok (.iconst 1, 1) := by decide +kernel
theorem dX6_readNumbers_45 : decode cX6_readNumbers 45 = .ok (.isub, 1) := by decide +kernel
theorem dX6_readNumbers_46 : decode cX6_readNumbers 46 = .ok (.invokevirtual 34, 3) := by decide +kernel
theorem dX6_readNumbers_49 : decode cX6_readNumbers 49 = .ok (.iconst 1, 1) := by decide +kernel
theorem dX6_readNumbers_50 : decode cX6_readNumbers 50 = .ok (.iload_n 2, 1) := by decide +kernel
theorem dX6_readNumbers_51 : decode cX6_readNumbers 51 = .ok (.ishl, 1) := by decide +kernel
theorem dX6_readNumbers_52 : decode cX6_readNumbers 52 = .ok (.iconst 1, 1) := by decide +kernel
theorem dX6_readNumbers_53 : decode cX6_readNumbers 53 = .ok (.isub, 1) := by decide +kernel
theorem dX6_readNumbers_54 : decode cX6_readNumbers 54 = .ok (.iand, 1) := by decide +kernel
theorem dX6_readNumbers_55 : decode cX6_readNumbers 55 = .ok (.istore 4, 2) := by decide +kernel
theorem dX6_readNumbers_57 : decode cX6_readNumbers 57 = .ok (.aload_n 0, 1) := by decide +kernel
theorem dX6_readNumbers_58 : decode cX6_readNumbers 58 = .ok (.getfield 14, 3) := by decide +kernel
theorem dX6_readNumbers_61 : decode cX6_readNumbers 61 = .ok (.invokevirtual 59, 3) := by decide +kernel
theorem dX6_readNumbers_64 : decode cX6_readNumbers 64 = .ok (.aload_n 0, 1) := by decide +kernel
theorem dX6_readNumbers_65 : decode cX6_readNumbers 65 = .ok (.getfield 14, 3) := by decide +kernel
theorem dX6_readNumbers_68 : decode cX6_readNumbers 68 = .ok (.iload 4, 2) := by decide +kernel
theorem dX6_readNumbers_70 : decode cX6_readNumbers 70 = .ok (.i2l, 1) := by decide +kernel
theorem dX6_readNumbers_71 : decode cX6_readNumbers 71 = .ok (.iconst 1, 1) := by decide +kernel
theorem dX6_readNumbers_72 : decode cX6_readNumbers 72 = .ok (.invokevirtual 89, 3) := by decide +kernel
theorem dX6_readNumbers_75 : decode cX6_readNumbers 75 = .ok (.aload_n 0, 1) := by decide +kernel
theorem dX6_readNumbers_76 : decode cX6_readNumbers 76 = .ok (.getfield 14, 3) := by decide +kernel
theorem dX6_readNumbers_79 : decode cX6_readNumbers 79 = .ok (.aload_n 1, 1) := by decide +kernel
theorem dX6_readNumbers_80 : decode cX6_readNumbers 80 = .ok (.iload_n 3, 1) := by decide +kernel
theorem dX6_readNumbers_81 : decode cX6_readNumbers 81 = .ok (.invokevirtual 34, 3) := by decide +kernel
theorem dX6_readNumbers_84 : decode cX6_readNumbers 84 = .ok (.iconst 1, 1) := by decide +kernel
theorem dX6_readNumbers_85 : decode cX6_readNumbers 85 = .ok (.aload_n 0, 1) := by decide +kernel
theorem dX6_readNumbers_86 : decode cX6_readNumbers 86 = .ok (.getfield 23, 3) := by decide +kernel
theorem dX6_readNumbers_89 : decode cX6_readNumbers 89 = .ok (.getfield 99, 3) := by decide +kernel
theorem dX6_readNumbers_92 : decode cX6_readNumbers 92 = .ok (.ishl, 1) := by decide +kernel
theorem dX6_readNumbers_93 : decode cX6_readNumbers 93 = .ok (.iconst 1, 1) := by decide +kernel
theorem dX6_readNumbers_94 : decode cX6_readNumbers 94 = .ok (.isub, 1) := by decide +kernel
theorem dX6_readNumbers_95 : decode cX6_readNumbers 95 = .ok (.iand, 1) := by decide +kernel
theorem dX6_readNumbers_96 : decode cX6_readNumbers 96 = .ok (.i2l, 1) := by decide +kernel
theorem dX6_readNumbers_97 : decode cX6_readNumbers 97 = .ok (.iconst 1, 1) := by decide +kernel
theorem dX6_readNumbers_98 : decode cX6_readNumbers 98 = .ok (.invokevirtual 89, 3) := by decide +kernel
theorem dX6_readNumbers_101 : decode cX6_readNumbers 101 = .ok (.iconst 0, 1) := by decide +kernel
theorem dX6_readNumbers_102 : decode cX6_readNumbers 102 = .ok (.istore 5, 2) := by decide +kernel
theorem dX6_readNumbers_104 : decode cX6_readNumbers 104 = .ok (.iload 5, 2) := by decide +kernel
theorem dX6_readNumbers_106 : decode cX6_readNumbers 106 = .ok (.aload_n 0, 1) := by decide +kernel
theorem dX6_readNumbers_107 : decode cX6_readNumbers 107 = .ok (.getfield 23, 3) := by decide +kernel
theorem dX6_readNumbers_110 : decode cX6_readNumbers 110 = .ok (.getfield 105, 3) := by decide +kernel
theorem dX6_readNumbers_113 : decode cX6_readNumbers 113 = .ok (.if_icmp .ge 39, 3) := by decide +kernel
theorem dX6_readNumbers_116 : decode cX6_readNumbers 116 = .ok (.aload_n 0, 1) := by decide +kernel
theorem dX6_readNumbers_117 : decode cX6_readNumbers 117 = .ok (.getfield 14, 3) := by decide +kernel
theorem dX6_readNumbers_120 : decode cX6_readNumbers 120 = .ok (.aload_n 1, 1) := by decide +kernel
theorem dX6_readNumbers_121 : decode cX6_readNumbers 121 = .ok (.iload 5, 2) := by decide +kernel
theorem dX6_readNumbers_123 : decode cX6_readNumbers 123 = .ok (.aload_n 0, 1) := by decide +kernel
theorem dX6_readNumbers_124 : decode cX6_readNumbers 124 = .ok (.getfield 23, 3) := by decide +kernel
theorem dX6_readNumbers_127 : decode cX6_readNumbers 127 = .ok (.getfield 108, 3) := by decide +kernel
theorem dX6_readNumbers_130 : decode cX6_readNumbers 130 = .ok (.imul, 1) := by decide +kernel
theorem dX6_readNumbers_131 : decode cX6_readNumbers 131 = .ok (.aload_n 0, 1) := by decide +kernel
theorem dX6_readNumbers_132 : decode cX6_readNumbers 132 = .ok (.getfield 23, 3) := by decide +kernel
theorem dX6_readNumbers_135 : decode cX6_readNumbers 135 = .ok (.getfield 108, 3) := by decide +kernel
theorem dX6_readNumbers_138 : decode cX6_readNumbers 138 = .ok (.invokestatic 114, 3) := by decide +kernel
theorem dX6_readNumbers_141 : decode cX6_readNumbers 141 = .ok (.i2l, 1) := by decide +kernel
theorem dX6_readNumbers_142 : decode cX6_readNumbers 142 = .ok (.iconst 1, 1) := by decide +kernel
theorem dX6_readNumbers_143 : decode cX6_readNumbers 143 = .ok (.invokevirtual 89, 3) := by decide +kernel
theorem dX6_readNumbers_146 : decode cX6_readNumbers 146 = .ok (.iinc 5 1, 3) := by decide +kernel
theorem dX6_readNumbers_149 : decode cX6_readNumbers 149 = .ok (.goto (-45), 3) := by decide +kernel
theorem dX6_readNumbers_152 : decode cX6_readNumbers 152 = .ok (.return_, 1) := by decide +kernel
set_option maxRecDepth 20000 in
theorem ggX6_readBits_X7_at : GoodIn wsX6_readBits wsX7_at := goodIn_r _ [5, 6, 7, 8, 9] rfl (by decide +kernel)
set_option maxRecDepth 20000 in
theorem gX6_readBits_X7_at : GoodIn wsX6_readBits (wsV RX6 34 RX7 yX7_at wsX7_at) := goodIn_app (goodIn_of _ (by decide +kernel)) ggX6_readBits_X7_at
theorem dX6_readBits_0 : decode cX6_readBits 0 = .ok (.iconst 0, 1) := by decide +kernel
theorem dX6_readBits_1 : decode cX6_readBits 1 = .ok (.istore_n 3, 1) := by decide +kernel
theorem dX6_readBits_2 : decode cX6_readBits 2 = .ok (.iload_n 1, 1) := by decide +kernel
theorem dX6_readBits_3 : decode cX6_readBits 3 = .ok (.istore 4, 2) := by decide +kernel
theorem dX6_readBits_5 : decode cX6_readBits 5 = .ok (.iload 4, 2) := by decide +kernel
theorem dX6_readBits_7 : decode cX6_readBits 7 = .ok (.iload_n 1, 1) := by decide +kernel
theorem dX6_readBits_8 : decode cX6_readBits 8 = .ok (.iload_n 2, 1) := by decide +kernel
theorem dX6_readBits_9 : decode cX6_readBits 9 = .ok (.iadd, 1) := by decide +kernel
theorem dX6_readBits_10 : decode cX6_readBits 10 = .ok (.if_icmp .ge 34, 3) := by decide +kernel
theorem dX6_readBits_13 : decode cX6_readBits 13 = .ok (.iconst 2, 1) := by decide +kernel
theorem dX6_readBits_14 : decode cX6_readBits 14 = .ok (.iload_n 3, 1) := by decide +kernel
theorem dX6_readBits_15 : decode cX6_readBits 15 = .ok (.imul, 1) := by decide +kernel
theorem dX6_readBits_16 : decode cX6_readBits 16 = .ok (.aload_n 0, 1) := by decide +kernel
theorem dX6_readBits_17 : decode cX6_readBits 17 = .ok (.iload 4, 2) := by decide +kernel
theorem dX6_readBits_19 : decode cX6_readBits 19 = .ok (.bipush 8, 2) := by decide +kernel
theorem dX6_readBits_21 : decode cX6_readBits 21 = .ok (.idiv, 1) := by decide +kernel
theorem dX6_readBits_22 : decode cX6_readBits 22 = .ok (.invokevirtual 34, 3) := by decide +kernel
theorem dX6_readBits_25 : decode cX6_readBits 25 = .ok (.bipush 7, 2) := by decide +kernel
theorem dX6_readBits_27 : decode cX6_readBits 27 = .ok (.iload 4, 2) := by decide +kernel
theorem dX6_readBits_29 : decode cX6_readBits 29 = .ok (.bipush 8, 2) := by decide +kernel
theorem dX6_readBits_31 : decode cX6_readBits 31 = .ok (.irem, 1) := by decide +kernel
theorem dX6_readBits_32 : decode cX6_readBits 32 = .ok (.isub, 1) := by decide +kernel
theorem dX6_readBits_33 : decode cX6_readBits 33 = .ok (.ishr, 1) := by decide +kernel
theorem dX6_readBits_34 : decode cX6_readBits 34 = .ok (.iconst 1, 1) := by decide +kernel
theorem dX6_readBits_35 : decode cX6_readBits 35 = .ok (.iand, 1) := by decide +kernel
theorem dX6_readBits_36 : decode cX6_readBits 36 = .ok (.iadd, 1) := by decide +kernel
theorem dX6_readBits_37 : decode cX6_readBits 37 = .ok (.istore_n 3, 1) := by decide +kernel
theorem dX6_readBits_38 : decode cX6_readBits 38 = .ok (.iinc 4 1, 3) := by decide +kernel
theorem dX6_readBits_41 : decode cX6_readBits 41 = .ok (.goto (-36), 3) := by decide +kernel
theorem dX6_readBits_44 : decode cX6_readBits 44 = .ok (.iload_n 3, 1) := by decide +kernel
theorem dX6_readBits_45 : decode cX6_readBits 45 = .ok (.ireturn, 1) := by decide +kernel
theorem dX6_roundedUp_0 : decode cX6_roundedUp 0 = .ok (.iload_n 0, 1) := by decide +kernel
theorem dX6_roundedUp_1 : decode cX6_roundedUp 1 = .ok (.bipush 7, 2) := by decide +kernel
theorem dX6_roundedUp_3 : decode cX6_roundedUp 3 = .ok (.iadd, 1) := by decide +kernel
theorem dX6_roundedUp_4 : decode cX6_roundedUp 4 = .ok (.bipush 8, 2) := by decide +kernel
theorem dX6_roundedUp_6 : decode cX6_roundedUp 6 = .ok (.idiv, 1) := by decide +kernel
theorem dX6_roundedUp_7 : decode cX6_roundedUp 7 = .ok (.ireturn, 1) := by decide +kernel
set_option maxHeartbeats 4000000 in
set_option maxRecDepth 100000 in
/-- Points.treeNumber -/
theorem c_ptree (l : Launch) (g : jG) (pt : Nat) (fnd : Nat) (mid : Nat) (sp : Nat) (sdr : Nat) (hh : Nat) (fna : Nat) (nfd : Nat) (fdf : Nat → Int32) (ix : Nat → Nat) (hnf8 : nfd ≤ 8) (hfx : ∀ i, i < nfd → fdf i = nI (ix i)) (hix : ∀ i, ix i < 16) (hk : 0 < nfd) : jC l g yX6_treeNumber wsX6_treeNumber ({ frames := 1, cells := 0, slots := 0, locals := 21 } : Room) [.ref pt] [oB pt 6 [.ref fnd, .ref mid, .ref sp, .ref sdr, .ref hh], oB fnd 7 [.ref fna, .int (nI nfd)], bA g fna 8 fdf] (fun jj : Unit => some (.int (nI (ix 0)))) (fun jj : Unit => True) (fun jj : Unit => [oB pt 6 [.ref fnd, .ref mid, .ref sp, .ref sdr, .ref hh], oB fnd 7 [.ref fna, .int (nI nfd)], bA g fna 8 fdf]) := by
  refine jC.of (cc := cX6_treeNumber) (own := RX6) (maxL := 1) (ret := (some .int)) (by decide +kernel) rfl rfl (Nat.le_of_ble_eq_true rfl) (fun u hu => ⟨_, rfl, rfl⟩) ?_
  intro p e s m below meth c A Q hX hret
  have in6 : ∀ w ∈ wsX60, w ∈ wsX6_treeNumber := (fun w h => List.mem_cons_of_mem _ (List.mem_append_left _ (List.mem_append_right _ h)))
  have h16 := hix 0
  refine j_aload_n hX 0 dX6_treeNumber_0 rfl ?_
  refine j_get hX in6 6 0 0 (v := .ref fnd) rfl rfl (by decide) (List.mem_of_getElem? (i := 1) rfl) rfl rfl dX6_treeNumber_1 ?_
  refine j_iconst hX (0) dX6_treeNumber_4 (by decide) ?_
  refine j_callV2 hX 1 (c_at l g fnd fna nfd 8 fdf 0 (by omega) (by omega)) gX6_treeNumber_X7_at (by decide +kernel) rfl ⟨rfl, rfl⟩ ⟨Nat.le_of_ble_eq_true rfl, Nat.le_of_ble_eq_true rfl⟩ 7 1 rfl rfl [1, 2] [0] 3 rfl (by decide) (fun jj : Unit => [oB pt 6 [.ref fnd, .ref mid, .ref sp, .ref sdr, .ref hh], oB fnd 7 [.ref fna, .int (nI nfd)], bA g fna 8 fdf]) (fun _ => rfl) (by decide) [pt, fnd, fna] rfl (fun _ => rfl) (fun _ => rfl) [oB pt 6 [.ref fnd, .ref mid, .ref sp, .ref sdr, .ref hh]] rfl (fun _ => rfl) rfl [] rfl (Nat.le_of_ble_eq_true rfl) ⟨Nat.le_refl _, Nat.le_refl _⟩ dX6_treeNumber_5 ?_
  intro _ hu_1
  refine j_w [oB pt 6 [.ref fnd, .ref mid, .ref sp, .ref sdr, .ref hh], oB fnd 7 [.ref fna, .int (nI nfd)], bA g fna 8 fdf] rfl ?_
  refine j_st [.int (rAt fdf nfd 0)] rfl ?_
  refine j_topeq _ (nI (ix 0)) (rAt_ix (j := 0) (hfx 0 hk) (by omega) hk (by omega)) ?_
  refine j_iconst hX (0) dX6_treeNumber_8 (by decide) ?_
  refine j_mmax hX (List.mem_of_getElem? (i := 2) rfl) (List.mem_of_getElem? (i := 3) rfl) (List.mem_of_getElem? (i := 4) rfl) (List.mem_of_getElem? (i := 5) rfl) (by decide) (Nat.le_of_ble_eq_true rfl) ⟨Nat.le_refl _, Nat.le_refl _⟩ dX6_treeNumber_9 ?_
  refine j_topeq _ (nI (ix 0)) (if_neg (nI_pos (by omega))) ?_
  exact hret () trivial 12 _ .ireturn dX6_treeNumber_12 rfl

set_option maxHeartbeats 4000000 in
set_option maxRecDepth 100000 in
/-- Points.leafNumber -/
theorem c_pleaf (l : Launch) (g : jG) (pt : Nat) (fnd : Nat) (mid : Nat) (sp : Nat) (sdr : Nat) (hh : Nat) (fna : Nat) (nfd : Nat) (fdf : Nat → Int32) (ix : Nat → Nat) (hnf8 : nfd ≤ 8) (hfx : ∀ i, i < nfd → fdf i = nI (ix i)) (hix : ∀ i, ix i < 16) (hk : 1 < nfd) : jC l g yX6_leafNumber wsX6_leafNumber ({ frames := 1, cells := 0, slots := 0, locals := 21 } : Room) [.ref pt] [oB pt 6 [.ref fnd, .ref mid, .ref sp, .ref sdr, .ref hh], oB fnd 7 [.ref fna, .int (nI nfd)], bA g fna 8 fdf] (fun jj : Unit => some (.int (nI (ix 1)))) (fun jj : Unit => True) (fun jj : Unit => [oB pt 6 [.ref fnd, .ref mid, .ref sp, .ref sdr, .ref hh], oB fnd 7 [.ref fna, .int (nI nfd)], bA g fna 8 fdf]) := by
  refine jC.of (cc := cX6_leafNumber) (own := RX6) (maxL := 1) (ret := (some .int)) (by decide +kernel) rfl rfl (Nat.le_of_ble_eq_true rfl) (fun u hu => ⟨_, rfl, rfl⟩) ?_
  intro p e s m below meth c A Q hX hret
  have in6 : ∀ w ∈ wsX60, w ∈ wsX6_leafNumber := (fun w h => List.mem_cons_of_mem _ (List.mem_append_left _ (List.mem_append_right _ h)))
  have h16 := hix 1
  refine j_aload_n hX 0 dX6_leafNumber_0 rfl ?_
  refine j_get hX in6 6 0 0 (v := .ref fnd) rfl rfl (by decide) (List.mem_of_getElem? (i := 1) rfl) rfl rfl dX6_leafNumber_1 ?_
  refine j_iconst hX (1) dX6_leafNumber_4 (by decide) ?_
  refine j_callV2 hX 1 (c_at l g fnd fna nfd 8 fdf 1 (by omega) (by omega)) gX6_leafNumber_X7_at (by decide +kernel) rfl ⟨rfl, rfl⟩ ⟨Nat.le_of_ble_eq_true rfl, Nat.le_of_ble_eq_true rfl⟩ 7 1 rfl rfl [1, 2] [0] 3 rfl (by decide) (fun jj : Unit => [oB pt 6 [.ref fnd, .ref mid, .ref sp, .ref sdr, .ref hh], oB fnd 7 [.ref fna, .int (nI nfd)], bA g fna 8 fdf]) (fun _ => rfl) (by decide) [pt, fnd, fna] rfl (fun _ => rfl) (fun _ => rfl) [oB pt 6 [.ref fnd, .ref mid, .ref sp, .ref sdr, .ref hh]] rfl (fun _ => rfl) rfl [] rfl (Nat.le_of_ble_eq_true rfl) ⟨Nat.le_refl _, Nat.le_refl _⟩ dX6_leafNumber_5 ?_
  intro _ hu_1
  refine j_w [oB pt 6 [.ref fnd, .ref mid, .ref sp, .ref sdr, .ref hh], oB fnd 7 [.ref fna, .int (nI nfd)], bA g fna 8 fdf] rfl ?_
  refine j_st [.int (rAt fdf nfd 1)] rfl ?_
  refine j_topeq _ (nI (ix 1)) (rAt_ix (j := 1) (hfx 1 hk) (by omega) hk (by omega)) ?_
  refine j_iconst hX (0) dX6_leafNumber_8 (by decide) ?_
  refine j_mmax hX (List.mem_of_getElem? (i := 2) rfl) (List.mem_of_getElem? (i := 3) rfl) (List.mem_of_getElem? (i := 4) rfl) (List.mem_of_getElem? (i := 5) rfl) (by decide) (Nat.le_of_ble_eq_true rfl) ⟨Nat.le_refl _, Nat.le_refl _⟩ dX6_leafNumber_9 ?_
  refine j_topeq _ (nI (ix 1)) (if_neg (nI_pos (by omega))) ?_
  exact hret () trivial 12 _ .ireturn dX6_leafNumber_12 rfl

set_option maxHeartbeats 4000000 in
set_option maxRecDepth 100000 in
/-- Points.choice -/
theorem c_choice (l : Launch) (g : jG) (pt : Nat) (fnd : Nat) (mid : Nat) (sp : Nat) (sdr : Nat) (hh : Nat) (fna : Nat) (nfd : Nat) (fdf : Nat → Int32) (ix : Nat → Nat) (i : Nat) (hnf8 : nfd ≤ 8) (hfx : ∀ i, i < nfd → fdf i = nI (ix i)) (hix : ∀ i, ix i < 16) (hk : 2 + i < nfd) : jC l g yX6_choice wsX6_choice ({ frames := 1, cells := 0, slots := 0, locals := 21 } : Room) [.ref pt, .int (nI i)] [oB pt 6 [.ref fnd, .ref mid, .ref sp, .ref sdr, .ref hh], oB fnd 7 [.ref fna, .int (nI nfd)], bA g fna 8 fdf] (fun jj : Unit => some (.int (nI (ix (2 + i))))) (fun jj : Unit => True) (fun jj : Unit => [oB pt 6 [.ref fnd, .ref mid, .ref sp, .ref sdr, .ref hh], oB fnd 7 [.ref fna, .int (nI nfd)], bA g fna 8 fdf]) := by
  refine jC.of (cc := cX6_choice) (own := RX6) (maxL := 2) (ret := (some .int)) (by decide +kernel) rfl rfl (Nat.le_of_ble_eq_true rfl) (fun u hu => ⟨_, rfl, rfl⟩) ?_
  intro p e s m below meth c A Q hX hret
  have in6 : ∀ w ∈ wsX60, w ∈ wsX6_choice := (fun w h => List.mem_cons_of_mem _ (List.mem_append_left _ (List.mem_append_right _ h)))
  have h16 := hix (2 + i)
  refine j_aload_n hX 0 dX6_choice_0 rfl ?_
  refine j_get hX in6 6 0 0 (v := .ref fnd) rfl rfl (by decide) (List.mem_of_getElem? (i := 1) rfl) rfl rfl dX6_choice_1 ?_
  refine j_iconst hX (2) dX6_choice_4 (by decide) ?_
  refine j_iload_n hX 1 dX6_choice_5 rfl ?_
  refine j_iaddN hX 2 i dX6_choice_6 ?_
  refine j_callV2 hX 1 (c_at l g fnd fna nfd 8 fdf (nI (2 + i)) (by omega) (by omega)) gX6_choice_X7_at (by decide +kernel) rfl ⟨rfl, rfl⟩ ⟨Nat.le_of_ble_eq_true rfl, Nat.le_of_ble_eq_true rfl⟩ 7 1 rfl rfl [1, 2] [0] 3 rfl (by decide) (fun jj : Unit => [oB pt 6 [.ref fnd, .ref mid, .ref sp, .ref sdr, .ref hh], oB fnd 7 [.ref fna, .int (nI nfd)], bA g fna 8 fdf]) (fun _ => rfl) (by decide) [pt, fnd, fna] rfl (fun _ => rfl) (fun _ => rfl) [oB pt 6 [.ref fnd, .ref mid, .ref sp, .ref sdr, .ref hh]] rfl (fun _ => rfl) rfl [] rfl (Nat.le_of_ble_eq_true rfl) ⟨Nat.le_refl _, Nat.le_refl _⟩ dX6_choice_7 ?_
  intro _ hu_1
  refine j_w [oB pt 6 [.ref fnd, .ref mid, .ref sp, .ref sdr, .ref hh], oB fnd 7 [.ref fna, .int (nI nfd)], bA g fna 8 fdf] rfl ?_
  refine j_st [.int (rAt fdf nfd (nI (2 + i)))] rfl ?_
  refine j_topeq _ (nI (ix (2 + i))) (rAt_ix (hfx _ hk) (by omega) hk (by omega)) ?_
  refine j_iconst hX (0) dX6_choice_10 (by decide) ?_
  refine j_pc 11 rfl ?_
  refine j_mmax hX (List.mem_of_getElem? (i := 2) rfl) (List.mem_of_getElem? (i := 3) rfl) (List.mem_of_getElem? (i := 4) rfl) (List.mem_of_getElem? (i := 5) rfl) (by decide) (Nat.le_of_ble_eq_true rfl) ⟨Nat.le_refl _, Nat.le_refl _⟩ dX6_choice_11 ?_
  refine j_topeq _ (nI (ix (2 + i))) (if_neg (nI_pos (by omega))) ?_
  exact hret () trivial 14 _ .ireturn dX6_choice_14 rfl

set_option maxHeartbeats 4000000 in
set_option maxRecDepth 100000 in
/-- Points.roundedUp -/
theorem c_roundedUp (l : Launch) (g : jG) (q : Nat) (hq : q < 2 ^ 20) : jC l g yX6_roundedUp wsX6_roundedUp ({ frames := 0, cells := 0, slots := 0, locals := 0 } : Room) [.int (nI q)] [] (fun jj : Unit => some (.int (nI ((q + 7) / 8)))) (fun jj : Unit => True) (fun jj : Unit => []) := by
  refine jC.of (cc := cX6_roundedUp) (own := RX6) (maxL := 1) (ret := (some .int)) (by decide +kernel) rfl rfl (Nat.le_of_ble_eq_true rfl) (fun u hu => ⟨_, rfl, rfl⟩) ?_
  intro p e s m below meth c A Q hX hret
  refine j_iload_n hX 0 dX6_roundedUp_0 rfl ?_
  refine j_bipush hX (7) dX6_roundedUp_1 (by decide) ?_
  refine j_iaddN hX q 7 dX6_roundedUp_3 ?_
  refine j_bipush hX (8) dX6_roundedUp_4 (by decide) ?_
  refine j_idivN hX (q + 7) 8 (by omega) (by omega) (by omega) dX6_roundedUp_6 ?_
  exact hret () trivial 7 _ .ireturn dX6_roundedUp_7 rfl

set_option maxHeartbeats 4000000 in
set_option maxRecDepth 100000 in
/-- Points.readBits -/
theorem c_readBits (l : Launch) (g : jG) (hr : Nat) (hra : Nat) (nh : Nat) (hf : Nat → Int32) (fr : Nat) (cn : Nat) (hnh : nh ≤ 32) (hcn : cn ≤ 4) (hfc : fr + cn ≤ 8 * nh) : jC l g yX6_readBits wsX6_readBits ({ frames := 1, cells := 0, slots := 0, locals := 21 } : Room) [.ref hr, .int (nI fr), .int (nI cn)] [oB hr 7 [.ref hra, .int (nI nh)], bA g hra 32 hf] (fun jj : Unit => some (.int (nI (bts hf fr cn)))) (fun jj : Unit => True) (fun jj : Unit => [oB hr 7 [.ref hra, .int (nI nh)], bA g hra 32 hf]) := by
  refine jC.of (cc := cX6_readBits) (own := RX6) (maxL := 5) (ret := (some .int)) (by decide +kernel) rfl rfl (Nat.le_of_ble_eq_true rfl) (fun u hu => ⟨_, rfl, rfl⟩) ?_
  intro p e s m below meth c A Q hX hret
  refine j_iconst hX (0) dX6_readBits_0 (by decide) ?_
  refine j_st [.int (nI 0)] rfl ?_
  refine j_istore_n hX 3 [(3, .int (nI 0)), (0, .ref hr), (1, .int (nI fr)), (2, .int (nI cn))] dX6_readBits_1 rfl (by decide) rfl ?_
  refine j_iload_n hX 2 dX6_readBits_2 rfl ?_
  refine j_istore hX [(4, .int (nI fr)), (3, .int (nI 0)), (0, .ref hr), (1, .int (nI fr)), (2, .int (nI cn))] dX6_readBits_3 (by decide) rfl ?_
  have lp_1 : ∀ (n_2 : Nat) (i : Nat) (k : Nat) (v : Nat), (cn - k < n_2) → (i = fr + k) → (k ≤ cn) → (v = bts hf fr k) → J p l e ({ frames := 1, cells := 0, slots := 0, locals := 21 } : Room) s m ([.ref hr, .int (nI fr), .int (nI cn)] : List Value).toArray below meth c g A 5 Q 0 0 [oB hr 7 [.ref hra, .int (nI nh)], bA g hra 32 hf] [(0, .ref hr), (1, .int (nI fr)), (2, .int (nI cn)), (3, .int (nI v)), (4, .int (nI i))] 5 [] := by
    intro n_2
    induction n_2 with
    | zero => intro i k v hm; exact absurd hm (Nat.not_lt_zero _)
    | succ n_2 ih_3 =>
      intro i k v hm hi hk hv
      refine j_iload hX 4 dX6_readBits_5 rfl ?_
      refine j_iload_n hX 1 dX6_readBits_7 rfl ?_
      refine j_iload_n hX 2 dX6_readBits_8 rfl ?_
      refine j_pc 9 rfl ?_
      refine j_iaddN hX fr cn dX6_readBits_9 ?_
      refine j_icmp_geN hX i (fr + cn) 44 dX6_readBits_10 (by decide) (by omega) (by omega) (fun b_10 => ?_) (fun b_10 => ?_)
      · skip
        refine j_iload_n hX 3 dX6_readBits_44 rfl ?_
        refine j_topeq _ (nI (bts hf fr cn)) (by rw [hv, show k = cn by omega]) ?_
        exact hret () trivial 45 _ .ireturn dX6_readBits_45 rfl
      · skip
        have hb16 := bts_lt hf fr k
        have hp16 : 2 ^ k ≤ 16 := pow_le16 (by omega)
        refine j_iconst hX (2) dX6_readBits_13 (by decide) ?_
        refine j_iload_n hX 3 dX6_readBits_14 rfl ?_
        refine j_imulN hX 2 v dX6_readBits_15 ?_
        refine j_aload_n hX 0 dX6_readBits_16 rfl ?_
        refine j_pc 17 rfl ?_
        refine j_iload hX 4 dX6_readBits_17 rfl ?_
        refine j_bipush hX (8) dX6_readBits_19 (by decide) ?_
        refine j_idivN hX i 8 (by omega) (by omega) (by omega) dX6_readBits_21 ?_
        refine j_callV2 hX 1 (c_at l g hr hra nh 32 hf (nI (i / 8)) hnh (by omega)) gX6_readBits_X7_at (by decide +kernel) rfl ⟨rfl, rfl⟩ ⟨Nat.le_of_ble_eq_true rfl, Nat.le_of_ble_eq_true rfl⟩ 7 0 rfl rfl [0, 1] [] 2 rfl (by decide) (fun jj : Unit => [oB hr 7 [.ref hra, .int (nI nh)], bA g hra 32 hf]) (fun _ => rfl) (by decide) [hr, hra] rfl (fun _ => rfl) (fun _ => rfl) [] rfl (fun _ => rfl) rfl [.int (nI (2 * v))] rfl (Nat.le_of_ble_eq_true rfl) ⟨Nat.le_refl _, Nat.le_refl _⟩ dX6_readBits_22 ?_
        intro _ hu_4
        refine j_w [oB hr 7 [.ref hra, .int (nI nh)], bA g hra 32 hf] rfl ?_
        refine j_st [.int (rAt hf nh (nI (i / 8))), .int (nI (2 * v))] rfl ?_
        refine j_topeq _ (nI (tn (hf (i / 8)) % 256)) ((rAt_in (by omega) (by omega)).trans (tn_255 _)) ?_
        refine j_bipush hX (7) dX6_readBits_25 (by decide) ?_
        refine j_iload hX 4 dX6_readBits_27 rfl ?_
        refine j_bipush hX (8) dX6_readBits_29 (by decide) ?_
        refine j_iremN hX i 8 (by omega) (by omega) (by omega) dX6_readBits_31 ?_
        refine j_pc 32 rfl ?_
        refine j_isubN hX 7 (i % 8) (by omega) dX6_readBits_32 ?_
        refine j_ishrN hX (tn (hf (i / 8)) % 256) (7 - (i % 8)) (by omega) (by omega) dX6_readBits_33 ?_
        refine j_iconst hX (1) dX6_readBits_34 (by decide) ?_
        refine j_iand hX dX6_readBits_35 ?_
        refine j_topeq _ (nI (bitB hf i)) (pk_andN (by have h9 := Nat.div_le_self (tn (hf (i / 8)) % 256) (2 ^ (7 - i % 8)); omega) 1 rfl) ?_
        refine j_iaddN hX (2 * v) (bitB hf i) dX6_readBits_36 ?_
        refine j_istore_n hX 3 [(3, .int (nI ((2 * v) + (bitB hf i)))), (0, .ref hr), (1, .int (nI fr)), (2, .int (nI cn)), (4, .int (nI i))] dX6_readBits_37 rfl (by decide) rfl ?_
        refine j_iincN hX i (i + 1) [(4, .int (nI (i + 1))), (3, .int (nI ((2 * v) + (bitB hf i)))), (0, .ref hr), (1, .int (nI fr)), (2, .int (nI cn))] 4 dX6_readBits_38 rfl (nI_1 _) (by decide) rfl ?_
        refine j_goto hX 5 dX6_readBits_41 (by decide) ?_
        refine j_perm [(0, .ref hr), (1, .int (nI fr)), (2, .int (nI cn)), (3, .int (nI ((2 * v) + (bitB hf i)))), (4, .int (nI (i + 1)))] [2, 3, 4, 1, 0] rfl ?_
        exact ih_3 (i + 1) (k + 1) ((2 * v) + (bitB hf i)) (by omega) (by omega) (by omega) (by rw [hv, hi]; rfl)
  refine j_perm [(0, .ref hr), (1, .int (nI fr)), (2, .int (nI cn)), (3, .int (nI 0)), (4, .int (nI fr))] [2, 3, 4, 1, 0] rfl ?_
  exact lp_1 _ fr 0 0 (Nat.lt_succ_self _) (by omega) (by omega) rfl

set_option maxHeartbeats 4000000 in
set_option maxRecDepth 100000 in
/-- Points.readNumbers -/
theorem c_readNumbers (l : Launch) (g : jG) (pt : Nat) (fnd : Nat) (mid : Nat) (sp : Nat) (sdr : Nat) (hh : Nat) (fm : Nat) (nn : Nat) (ht : Nat) (lys : Nat) (fa : Nat) (mk : Nat) (fna : Nat) (nfd : Nat) (fdf : Nat → Int32) (hr : Nat) (hra : Nat) (nh : Nat) (hf : Nat → Int32) (hnh : nh = 32) (hFB : isB fdf) (hht : ht ≤ 2) (hlys : 1 ≤ lys ∧ lys ≤ 2) (hfa : 1 ≤ fa ∧ fa ≤ 4) (hmk : 1 ≤ mk ∧ mk ≤ 6) : jC l g yX6_readNumbers wsX6_readNumbers ({ frames := 2, cells := 0, slots := 0, locals := 45 } : Room) [.ref pt, .ref hr] [oB pt 6 [.ref fnd, .ref mid, .ref sp, .ref sdr, .ref hh], oB sp 8 [.int (nI fm), .int (nI nn), .int (nI ht), .int (nI lys), .int (nI fa), .int (nI mk)], oB fnd 7 [.ref fna, .int (nI nfd)], bA g fna 8 fdf, oB hr 7 [.ref hra, .int (nI nh)], bA g hra 32 hf] (fun jj : (Nat → Int32) => none) (fun jj : (Nat → Int32) => isB jj ∧ ∀ j, j < 2 + mk → jj j = nI (ixN hf ht lys fa mk j)) (fun jj : (Nat → Int32) => [oB pt 6 [.ref fnd, .ref mid, .ref sp, .ref sdr, .ref hh], oB sp 8 [.int (nI fm), .int (nI nn), .int (nI ht), .int (nI lys), .int (nI fa), .int (nI mk)], oB fnd 7 [.ref fna, .int (nI (2 + mk))], bA g fna 8 jj, oB hr 7 [.ref hra, .int (nI nh)], bA g hra 32 hf]) := by
  refine jC.of (cc := cX6_readNumbers) (own := RX6) (maxL := 6) (ret := none) (by decide +kernel) rfl rfl (Nat.le_of_ble_eq_true rfl) (fun u hu => rfl) ?_
  intro p e s m below meth c A Q hX hret
  have in6 : ∀ w ∈ wsX60, w ∈ wsX6_readNumbers := (fun w h => List.mem_cons_of_mem _ (List.mem_append_left _ (List.mem_append_left _ (List.mem_append_right _ h))))
  have in8 : ∀ w ∈ wsX80, w ∈ wsX6_readNumbers := (fun w h => List.mem_cons_of_mem _ (List.mem_append_left _ (List.mem_append_right _ h)))
  obtain ⟨b1, b2, b3, b4, b5⟩ := teN_bd hht hlys hfa hmk
  have hte : teN ht lys fa mk = (mk * fa + 7) / 8 + (ht * (lys - 1) + 7) / 8 := rfl
  have hp1 := pow_le16 (show ht * (lys - 1) ≤ 4 by omega)
  have hp2 := pow_le16 (show ht ≤ 4 by omega)
  have hq1 := Nat.two_pow_pos (ht * (lys - 1))
  have hq2 := Nat.two_pow_pos ht
  have hx0 := ixN_lt hf hht hlys hfa hmk 0
  have hx1 := ixN_lt hf hht hlys hfa hmk 1
  refine j_aload_n hX 0 dX6_readNumbers_0 rfl ?_
  refine j_get hX in6 6 0 2 (v := .ref sp) rfl rfl (by decide) (List.mem_of_getElem? (i := 1) rfl) rfl rfl dX6_readNumbers_1 ?_
  refine j_get hX in8 8 1 2 (v := .int (nI ht)) rfl rfl (by decide) (List.mem_of_getElem? (i := 2) rfl) rfl rfl dX6_readNumbers_4 ?_
  refine j_aload_n hX 0 dX6_readNumbers_7 rfl ?_
  refine j_get hX in6 6 0 2 (v := .ref sp) rfl rfl (by decide) (List.mem_of_getElem? (i := 1) rfl) rfl rfl dX6_readNumbers_8 ?_
  refine j_get hX in8 8 1 3 (v := .int (nI lys)) rfl rfl (by decide) (List.mem_of_getElem? (i := 3) rfl) rfl rfl dX6_readNumbers_11 ?_
  refine j_iconst hX (1) dX6_readNumbers_14 (by decide) ?_
  refine j_pc 15 rfl ?_
  refine j_isubN hX lys 1 (by omega) dX6_readNumbers_15 ?_
  refine j_imulN hX ht (lys - 1) dX6_readNumbers_16 ?_
  refine j_istore_n hX 2 [(2, .int (nI (ht * (lys - 1)))), (0, .ref pt), (1, .ref hr)] dX6_readNumbers_17 rfl (by decide) rfl ?_
  refine j_aload_n hX 1 dX6_readNumbers_18 rfl ?_
  refine j_get hX in6 6 0 2 (v := .ref sp) rfl rfl (by decide) (List.mem_of_getElem? (i := 1) rfl) rfl rfl dX6_readNumbers_19 ?_
  refine j_get hX in8 8 1 5 (v := .int (nI mk)) rfl rfl (by decide) (List.mem_of_getElem? (i := 4) rfl) rfl rfl dX6_readNumbers_22 ?_
  refine j_aload_n hX 1 dX6_readNumbers_25 rfl ?_
  refine j_get hX in6 6 0 2 (v := .ref sp) rfl rfl (by decide) (List.mem_of_getElem? (i := 1) rfl) rfl rfl dX6_readNumbers_26 ?_
  refine j_pc 29 rfl ?_
  refine j_get hX in8 8 1 4 (v := .int (nI fa)) rfl rfl (by decide) (List.mem_of_getElem? (i := 5) rfl) rfl rfl dX6_readNumbers_29 ?_
  refine j_imulN hX mk fa dX6_readNumbers_32 ?_
  refine j_callS2 hX 1 (c_roundedUp l g (mk * fa) (by omega)) gX6_readNumbers_X6_roundedUp (by decide +kernel) rfl ⟨rfl, rfl⟩ ⟨Nat.le_of_ble_eq_true rfl, Nat.le_of_ble_eq_true rfl⟩ [] [0, 1, 2, 3, 4, 5] 6 rfl (by decide) (fun jj : Unit => [oB pt 6 [.ref fnd, .ref mid, .ref sp, .ref sdr, .ref hh], oB sp 8 [.int (nI fm), .int (nI nn), .int (nI ht), .int (nI lys), .int (nI fa), .int (nI mk)], oB fnd 7 [.ref fna, .int (nI nfd)], bA g fna 8 fdf, oB hr 7 [.ref hra, .int (nI nh)], bA g hra 32 hf]) (fun _ => rfl) (by decide) [pt, sp, fnd, fna, hr, hra] rfl (fun _ => rfl) (fun _ => rfl) [oB pt 6 [.ref fnd, .ref mid, .ref sp, .ref sdr, .ref hh], oB sp 8 [.int (nI fm), .int (nI nn), .int (nI ht), .int (nI lys), .int (nI fa), .int (nI mk)], oB fnd 7 [.ref fna, .int (nI nfd)], bA g fna 8 fdf, oB hr 7 [.ref hra, .int (nI nh)], bA g hra 32 hf] rfl (fun _ => rfl) rfl [] rfl (Nat.le_of_ble_eq_true rfl) ⟨Nat.le_refl _, Nat.le_refl _⟩ dX6_readNumbers_33 ?_
  intro _ hu_1
  refine j_w [oB pt 6 [.ref fnd, .ref mid, .ref sp, .ref sdr, .ref hh], oB sp 8 [.int (nI fm), .int (nI nn), .int (nI ht), .int (nI lys), .int (nI fa), .int (nI mk)], oB fnd 7 [.ref fna, .int (nI nfd)], bA g fna 8 fdf, oB hr 7 [.ref hra, .int (nI nh)], bA g hra 32 hf] rfl ?_
  refine j_st [.int (nI (((mk * fa) + 7) / 8))] rfl ?_
  refine j_iload_n hX 0 dX6_readNumbers_36 rfl ?_
  refine j_callS2 hX 1 (c_roundedUp l g (ht * (lys - 1)) (by omega)) gX6_readNumbers_X6_roundedUp (by decide +kernel) rfl ⟨rfl, rfl⟩ ⟨Nat.le_of_ble_eq_true rfl, Nat.le_of_ble_eq_true rfl⟩ [] [0, 1, 2, 3, 4, 5] 6 rfl (by decide) (fun jj : Unit => [oB pt 6 [.ref fnd, .ref mid, .ref sp, .ref sdr, .ref hh], oB sp 8 [.int (nI fm), .int (nI nn), .int (nI ht), .int (nI lys), .int (nI fa), .int (nI mk)], oB fnd 7 [.ref fna, .int (nI nfd)], bA g fna 8 fdf, oB hr 7 [.ref hra, .int (nI nh)], bA g hra 32 hf]) (fun _ => rfl) (by decide) [pt, sp, fnd, fna, hr, hra] rfl (fun _ => rfl) (fun _ => rfl) [oB pt 6 [.ref fnd, .ref mid, .ref sp, .ref sdr, .ref hh], oB sp 8 [.int (nI fm), .int (nI nn), .int (nI ht), .int (nI lys), .int (nI fa), .int (nI mk)], oB fnd 7 [.ref fna, .int (nI nfd)], bA g fna 8 fdf, oB hr 7 [.ref hra, .int (nI nh)], bA g hra 32 hf] rfl (fun _ => rfl) rfl [.int (nI (((mk * fa) + 7) / 8))] rfl (Nat.le_of_ble_eq_true rfl) ⟨Nat.le_refl _, Nat.le_refl _⟩ dX6_readNumbers_37 ?_
  intro _ hu_2
  refine j_w [oB pt 6 [.ref fnd, .ref mid, .ref sp, .ref sdr, .ref hh], oB sp 8 [.int (nI fm), .int (nI nn), .int (nI ht), .int (nI lys), .int (nI fa), .int (nI mk)], oB fnd 7 [.ref fna, .int (nI nfd)], bA g fna 8 fdf, oB hr 7 [.ref hra, .int (nI nh)], bA g hra 32 hf] rfl ?_
  refine j_st [.int (nI (((ht * (lys - 1)) + 7) / 8)), .int (nI (((mk * fa) + 7) / 8))] rfl ?_
  refine j_iaddN hX (((mk * fa) + 7) / 8) (((ht * (lys - 1)) + 7) / 8) dX6_readNumbers_40 ?_
  refine j_istore_n hX 3 [(3, .int (nI ((((mk * fa) + 7) / 8) + (((ht * (lys - 1)) + 7) / 8)))), (2, .int (nI (ht * (lys - 1)))), (0, .ref pt), (1, .ref hr)] dX6_readNumbers_41 rfl (by decide) rfl ?_
  refine j_aload_n hX 3 dX6_readNumbers_42 rfl ?_
  refine j_pc 43 rfl ?_
  refine j_iload_n hX 0 dX6_readNumbers_43 rfl ?_
  refine j_iconst hX (1) dX6_readNumbers_44 (by decide) ?_
  refine j_isubN hX ((((mk * fa) + 7) / 8) + (((ht * (lys - 1)) + 7) / 8)) 1 (by omega) dX6_readNumbers_45 ?_
  refine j_callV2 hX 1 (c_at l g hr hra nh 32 hf (nI (((((mk * fa) + 7) / 8) + (((ht * (lys - 1)) + 7) / 8)) - 1)) (by omega) (by omega)) gX6_readNumbers_X7_at (by decide +kernel) rfl ⟨rfl, rfl⟩ ⟨Nat.le_of_ble_eq_true rfl, Nat.le_of_ble_eq_true rfl⟩ 7 4 rfl rfl [4, 5] [0, 1, 2, 3] 6 rfl (by decide) (fun jj : Unit => [oB pt 6 [.ref fnd, .ref mid, .ref sp, .ref sdr, .ref hh], oB sp 8 [.int (nI fm), .int (nI nn), .int (nI ht), .int (nI lys), .int (nI fa), .int (nI mk)], oB fnd 7 [.ref fna, .int (nI nfd)], bA g fna 8 fdf, oB hr 7 [.ref hra, .int (nI nh)], bA g hra 32 hf]) (fun _ => rfl) (by decide) [pt, sp, fnd, fna, hr, hra] rfl (fun _ => rfl) (fun _ => rfl) [oB pt 6 [.ref fnd, .ref mid, .ref sp, .ref sdr, .ref hh], oB sp 8 [.int (nI fm), .int (nI nn), .int (nI ht), .int (nI lys), .int (nI fa), .int (nI mk)], oB fnd 7 [.ref fna, .int (nI nfd)], bA g fna 8 fdf] rfl (fun _ => rfl) rfl [] rfl (Nat.le_of_ble_eq_true rfl) ⟨Nat.le_refl _, Nat.le_refl _⟩ dX6_readNumbers_46 ?_
  intro _ hu_3
  refine j_w [oB pt 6 [.ref fnd, .ref mid, .ref sp, .ref sdr, .ref hh], oB sp 8 [.int (nI fm), .int (nI nn), .int (nI ht), .int (nI lys), .int (nI fa), .int (nI mk)], oB fnd 7 [.ref fna, .int (nI nfd)], bA g fna 8 fdf, oB hr 7 [.ref hra, .int (nI nh)], bA g hra 32 hf] rfl ?_
  refine j_st [.int (rAt hf nh (nI (((((mk * fa) + 7) / 8) + (((ht * (lys - 1)) + 7) / 8)) - 1)))] rfl ?_
  refine j_topeq _ (nI (tn (hf (teN ht lys fa mk - 1)) % 256)) ((rAt_in (f := hf) (j := teN ht lys fa mk - 1) (by omega) (by omega)).trans (tn_255 _)) ?_
  refine j_iconst hX (1) dX6_readNumbers_49 (by decide) ?_
  refine j_iload_n hX 1 dX6_readNumbers_50 rfl ?_
  refine j_ishlN hX 1 (ht * (lys - 1)) (by omega) (by omega) dX6_readNumbers_51 ?_
  refine j_iconst hX (1) dX6_readNumbers_52 (by decide) ?_
  refine j_pc 53 rfl ?_
  refine j_isubN hX (1 * 2 ^ (ht * (lys - 1))) 1 (by omega) dX6_readNumbers_53 ?_
  refine j_iand hX dX6_readNumbers_54 ?_
  refine j_topeq _ (nI (ixN hf ht lys fa mk 0)) ((pk_andN (by omega) (ht * (lys - 1)) (by rw [Nat.one_mul]; exact two_pow_I (by omega))).trans (by rw [mod_and (by omega)]; rfl)) ?_
  refine j_istore hX [(4, .int (nI (ixN hf ht lys fa mk 0))), (3, .int (nI ((((mk * fa) + 7) / 8) + (((ht * (lys - 1)) + 7) / 8)))), (2, .int (nI (ht * (lys - 1)))), (0, .ref pt), (1, .ref hr)] dX6_readNumbers_55 (by decide) rfl ?_
  refine j_aload_n hX 3 dX6_readNumbers_57 rfl ?_
  refine j_get hX in6 6 0 0 (v := .ref fnd) rfl rfl (by decide) (List.mem_of_getElem? (i := 6) rfl) rfl rfl dX6_readNumbers_58 ?_
  refine j_callV2 hX 0 (c_clear l g fnd fna (nI nfd) ) gX6_readNumbers_X7_clear (by decide +kernel) rfl ⟨rfl, rfl⟩ ⟨Nat.le_of_ble_eq_true rfl, Nat.le_of_ble_eq_true rfl⟩ 7 2 rfl rfl [2] [0, 1, 3, 4, 5] 6 rfl (by decide) (fun jj : Unit => [oB pt 6 [.ref fnd, .ref mid, .ref sp, .ref sdr, .ref hh], oB sp 8 [.int (nI fm), .int (nI nn), .int (nI ht), .int (nI lys), .int (nI fa), .int (nI mk)], oB fnd 7 [.ref fna, .int (nI 0)], bA g fna 8 fdf, oB hr 7 [.ref hra, .int (nI nh)], bA g hra 32 hf]) (fun _ => rfl) (by decide) [pt, sp, fnd, fna, hr, hra] rfl (fun _ => rfl) (fun _ => rfl) [oB pt 6 [.ref fnd, .ref mid, .ref sp, .ref sdr, .ref hh], oB sp 8 [.int (nI fm), .int (nI nn), .int (nI ht), .int (nI lys), .int (nI fa), .int (nI mk)], bA g fna 8 fdf, oB hr 7 [.ref hra, .int (nI nh)], bA g hra 32 hf] rfl (fun _ => rfl) rfl [] rfl (Nat.le_of_ble_eq_true rfl) ⟨Nat.le_refl _, Nat.le_refl _⟩ dX6_readNumbers_61 ?_
  intro _ hu_4
  refine j_w [oB pt 6 [.ref fnd, .ref mid, .ref sp, .ref sdr, .ref hh], oB sp 8 [.int (nI fm), .int (nI nn), .int (nI ht), .int (nI lys), .int (nI fa), .int (nI mk)], oB fnd 7 [.ref fna, .int (nI 0)], bA g fna 8 fdf, oB hr 7 [.ref hra, .int (nI nh)], bA g hra 32 hf] rfl ?_
  refine j_st [] rfl ?_
  refine j_aload_n hX 3 dX6_readNumbers_64 rfl ?_
  refine j_get hX in6 6 0 0 (v := .ref fnd) rfl rfl (by decide) (List.mem_of_getElem? (i := 6) rfl) rfl rfl dX6_readNumbers_65 ?_
  refine j_pc 68 rfl ?_
  refine j_iload hX 0 dX6_readNumbers_68 rfl ?_
  refine j_i2l hX dX6_readNumbers_70 ?_
  refine j_iconst hX (1) dX6_readNumbers_71 (by decide) ?_
  refine j_callV2 hX 2 (c_addNumber l g fnd fna 0 8 fdf ((nI (ixN hf ht lys fa mk 0)).toInt64) 1 (by omega) (by omega) (by omega)) gX6_readNumbers_X7_addNumber (by decide +kernel) rfl ⟨rfl, rfl⟩ ⟨Nat.le_of_ble_eq_true rfl, Nat.le_of_ble_eq_true rfl⟩ 7 2 rfl rfl [2, 3] [0, 1, 4, 5] 6 rfl (by decide) (fun jj : (Nat → Int32) => [oB pt 6 [.ref fnd, .ref mid, .ref sp, .ref sdr, .ref hh], oB sp 8 [.int (nI fm), .int (nI nn), .int (nI ht), .int (nI lys), .int (nI fa), .int (nI mk)], oB fnd 7 [.ref fna, .int (nI (0 + 1))], bA g fna 8 jj, oB hr 7 [.ref hra, .int (nI nh)], bA g hra 32 hf]) (fun _ => rfl) (by decide) [pt, sp, fnd, fna, hr, hra] rfl (fun _ => rfl) (fun _ => rfl) [oB pt 6 [.ref fnd, .ref mid, .ref sp, .ref sdr, .ref hh], oB sp 8 [.int (nI fm), .int (nI nn), .int (nI ht), .int (nI lys), .int (nI fa), .int (nI mk)], oB hr 7 [.ref hra, .int (nI nh)], bA g hra 32 hf] rfl (fun _ => rfl) rfl [] rfl (Nat.le_of_ble_eq_true rfl) ⟨Nat.le_refl _, Nat.le_refl _⟩ dX6_readNumbers_72 ?_
  intro F0 hF0
  try dsimp only at hF0
  refine j_w [oB pt 6 [.ref fnd, .ref mid, .ref sp, .ref sdr, .ref hh], oB sp 8 [.int (nI fm), .int (nI nn), .int (nI ht), .int (nI lys), .int (nI fa), .int (nI mk)], oB fnd 7 [.ref fna, .int (nI (0 + 1))], bA g fna 8 F0, oB hr 7 [.ref hra, .int (nI nh)], bA g hra 32 hf] rfl ?_
  refine j_st [] rfl ?_
  have hN0 := found_step (ix := ixN hf ht lys fa mk) (by omega) rfl (fun j hj => absurd hj (Nat.not_lt_zero j)) hF0
  have hB0 : isB F0 := by rw [hF0]; exact putL_B hFB (Zl_B _ _)
  refine j_aload_n hX 3 dX6_readNumbers_75 rfl ?_
  refine j_get hX in6 6 0 0 (v := .ref fnd) rfl rfl (by decide) (List.mem_of_getElem? (i := 6) rfl) rfl rfl dX6_readNumbers_76 ?_
  refine j_aload_n hX 4 dX6_readNumbers_79 rfl ?_
  refine j_iload_n hX 1 dX6_readNumbers_80 rfl ?_
  refine j_pc 81 rfl ?_
  refine j_callV2 hX 1 (c_at l g hr hra nh 32 hf (nI ((((mk * fa) + 7) / 8) + (((ht * (lys - 1)) + 7) / 8))) (by omega) (by omega)) gX6_readNumbers_X7_at (by decide +kernel) rfl ⟨rfl, rfl⟩ ⟨Nat.le_of_ble_eq_true rfl, Nat.le_of_ble_eq_true rfl⟩ 7 4 rfl rfl [4, 5] [0, 1, 2, 3] 6 rfl (by decide) (fun jj : Unit => [oB pt 6 [.ref fnd, .ref mid, .ref sp, .ref sdr, .ref hh], oB sp 8 [.int (nI fm), .int (nI nn), .int (nI ht), .int (nI lys), .int (nI fa), .int (nI mk)], oB fnd 7 [.ref fna, .int (nI (0 + 1))], bA g fna 8 F0, oB hr 7 [.ref hra, .int (nI nh)], bA g hra 32 hf]) (fun _ => rfl) (by decide) [pt, sp, fnd, fna, hr, hra] rfl (fun _ => rfl) (fun _ => rfl) [oB pt 6 [.ref fnd, .ref mid, .ref sp, .ref sdr, .ref hh], oB sp 8 [.int (nI fm), .int (nI nn), .int (nI ht), .int (nI lys), .int (nI fa), .int (nI mk)], oB fnd 7 [.ref fna, .int (nI (0 + 1))], bA g fna 8 F0] rfl (fun _ => rfl) rfl [.ref fnd] rfl (Nat.le_of_ble_eq_true rfl) ⟨Nat.le_refl _, Nat.le_refl _⟩ dX6_readNumbers_81 ?_
  intro _ hu_5
  refine j_w [oB pt 6 [.ref fnd, .ref mid, .ref sp, .ref sdr, .ref hh], oB sp 8 [.int (nI fm), .int (nI nn), .int (nI ht), .int (nI lys), .int (nI fa), .int (nI mk)], oB fnd 7 [.ref fna, .int (nI (0 + 1))], bA g fna 8 F0, oB hr 7 [.ref hra, .int (nI nh)], bA g hra 32 hf] rfl ?_
  refine j_st [.int (rAt hf nh (nI ((((mk * fa) + 7) / 8) + (((ht * (lys - 1)) + 7) / 8)))), .ref fnd] rfl ?_
  refine j_topeq _ (nI (tn (hf (teN ht lys fa mk)) % 256)) ((rAt_in (f := hf) (j := teN ht lys fa mk) (by omega) (by omega)).trans (tn_255 _)) ?_
  refine j_iconst hX (1) dX6_readNumbers_84 (by decide) ?_
  refine j_aload_n hX 3 dX6_readNumbers_85 rfl ?_
  refine j_get hX in6 6 0 2 (v := .ref sp) rfl rfl (by decide) (List.mem_of_getElem? (i := 1) rfl) rfl rfl dX6_readNumbers_86 ?_
  refine j_get hX in8 8 1 2 (v := .int (nI ht)) rfl rfl (by decide) (List.mem_of_getElem? (i := 2) rfl) rfl rfl dX6_readNumbers_89 ?_
  refine j_ishlN hX 1 ht (by omega) (by omega) dX6_readNumbers_92 ?_
  refine j_iconst hX (1) dX6_readNumbers_93 (by decide) ?_
  refine j_isubN hX (1 * 2 ^ ht) 1 (by omega) dX6_readNumbers_94 ?_
  refine j_pc 95 rfl ?_
  refine j_iand hX dX6_readNumbers_95 ?_
  refine j_topeq _ (nI (ixN hf ht lys fa mk 1)) ((pk_andN (by omega) ht (by rw [Nat.one_mul]; exact two_pow_I (by omega))).trans (by rw [mod_and (by omega)]; rfl)) ?_
  refine j_i2l hX dX6_readNumbers_96 ?_
  refine j_iconst hX (1) dX6_readNumbers_97 (by decide) ?_
  refine j_callV2 hX 2 (c_addNumber l g fnd fna (0 + 1) 8 F0 ((nI (ixN hf ht lys fa mk 1)).toInt64) 1 (by omega) (by omega) (by omega)) gX6_readNumbers_X7_addNumber (by decide +kernel) rfl ⟨rfl, rfl⟩ ⟨Nat.le_of_ble_eq_true rfl, Nat.le_of_ble_eq_true rfl⟩ 7 2 rfl rfl [2, 3] [0, 1, 4, 5] 6 rfl (by decide) (fun jj : (Nat → Int32) => [oB pt 6 [.ref fnd, .ref mid, .ref sp, .ref sdr, .ref hh], oB sp 8 [.int (nI fm), .int (nI nn), .int (nI ht), .int (nI lys), .int (nI fa), .int (nI mk)], oB fnd 7 [.ref fna, .int (nI ((0 + 1) + 1))], bA g fna 8 jj, oB hr 7 [.ref hra, .int (nI nh)], bA g hra 32 hf]) (fun _ => rfl) (by decide) [pt, sp, fnd, fna, hr, hra] rfl (fun _ => rfl) (fun _ => rfl) [oB pt 6 [.ref fnd, .ref mid, .ref sp, .ref sdr, .ref hh], oB sp 8 [.int (nI fm), .int (nI nn), .int (nI ht), .int (nI lys), .int (nI fa), .int (nI mk)], oB hr 7 [.ref hra, .int (nI nh)], bA g hra 32 hf] rfl (fun _ => rfl) rfl [] rfl (Nat.le_of_ble_eq_true rfl) ⟨Nat.le_refl _, Nat.le_refl _⟩ dX6_readNumbers_98 ?_
  intro F1 hF1
  try dsimp only at hF1
  refine j_w [oB pt 6 [.ref fnd, .ref mid, .ref sp, .ref sdr, .ref hh], oB sp 8 [.int (nI fm), .int (nI nn), .int (nI ht), .int (nI lys), .int (nI fa), .int (nI mk)], oB fnd 7 [.ref fna, .int (nI ((0 + 1) + 1))], bA g fna 8 F1, oB hr 7 [.ref hra, .int (nI nh)], bA g hra 32 hf] rfl ?_
  refine j_st [] rfl ?_
  have hN1 := found_step (ix := ixN hf ht lys fa mk) (show ixN hf ht lys fa mk 1 < 128 by omega) rfl hN0 hF1
  have hB1 : isB F1 := by rw [hF1]; exact putL_B hB0 (Zl_B _ _)
  refine j_iconst hX (0) dX6_readNumbers_101 (by decide) ?_
  refine j_st [.int (nI 0)] rfl ?_
  refine j_istore hX [(5, .int (nI 0)), (4, .int (nI (ixN hf ht lys fa mk 0))), (3, .int (nI ((((mk * fa) + 7) / 8) + (((ht * (lys - 1)) + 7) / 8)))), (2, .int (nI (ht * (lys - 1)))), (0, .ref pt), (1, .ref hr)] dX6_readNumbers_102 (by decide) rfl ?_
  have lp_6 : ∀ (n_7 : Nat) (i : Nat) (F : Nat → Int32), (mk - i < n_7) → (i ≤ mk) → (isB F) → (∀ j, j < 2 + i → F j = nI (ixN hf ht lys fa mk j)) → J p l e ({ frames := 2, cells := 0, slots := 0, locals := 45 } : Room) s m ([.ref pt, .ref hr] : List Value).toArray below meth c g A 6 Q 0 0 [oB pt 6 [.ref fnd, .ref mid, .ref sp, .ref sdr, .ref hh], oB sp 8 [.int (nI fm), .int (nI nn), .int (nI ht), .int (nI lys), .int (nI fa), .int (nI mk)], oB fnd 7 [.ref fna, .int (nI (2 + i))], bA g fna 8 F, oB hr 7 [.ref hra, .int (nI nh)], bA g hra 32 hf] [(0, .ref pt), (1, .ref hr), (2, .int (nI (ht * (lys - 1)))), (3, .int (nI ((mk * fa + 7) / 8 + (ht * (lys - 1) + 7) / 8))), (4, .int (nI (ixN hf ht lys fa mk 0))), (5, .int (nI i))] 104 [] := by
    intro n_7
    induction n_7 with
    | zero => intro i F hm; exact absurd hm (Nat.not_lt_zero _)
    | succ n_7 ih_8 =>
      intro i F hm hi hBF hN
      refine j_iload hX 5 dX6_readNumbers_104 rfl ?_
      refine j_aload_n hX 0 dX6_readNumbers_106 rfl ?_
      refine j_pc 107 rfl ?_
      refine j_get hX in6 6 0 2 (v := .ref sp) rfl rfl (by decide) (List.mem_of_getElem? (i := 1) rfl) rfl rfl dX6_readNumbers_107 ?_
      refine j_get hX in8 8 1 5 (v := .int (nI mk)) rfl rfl (by decide) (List.mem_of_getElem? (i := 4) rfl) rfl rfl dX6_readNumbers_110 ?_
      refine j_icmp_geN hX i mk 152 dX6_readNumbers_113 (by decide) (by omega) (by omega) (fun b_113 => ?_) (fun b_113 => ?_)
      · skip
        refine j_w [oB pt 6 [.ref fnd, .ref mid, .ref sp, .ref sdr, .ref hh], oB sp 8 [.int (nI fm), .int (nI nn), .int (nI ht), .int (nI lys), .int (nI fa), .int (nI mk)], oB fnd 7 [.ref fna, .int (nI (2 + mk))], bA g fna 8 F, oB hr 7 [.ref hra, .int (nI nh)], bA g hra 32 hf] (by rw [show mk = i by omega]) ?_
        exact hret F (by dsimp only; exact ⟨hBF, fun j hj => hN j (by omega)⟩) 152 _ .return_ dX6_readNumbers_152 rfl
      · skip
        refine j_aload_n hX 0 dX6_readNumbers_116 rfl ?_
        refine j_get hX in6 6 0 0 (v := .ref fnd) rfl rfl (by decide) (List.mem_of_getElem? (i := 6) rfl) rfl rfl dX6_readNumbers_117 ?_
        refine j_aload_n hX 1 dX6_readNumbers_120 rfl ?_
        refine j_iload hX 5 dX6_readNumbers_121 rfl ?_
        refine j_pc 123 rfl ?_
        refine j_aload_n hX 0 dX6_readNumbers_123 rfl ?_
        refine j_get hX in6 6 0 2 (v := .ref sp) rfl rfl (by decide) (List.mem_of_getElem? (i := 1) rfl) rfl rfl dX6_readNumbers_124 ?_
        refine j_get hX in8 8 1 4 (v := .int (nI fa)) rfl rfl (by decide) (List.mem_of_getElem? (i := 5) rfl) rfl rfl dX6_readNumbers_127 ?_
        refine j_imulN hX i fa dX6_readNumbers_130 ?_
        refine j_aload_n hX 0 dX6_readNumbers_131 rfl ?_
        refine j_get hX in6 6 0 2 (v := .ref sp) rfl rfl (by decide) (List.mem_of_getElem? (i := 1) rfl) rfl rfl dX6_readNumbers_132 ?_
        refine j_get hX in8 8 1 4 (v := .int (nI fa)) rfl rfl (by decide) (List.mem_of_getElem? (i := 5) rfl) rfl rfl dX6_readNumbers_135 ?_
        refine j_callS2 hX 3 (c_readBits l g hr hra nh hf (i * fa) fa (by omega) (by omega) (by have h9 := mul_step (n := fa) (show i < mk by omega); omega)) gX6_readNumbers_X6_readBits (by decide +kernel) rfl ⟨rfl, rfl⟩ ⟨Nat.le_of_ble_eq_true rfl, Nat.le_of_ble_eq_true rfl⟩ [4, 5] [0, 1, 2, 3] 6 rfl (by decide) (fun jj : Unit => [oB pt 6 [.ref fnd, .ref mid, .ref sp, .ref sdr, .ref hh], oB sp 8 [.int (nI fm), .int (nI nn), .int (nI ht), .int (nI lys), .int (nI fa), .int (nI mk)], oB fnd 7 [.ref fna, .int (nI (2 + i))], bA g fna 8 F, oB hr 7 [.ref hra, .int (nI nh)], bA g hra 32 hf]) (fun _ => rfl) (by decide) [pt, sp, fnd, fna, hr, hra] rfl (fun _ => rfl) (fun _ => rfl) [oB pt 6 [.ref fnd, .ref mid, .ref sp, .ref sdr, .ref hh], oB sp 8 [.int (nI fm), .int (nI nn), .int (nI ht), .int (nI lys), .int (nI fa), .int (nI mk)], oB fnd 7 [.ref fna, .int (nI (2 + i))], bA g fna 8 F] rfl (fun _ => rfl) rfl [.ref fnd] rfl (Nat.le_of_ble_eq_true rfl) ⟨Nat.le_refl _, Nat.le_refl _⟩ dX6_readNumbers_138 ?_
        intro _ hu_9
        refine j_w [oB pt 6 [.ref fnd, .ref mid, .ref sp, .ref sdr, .ref hh], oB sp 8 [.int (nI fm), .int (nI nn), .int (nI ht), .int (nI lys), .int (nI fa), .int (nI mk)], oB fnd 7 [.ref fna, .int (nI (2 + i))], bA g fna 8 F, oB hr 7 [.ref hra, .int (nI nh)], bA g hra 32 hf] rfl ?_
        refine j_st [.int (nI (bts hf (i * fa) fa)), .ref fnd] rfl ?_
        refine j_topeq _ (nI (ixN hf ht lys fa mk (2 + i))) (by rw [Nat.add_comm 2 i]; rfl) ?_
        refine j_pc 141 rfl ?_
        refine j_i2l hX dX6_readNumbers_141 ?_
        refine j_iconst hX (1) dX6_readNumbers_142 (by decide) ?_
        refine j_callV2 hX 2 (c_addNumber l g fnd fna (2 + i) 8 F ((nI (ixN hf ht lys fa mk (2 + i))).toInt64) 1 (by omega) (by omega) (by omega)) gX6_readNumbers_X7_addNumber (by decide +kernel) rfl ⟨rfl, rfl⟩ ⟨Nat.le_of_ble_eq_true rfl, Nat.le_of_ble_eq_true rfl⟩ 7 2 rfl rfl [2, 3] [0, 1, 4, 5] 6 rfl (by decide) (fun jj : (Nat → Int32) => [oB pt 6 [.ref fnd, .ref mid, .ref sp, .ref sdr, .ref hh], oB sp 8 [.int (nI fm), .int (nI nn), .int (nI ht), .int (nI lys), .int (nI fa), .int (nI mk)], oB fnd 7 [.ref fna, .int (nI ((2 + i) + 1))], bA g fna 8 jj, oB hr 7 [.ref hra, .int (nI nh)], bA g hra 32 hf]) (fun _ => rfl) (by decide) [pt, sp, fnd, fna, hr, hra] rfl (fun _ => rfl) (fun _ => rfl) [oB pt 6 [.ref fnd, .ref mid, .ref sp, .ref sdr, .ref hh], oB sp 8 [.int (nI fm), .int (nI nn), .int (nI ht), .int (nI lys), .int (nI fa), .int (nI mk)], oB hr 7 [.ref hra, .int (nI nh)], bA g hra 32 hf] rfl (fun _ => rfl) rfl [] rfl (Nat.le_of_ble_eq_true rfl) ⟨Nat.le_refl _, Nat.le_refl _⟩ dX6_readNumbers_143 ?_
        intro F2 hF2
        try dsimp only at hF2
        refine j_w [oB pt 6 [.ref fnd, .ref mid, .ref sp, .ref sdr, .ref hh], oB sp 8 [.int (nI fm), .int (nI nn), .int (nI ht), .int (nI lys), .int (nI fa), .int (nI mk)], oB fnd 7 [.ref fna, .int (nI ((2 + i) + 1))], bA g fna 8 F2, oB hr 7 [.ref hra, .int (nI nh)], bA g hra 32 hf] rfl ?_
        refine j_st [] rfl ?_
        have hx2 := ixN_lt hf hht hlys hfa hmk (2 + i)
        have hN2 := found_step (ix := ixN hf ht lys fa mk) (by omega) rfl hN hF2
        refine j_iincN hX i (i + 1) [(5, .int (nI (i + 1))), (0, .ref pt), (1, .ref hr), (2, .int (nI (ht * (lys - 1)))), (3, .int (nI ((mk * fa + 7) / 8 + (ht * (lys - 1) + 7) / 8))), (4, .int (nI (ixN hf ht lys fa mk 0)))] 5 dX6_readNumbers_146 rfl (nI_1 _) (by decide) rfl ?_
        refine j_goto hX 104 dX6_readNumbers_149 (by decide) ?_
        refine j_perm [(0, .ref pt), (1, .ref hr), (2, .int (nI (ht * (lys - 1)))), (3, .int (nI ((mk * fa + 7) / 8 + (ht * (lys - 1) + 7) / 8))), (4, .int (nI (ixN hf ht lys fa mk 0))), (5, .int (nI (i + 1)))] [1, 2, 3, 4, 5, 0] rfl ?_
        exact ih_8 (i + 1) F2 (by omega) (by omega) (by rw [hF2]; exact putL_B hBF (Zl_B _ _)) hN2
  refine j_perm [(0, .ref pt), (1, .ref hr), (2, .int (nI (ht * (lys - 1)))), (3, .int (nI ((((mk * fa) + 7) / 8) + (((ht * (lys - 1)) + 7) / 8)))), (4, .int (nI (ixN hf ht lys fa mk 0))), (5, .int (nI 0))] [4, 5, 3, 2, 1, 0] rfl ?_
  exact lp_6 _ 0 F1 (Nat.lt_succ_self _) (by omega) hB1 hN1

set_option maxHeartbeats 4000000 in
set_option maxRecDepth 100000 in
/-- Points.addMasked -/
theorem c_addMasked (l : Launch) (g : jG) (pt : Nat) (fnd : Nat) (mid : Nat) (sp : Nat) (sdr : Nat) (hh : Nat) (inr : Nat) (outr : Nat) (zo : Nat) (on : Nat) (oly : Int32) (otr : Int32) (fm : Nat) (nn : Nat) (ht : Nat) (lys : Nat) (fa : Nat) (mk : Nat) (sda : Nat) (sd : Nat → Int32) (ina : Nat) (ni : Nat) (fi : Nat → Int32) (msk : Nat) (hnn : nn ≤ 16) (hni : ni + 64 ≤ 768) : jC l g yX6_addMasked wsX6_addMasked ({ frames := 1, cells := 0, slots := 0, locals := 24 } : Room) [.ref pt, .int (nI msk)] [oB pt 6 [.ref fnd, .ref mid, .ref sp, .ref sdr, .ref hh], oB hh 5 [.ref inr, .ref outr, .ref zo, .ref on, .ref sp, .ref sdr, .int oly, .int otr], oB sp 8 [.int (nI fm), .int (nI nn), .int (nI ht), .int (nI lys), .int (nI fa), .int (nI mk)], oB sdr 7 [.ref sda, .int (nI 48)], bA g sda 48 sd, oB inr 7 [.ref ina, .int (nI ni)], bA g ina 768 fi] (fun jj : (Nat → Int32) => none) (fun jj : (Nat → Int32) => jj = putL fi ni (mskL sd nn msk 64)) (fun jj : (Nat → Int32) => [oB pt 6 [.ref fnd, .ref mid, .ref sp, .ref sdr, .ref hh], oB hh 5 [.ref inr, .ref outr, .ref zo, .ref on, .ref sp, .ref sdr, .int oly, .int otr], oB sp 8 [.int (nI fm), .int (nI nn), .int (nI ht), .int (nI lys), .int (nI fa), .int (nI mk)], oB sdr 7 [.ref sda, .int (nI 48)], bA g sda 48 sd, oB inr 7 [.ref ina, .int (nI (ni + 64))], bA g ina 768 jj]) := by
  refine jC.of (cc := cX6_addMasked) (own := RX6) (maxL := 4) (ret := none) (by decide +kernel) rfl rfl (Nat.le_of_ble_eq_true rfl) (fun u hu => rfl) ?_
  intro p e s m below meth c A Q hX hret
  have in5 : ∀ w ∈ wsX50, w ∈ wsX6_addMasked := (fun w h => List.mem_cons_of_mem _ (List.mem_append_left _ (List.mem_append_right _ h)))
  have in6 : ∀ w ∈ wsX60, w ∈ wsX6_addMasked := (fun w h => List.mem_cons_of_mem _ (List.mem_append_left _ (List.mem_append_left _ (List.mem_append_left _ (List.mem_append_right _ h)))))
  have in8 : ∀ w ∈ wsX80, w ∈ wsX6_addMasked := (fun w h => List.mem_cons_of_mem _ (List.mem_append_left _ (List.mem_append_left _ (List.mem_append_right _ h))))
  refine j_iconst hX (0) dX6_addMasked_0 (by decide) ?_
  refine j_st [.int (nI 0)] rfl ?_
  refine j_istore_n hX 2 [(2, .int (nI 0)), (0, .ref pt), (1, .int (nI msk))] dX6_addMasked_1 rfl (by decide) rfl ?_
  have lp_1 : ∀ (n_2 : Nat) (i : Nat) (F : Nat → Int32), (64 - i < n_2) → (i ≤ 64) → (F = putL fi ni (mskL sd nn msk i)) → J p l e ({ frames := 1, cells := 0, slots := 0, locals := 24 } : Room) s m ([.ref pt, .int (nI msk)] : List Value).toArray below meth c g A 4 Q 0 0 [oB pt 6 [.ref fnd, .ref mid, .ref sp, .ref sdr, .ref hh], oB hh 5 [.ref inr, .ref outr, .ref zo, .ref on, .ref sp, .ref sdr, .int oly, .int otr], oB sp 8 [.int (nI fm), .int (nI nn), .int (nI ht), .int (nI lys), .int (nI fa), .int (nI mk)], oB sdr 7 [.ref sda, .int (nI 48)], bA g sda 48 sd, oB inr 7 [.ref ina, .int (nI (ni + i))], bA g ina 768 F] [(0, .ref pt), (1, .int (nI msk)), (2, .int (nI i))] 2 [] := by
    intro n_2
    induction n_2 with
    | zero => intro i F hm; exact absurd hm (Nat.not_lt_zero _)
    | succ n_2 ih_3 =>
      intro i F hm hi hF
      refine j_iload_n hX 2 dX6_addMasked_2 rfl ?_
      refine j_bipush hX (64) dX6_addMasked_3 (by decide) ?_
      refine j_icmp_geN hX i 64 56 dX6_addMasked_5 (by decide) (by omega) (by omega) (fun b_5 => ?_) (fun b_5 => ?_)
      · skip
        refine j_w [oB pt 6 [.ref fnd, .ref mid, .ref sp, .ref sdr, .ref hh], oB hh 5 [.ref inr, .ref outr, .ref zo, .ref on, .ref sp, .ref sdr, .int oly, .int otr], oB sp 8 [.int (nI fm), .int (nI nn), .int (nI ht), .int (nI lys), .int (nI fa), .int (nI mk)], oB sdr 7 [.ref sda, .int (nI 48)], bA g sda 48 sd, oB inr 7 [.ref ina, .int (nI (ni + 64))], bA g ina 768 F] (by rw [show i = 64 by omega]) ?_
        exact hret F (by rw [hF, show i = 64 by omega]) 56 _ .return_ dX6_addMasked_56 rfl
      · skip
        have jn_4 : ∀ (bb : Int32), (i8 (bb ^^^ nI msk) = mskB sd nn msk i) → J p l e ({ frames := 1, cells := 0, slots := 0, locals := 24 } : Room) s m ([.ref pt, .int (nI msk)] : List Value).toArray below meth c g A 4 Q 0 0 [oB pt 6 [.ref fnd, .ref mid, .ref sp, .ref sdr, .ref hh], oB hh 5 [.ref inr, .ref outr, .ref zo, .ref on, .ref sp, .ref sdr, .int oly, .int otr], oB sp 8 [.int (nI fm), .int (nI nn), .int (nI ht), .int (nI lys), .int (nI fa), .int (nI mk)], oB sdr 7 [.ref sda, .int (nI 48)], bA g sda 48 sd, oB inr 7 [.ref ina, .int (nI (ni + i))], bA g ina 768 F] [(0, .ref pt), (1, .int (nI msk)), (2, .int (nI i))] 34 [.int bb] := by
          intro bb hbb
          refine j_istore_n hX 3 [(3, .int bb), (0, .ref pt), (1, .int (nI msk)), (2, .int (nI i))] dX6_addMasked_34 rfl (by decide) rfl ?_
          refine j_pc 35 rfl ?_
          refine j_aload_n hX 1 dX6_addMasked_35 rfl ?_
          refine j_get hX in6 6 0 4 (v := .ref hh) rfl rfl (by decide) (List.mem_of_getElem? (i := 4) rfl) rfl rfl dX6_addMasked_36 ?_
          refine j_get hX in5 5 1 0 (v := .ref inr) rfl rfl (by decide) (List.mem_of_getElem? (i := 5) rfl) rfl rfl dX6_addMasked_39 ?_
          refine j_iload_n hX 0 dX6_addMasked_42 rfl ?_
          refine j_iload_n hX 2 dX6_addMasked_43 rfl ?_
          refine j_ixor hX dX6_addMasked_44 ?_
          refine j_i2l hX dX6_addMasked_45 ?_
          refine j_iconst hX (1) dX6_addMasked_46 (by decide) ?_
          refine j_pc 47 rfl ?_
          refine j_callV2 hX 2 (c_addNumber l g inr ina (ni + i) 768 F ((bb ^^^ (nI msk)).toInt64) 1 (by omega) (by omega) (by omega)) gX6_addMasked_X7_addNumber (by decide +kernel) rfl ⟨rfl, rfl⟩ ⟨Nat.le_of_ble_eq_true rfl, Nat.le_of_ble_eq_true rfl⟩ 7 5 rfl rfl [5, 6] [0, 1, 2, 3, 4] 7 rfl (by decide) (fun jj : (Nat → Int32) => [oB pt 6 [.ref fnd, .ref mid, .ref sp, .ref sdr, .ref hh], oB hh 5 [.ref inr, .ref outr, .ref zo, .ref on, .ref sp, .ref sdr, .int oly, .int otr], oB sp 8 [.int (nI fm), .int (nI nn), .int (nI ht), .int (nI lys), .int (nI fa), .int (nI mk)], oB sdr 7 [.ref sda, .int (nI 48)], bA g sda 48 sd, oB inr 7 [.ref ina, .int (nI ((ni + i) + 1))], bA g ina 768 jj]) (fun _ => rfl) (by decide) [pt, hh, sp, sdr, sda, inr, ina] rfl (fun _ => rfl) (fun _ => rfl) [oB pt 6 [.ref fnd, .ref mid, .ref sp, .ref sdr, .ref hh], oB hh 5 [.ref inr, .ref outr, .ref zo, .ref on, .ref sp, .ref sdr, .int oly, .int otr], oB sp 8 [.int (nI fm), .int (nI nn), .int (nI ht), .int (nI lys), .int (nI fa), .int (nI mk)], oB sdr 7 [.ref sda, .int (nI 48)], bA g sda 48 sd] rfl (fun _ => rfl) rfl [] rfl (Nat.le_of_ble_eq_true rfl) ⟨Nat.le_refl _, Nat.le_refl _⟩ dX6_addMasked_47 ?_
          intro F2 hF2
          try dsimp only at hF2
          refine j_w [oB pt 6 [.ref fnd, .ref mid, .ref sp, .ref sdr, .ref hh], oB hh 5 [.ref inr, .ref outr, .ref zo, .ref on, .ref sp, .ref sdr, .int oly, .int otr], oB sp 8 [.int (nI fm), .int (nI nn), .int (nI ht), .int (nI lys), .int (nI fa), .int (nI mk)], oB sdr 7 [.ref sda, .int (nI 48)], bA g sda 48 sd, oB inr 7 [.ref ina, .int (nI ((ni + i) + 1))], bA g ina 768 F2] rfl ?_
          refine j_st [] rfl ?_
          refine j_iincN hX i (i + 1) [(2, .int (nI (i + 1))), (3, .int bb), (0, .ref pt), (1, .int (nI msk))] 3 dX6_addMasked_50 rfl (nI_1 _) (by decide) rfl ?_
          refine j_goto hX 2 dX6_addMasked_53 (by decide) ?_
          refine j_perm [(0, .ref pt), (1, .int (nI msk)), (2, .int (nI (i + 1)))] [2, 3, 0] rfl ?_
          exact ih_3 (i + 1) F2 (by omega) (by omega) (by rw [hF2, Zl1i, hbb, hF, putL_app' (by rw [mskL_length])]; rfl)
        refine j_iload_n hX 2 dX6_addMasked_8 rfl ?_
        refine j_aload_n hX 0 dX6_addMasked_9 rfl ?_
        refine j_get hX in6 6 0 2 (v := .ref sp) rfl rfl (by decide) (List.mem_of_getElem? (i := 1) rfl) rfl rfl dX6_addMasked_10 ?_
        refine j_get hX in8 8 2 1 (v := .int (nI nn)) rfl rfl (by decide) (List.mem_of_getElem? (i := 2) rfl) rfl rfl dX6_addMasked_13 ?_
        refine j_icmp_geN hX i nn 33 dX6_addMasked_16 (by decide) (by omega) (by omega) (fun b_16 => ?_) (fun b_16 => ?_)
        · skip
          refine j_pc 33 rfl ?_
          refine j_iconst hX (0) dX6_addMasked_33 (by decide) ?_
          exact jn_4 0 (by unfold mskB; first | rw [if_pos (by omega), i8_and255] | rw [if_neg (by omega)])
        · skip
          refine j_aload_n hX 0 dX6_addMasked_19 rfl ?_
          refine j_get hX in6 6 0 3 (v := .ref sdr) rfl rfl (by decide) (List.mem_of_getElem? (i := 3) rfl) rfl rfl dX6_addMasked_20 ?_
          refine j_bipush hX (16) dX6_addMasked_23 (by decide) ?_
          refine j_iload_n hX 2 dX6_addMasked_25 rfl ?_
          refine j_iaddN hX 16 i dX6_addMasked_26 ?_
          refine j_callV2 hX 1 (c_at l g sdr sda 48 48 sd (nI (16 + i)) (by omega) (by omega)) gX6_addMasked_X7_at (by decide +kernel) rfl ⟨rfl, rfl⟩ ⟨Nat.le_of_ble_eq_true rfl, Nat.le_of_ble_eq_true rfl⟩ 7 3 rfl rfl [3, 4] [0, 1, 2, 5, 6] 7 rfl (by decide) (fun jj : Unit => [oB pt 6 [.ref fnd, .ref mid, .ref sp, .ref sdr, .ref hh], oB hh 5 [.ref inr, .ref outr, .ref zo, .ref on, .ref sp, .ref sdr, .int oly, .int otr], oB sp 8 [.int (nI fm), .int (nI nn), .int (nI ht), .int (nI lys), .int (nI fa), .int (nI mk)], oB sdr 7 [.ref sda, .int (nI 48)], bA g sda 48 sd, oB inr 7 [.ref ina, .int (nI (ni + i))], bA g ina 768 F]) (fun _ => rfl) (by decide) [pt, hh, sp, sdr, sda, inr, ina] rfl (fun _ => rfl) (fun _ => rfl) [oB pt 6 [.ref fnd, .ref mid, .ref sp, .ref sdr, .ref hh], oB hh 5 [.ref inr, .ref outr, .ref zo, .ref on, .ref sp, .ref sdr, .int oly, .int otr], oB sp 8 [.int (nI fm), .int (nI nn), .int (nI ht), .int (nI lys), .int (nI fa), .int (nI mk)], oB inr 7 [.ref ina, .int (nI (ni + i))], bA g ina 768 F] rfl (fun _ => rfl) rfl [] rfl (Nat.le_of_ble_eq_true rfl) ⟨Nat.le_refl _, Nat.le_refl _⟩ dX6_addMasked_27 ?_
          intro _ hu_5
          refine j_w [oB pt 6 [.ref fnd, .ref mid, .ref sp, .ref sdr, .ref hh], oB hh 5 [.ref inr, .ref outr, .ref zo, .ref on, .ref sp, .ref sdr, .int oly, .int otr], oB sp 8 [.int (nI fm), .int (nI nn), .int (nI ht), .int (nI lys), .int (nI fa), .int (nI mk)], oB sdr 7 [.ref sda, .int (nI 48)], bA g sda 48 sd, oB inr 7 [.ref ina, .int (nI (ni + i))], bA g ina 768 F] rfl ?_
          refine j_st [.int (rAt sd 48 (nI (16 + i)))] rfl ?_
          refine j_topeq _ (sd (16 + i) &&& 255) (rAt_in (by omega) (by omega)) ?_
          refine j_goto hX 34 dX6_addMasked_30 (by decide) ?_
          exact jn_4 (sd (16 + i) &&& 255) (by unfold mskB; first | rw [if_pos (by omega), i8_and255] | rw [if_neg (by omega)])
  refine j_perm [(0, .ref pt), (1, .int (nI msk)), (2, .int (nI 0))] [1, 2, 0] rfl ?_
  exact lp_1 _ 0 fi (Nat.lt_succ_self _) (by omega) (by rw [mskL, putL_nil])

set_option maxHeartbeats 4000000 in
set_option maxRecDepth 100000 in
/-- Points.startPoints -/
theorem c_startPoints (l : Launch) (g : jG) (pt : Nat) (fnd : Nat) (mid : Nat) (sp : Nat) (sdr : Nat) (hh : Nat) (inr : Nat) (outr : Nat) (zo : Nat) (on : Nat) (oly : Int32) (otr : Int32) (fm : Nat) (nn : Nat) (ht : Nat) (lys : Nat) (fa : Nat) (mk : Nat) (sda : Nat) (sd : Nat → Int32) (ina : Nat) (ni : Nat) (fi : Nat → Int32) (fr : Nat) (fra : Nat) (nf : Nat) (fcap : Nat) (ff : Nat → Int32) (hnn : nn ≤ 16) (hB : isB sd) (hnf : nf ≤ fcap) (hfc : fcap < 2 ^ 31) (hFB : isB ff) (hnfn : nn ≤ nf) : jC l g yX6_startPoints wsX6_startPoints ({ frames := 3, cells := 0, slots := 0, locals := 88 } : Room) [.ref pt, .ref fr] [oB pt 6 [.ref fnd, .ref mid, .ref sp, .ref sdr, .ref hh], oB hh 5 [.ref inr, .ref outr, .ref zo, .ref on, .ref sp, .ref sdr, .int oly, .int otr], oB sp 8 [.int (nI fm), .int (nI nn), .int (nI ht), .int (nI lys), .int (nI fa), .int (nI mk)], oB sdr 7 [.ref sda, .int (nI 48)], bA g sda 48 sd, oB inr 7 [.ref ina, .int (nI ni)], bA g ina 768 fi, oB fr 7 [.ref fra, .int (nI nf)], bA g fra fcap ff] (fun jj : (Nat → Int32) => none) (fun jj : (Nat → Int32) => jj = putL fi 0 (slice ff 0 nn ++ slice sd 32 nn)) (fun jj : (Nat → Int32) => [oB pt 6 [.ref fnd, .ref mid, .ref sp, .ref sdr, .ref hh], oB hh 5 [.ref inr, .ref outr, .ref zo, .ref on, .ref sp, .ref sdr, .int oly, .int otr], oB sp 8 [.int (nI fm), .int (nI nn), .int (nI ht), .int (nI lys), .int (nI fa), .int (nI mk)], oB sdr 7 [.ref sda, .int (nI 48)], bA g sda 48 sd, oB inr 7 [.ref ina, .int (nI (nn + nn))], bA g ina 768 jj, oB fr 7 [.ref fra, .int (nI nf)], bA g fra fcap ff]) := by
  refine jC.of (cc := cX6_startPoints) (own := RX6) (maxL := 2) (ret := none) (by decide +kernel) rfl rfl (Nat.le_of_ble_eq_true rfl) (fun u hu => rfl) ?_
  intro p e s m below meth c A Q hX hret
  have in5 : ∀ w ∈ wsX50, w ∈ wsX6_startPoints := (fun w h => List.mem_cons_of_mem _ (List.mem_append_left _ (List.mem_append_left _ (List.mem_append_right _ h))))
  have in6 : ∀ w ∈ wsX60, w ∈ wsX6_startPoints := (fun w h => List.mem_cons_of_mem _ (List.mem_append_left _ (List.mem_append_left _ (List.mem_append_left _ (List.mem_append_right _ h)))))
  have in8 : ∀ w ∈ wsX80, w ∈ wsX6_startPoints := (fun w h => List.mem_cons_of_mem _ (List.mem_append_left _ (List.mem_append_right _ h)))
  refine j_aload_n hX 0 dX6_startPoints_0 rfl ?_
  refine j_get hX in6 6 0 4 (v := .ref hh) rfl rfl (by decide) (List.mem_of_getElem? (i := 1) rfl) rfl rfl dX6_startPoints_1 ?_
  refine j_get hX in5 5 1 0 (v := .ref inr) rfl rfl (by decide) (List.mem_of_getElem? (i := 2) rfl) rfl rfl dX6_startPoints_4 ?_
  refine j_callV2 hX 0 (c_clear l g inr ina (nI ni) ) gX6_startPoints_X7_clear (by decide +kernel) rfl ⟨rfl, rfl⟩ ⟨Nat.le_of_ble_eq_true rfl, Nat.le_of_ble_eq_true rfl⟩ 7 5 rfl rfl [5] [0, 1, 2, 3, 4, 6, 7, 8] 9 rfl (by decide) (fun jj : Unit => [oB pt 6 [.ref fnd, .ref mid, .ref sp, .ref sdr, .ref hh], oB hh 5 [.ref inr, .ref outr, .ref zo, .ref on, .ref sp, .ref sdr, .int oly, .int otr], oB sp 8 [.int (nI fm), .int (nI nn), .int (nI ht), .int (nI lys), .int (nI fa), .int (nI mk)], oB sdr 7 [.ref sda, .int (nI 48)], bA g sda 48 sd, oB inr 7 [.ref ina, .int (nI 0)], bA g ina 768 fi, oB fr 7 [.ref fra, .int (nI nf)], bA g fra fcap ff]) (fun _ => rfl) (by decide) [pt, hh, sp, sdr, sda, inr, ina, fr, fra] rfl (fun _ => rfl) (fun _ => rfl) [oB pt 6 [.ref fnd, .ref mid, .ref sp, .ref sdr, .ref hh], oB hh 5 [.ref inr, .ref outr, .ref zo, .ref on, .ref sp, .ref sdr, .int oly, .int otr], oB sp 8 [.int (nI fm), .int (nI nn), .int (nI ht), .int (nI lys), .int (nI fa), .int (nI mk)], oB sdr 7 [.ref sda, .int (nI 48)], bA g sda 48 sd, bA g ina 768 fi, oB fr 7 [.ref fra, .int (nI nf)], bA g fra fcap ff] rfl (fun _ => rfl) rfl [] rfl (Nat.le_of_ble_eq_true rfl) ⟨Nat.le_refl _, Nat.le_refl _⟩ dX6_startPoints_7 ?_
  intro _ hu_1
  refine j_w [oB pt 6 [.ref fnd, .ref mid, .ref sp, .ref sdr, .ref hh], oB hh 5 [.ref inr, .ref outr, .ref zo, .ref on, .ref sp, .ref sdr, .int oly, .int otr], oB sp 8 [.int (nI fm), .int (nI nn), .int (nI ht), .int (nI lys), .int (nI fa), .int (nI mk)], oB sdr 7 [.ref sda, .int (nI 48)], bA g sda 48 sd, oB inr 7 [.ref ina, .int (nI 0)], bA g ina 768 fi, oB fr 7 [.ref fra, .int (nI nf)], bA g fra fcap ff] rfl ?_
  refine j_st [] rfl ?_
  refine j_aload_n hX 0 dX6_startPoints_10 rfl ?_
  refine j_get hX in6 6 0 4 (v := .ref hh) rfl rfl (by decide) (List.mem_of_getElem? (i := 1) rfl) rfl rfl dX6_startPoints_11 ?_
  refine j_get hX in5 5 1 0 (v := .ref inr) rfl rfl (by decide) (List.mem_of_getElem? (i := 2) rfl) rfl rfl dX6_startPoints_14 ?_
  refine j_pc 17 rfl ?_
  refine j_aload_n hX 1 dX6_startPoints_17 rfl ?_
  refine j_iconst hX (0) dX6_startPoints_18 (by decide) ?_
  refine j_aload_n hX 0 dX6_startPoints_19 rfl ?_
  refine j_get hX in6 6 0 2 (v := .ref sp) rfl rfl (by decide) (List.mem_of_getElem? (i := 3) rfl) rfl rfl dX6_startPoints_20 ?_
  refine j_get hX in8 8 2 1 (v := .int (nI nn)) rfl rfl (by decide) (List.mem_of_getElem? (i := 4) rfl) rfl rfl dX6_startPoints_23 ?_
  refine j_callV2 hX 3 (c_add l g inr ina 0 768 fi fr fra nf fcap ff 0 nn (by omega) (by omega) (by omega) (by omega) hFB (by omega) (by omega)) gX6_startPoints_X7_add (by decide +kernel) rfl ⟨rfl, rfl⟩ ⟨Nat.le_of_ble_eq_true rfl, Nat.le_of_ble_eq_true rfl⟩ 7 5 rfl rfl [5, 6, 7, 8] [0, 1, 2, 3, 4] 9 rfl (by decide) (fun jj : (Nat → Int32) => [oB pt 6 [.ref fnd, .ref mid, .ref sp, .ref sdr, .ref hh], oB hh 5 [.ref inr, .ref outr, .ref zo, .ref on, .ref sp, .ref sdr, .int oly, .int otr], oB sp 8 [.int (nI fm), .int (nI nn), .int (nI ht), .int (nI lys), .int (nI fa), .int (nI mk)], oB sdr 7 [.ref sda, .int (nI 48)], bA g sda 48 sd, oB inr 7 [.ref ina, .int (nI (0 + nn))], bA g ina 768 jj, oB fr 7 [.ref fra, .int (nI nf)], bA g fra fcap ff]) (fun _ => rfl) (by decide) [pt, hh, sp, sdr, sda, inr, ina, fr, fra] rfl (fun _ => rfl) (fun _ => rfl) [oB pt 6 [.ref fnd, .ref mid, .ref sp, .ref sdr, .ref hh], oB hh 5 [.ref inr, .ref outr, .ref zo, .ref on, .ref sp, .ref sdr, .int oly, .int otr], oB sp 8 [.int (nI fm), .int (nI nn), .int (nI ht), .int (nI lys), .int (nI fa), .int (nI mk)], oB sdr 7 [.ref sda, .int (nI 48)], bA g sda 48 sd] rfl (fun _ => rfl) rfl [] rfl (Nat.le_of_ble_eq_true rfl) ⟨Nat.le_refl _, Nat.le_refl _⟩ dX6_startPoints_26 ?_
  intro F1 hF1
  try dsimp only at hF1
  refine j_w [oB pt 6 [.ref fnd, .ref mid, .ref sp, .ref sdr, .ref hh], oB hh 5 [.ref inr, .ref outr, .ref zo, .ref on, .ref sp, .ref sdr, .int oly, .int otr], oB sp 8 [.int (nI fm), .int (nI nn), .int (nI ht), .int (nI lys), .int (nI fa), .int (nI mk)], oB sdr 7 [.ref sda, .int (nI 48)], bA g sda 48 sd, oB inr 7 [.ref ina, .int (nI (0 + nn))], bA g ina 768 F1, oB fr 7 [.ref fra, .int (nI nf)], bA g fra fcap ff] rfl ?_
  refine j_st [] rfl ?_
  refine j_aload_n hX 0 dX6_startPoints_29 rfl ?_
  refine j_get hX in6 6 0 4 (v := .ref hh) rfl rfl (by decide) (List.mem_of_getElem? (i := 1) rfl) rfl rfl dX6_startPoints_30 ?_
  refine j_pc 33 rfl ?_
  refine j_get hX in5 5 1 0 (v := .ref inr) rfl rfl (by decide) (List.mem_of_getElem? (i := 2) rfl) rfl rfl dX6_startPoints_33 ?_
  refine j_aload_n hX 0 dX6_startPoints_36 rfl ?_
  refine j_get hX in6 6 0 3 (v := .ref sdr) rfl rfl (by decide) (List.mem_of_getElem? (i := 5) rfl) rfl rfl dX6_startPoints_37 ?_
  refine j_bipush hX (32) dX6_startPoints_40 (by decide) ?_
  refine j_aload_n hX 0 dX6_startPoints_42 rfl ?_
  refine j_get hX in6 6 0 2 (v := .ref sp) rfl rfl (by decide) (List.mem_of_getElem? (i := 3) rfl) rfl rfl dX6_startPoints_43 ?_
  refine j_get hX in8 8 2 1 (v := .int (nI nn)) rfl rfl (by decide) (List.mem_of_getElem? (i := 4) rfl) rfl rfl dX6_startPoints_46 ?_
  refine j_callV2 hX 3 (c_add l g inr ina (0 + nn) 768 F1 sdr sda 48 48 sd 32 nn (by omega) (by omega) (by omega) (by omega) hB (by omega) (by omega)) gX6_startPoints_X7_add (by decide +kernel) rfl ⟨rfl, rfl⟩ ⟨Nat.le_of_ble_eq_true rfl, Nat.le_of_ble_eq_true rfl⟩ 7 5 rfl rfl [5, 6, 3, 4] [0, 1, 2, 7, 8] 9 rfl (by decide) (fun jj : (Nat → Int32) => [oB pt 6 [.ref fnd, .ref mid, .ref sp, .ref sdr, .ref hh], oB hh 5 [.ref inr, .ref outr, .ref zo, .ref on, .ref sp, .ref sdr, .int oly, .int otr], oB sp 8 [.int (nI fm), .int (nI nn), .int (nI ht), .int (nI lys), .int (nI fa), .int (nI mk)], oB sdr 7 [.ref sda, .int (nI 48)], bA g sda 48 sd, oB inr 7 [.ref ina, .int (nI ((0 + nn) + nn))], bA g ina 768 jj, oB fr 7 [.ref fra, .int (nI nf)], bA g fra fcap ff]) (fun _ => rfl) (by decide) [pt, hh, sp, sdr, sda, inr, ina, fr, fra] rfl (fun _ => rfl) (fun _ => rfl) [oB pt 6 [.ref fnd, .ref mid, .ref sp, .ref sdr, .ref hh], oB hh 5 [.ref inr, .ref outr, .ref zo, .ref on, .ref sp, .ref sdr, .int oly, .int otr], oB sp 8 [.int (nI fm), .int (nI nn), .int (nI ht), .int (nI lys), .int (nI fa), .int (nI mk)], oB fr 7 [.ref fra, .int (nI nf)], bA g fra fcap ff] rfl (fun _ => rfl) rfl [] rfl (Nat.le_of_ble_eq_true rfl) ⟨Nat.le_refl _, Nat.le_refl _⟩ dX6_startPoints_49 ?_
  intro F2 hF2
  try dsimp only at hF2
  refine j_w [oB pt 6 [.ref fnd, .ref mid, .ref sp, .ref sdr, .ref hh], oB hh 5 [.ref inr, .ref outr, .ref zo, .ref on, .ref sp, .ref sdr, .int oly, .int otr], oB sp 8 [.int (nI fm), .int (nI nn), .int (nI ht), .int (nI lys), .int (nI fa), .int (nI mk)], oB sdr 7 [.ref sda, .int (nI 48)], bA g sda 48 sd, oB inr 7 [.ref ina, .int (nI ((0 + nn) + nn))], bA g ina 768 F2, oB fr 7 [.ref fra, .int (nI nf)], bA g fra fcap ff] rfl ?_
  refine j_st [] rfl ?_
  refine j_w [oB pt 6 [.ref fnd, .ref mid, .ref sp, .ref sdr, .ref hh], oB hh 5 [.ref inr, .ref outr, .ref zo, .ref on, .ref sp, .ref sdr, .int oly, .int otr], oB sp 8 [.int (nI fm), .int (nI nn), .int (nI ht), .int (nI lys), .int (nI fa), .int (nI mk)], oB sdr 7 [.ref sda, .int (nI 48)], bA g sda 48 sd, oB inr 7 [.ref ina, .int (nI (nn + nn))], bA g ina 768 F2, oB fr 7 [.ref fra, .int (nI nf)], bA g fra fcap ff] (by rw [Nat.zero_add]) ?_
  refine j_pc 52 rfl ?_
  exact hret F2 (by rw [hF2, hF1, putL_app' (by rw [slice_length])]) 52 _ .return_ dX6_startPoints_52 rfl

