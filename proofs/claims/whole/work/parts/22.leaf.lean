/-! digits, leaves, said plainly -/
def nib (x : Int32) (i : Nat) : Nat := x.toBitVec.toNat / (if i % 2 = 0 then 16 else 1) % 16
theorem nib_lt (x : Int32) (i : Nat) : nib x i < 16 := Nat.mod_lt _ (by decide)
theorem ext4 (x : BitVec 32) (k : Nat) (hk : k + 4 ≤ 32) : (x.sshiftRight k).setWidth 4 = (x >>> k).setWidth 4 := by
  apply BitVec.eq_of_getLsbD_eq
  intro i hi
  rw [BitVec.getLsbD_setWidth, BitVec.getLsbD_setWidth, BitVec.getLsbD_sshiftRight, BitVec.getLsbD_ushiftRight]
  simp [show ¬ 32 ≤ i by omega, show k + i < 32 by omega]
theorem nib_m (x : Int32) {i q : Nat} (hq : q = if i % 2 = 0 then 4 else 0) : (x >>> (nI q &&& 31)) &&& 15 = nI (nib x i) := by
  rw [pk_and _ 4 rfl]
  congr 1
  have hq4 : q ≤ 4 := by rw [hq]; split <;> omega
  have key : ∀ k, k ≤ 4 → (nI k &&& 31).toBitVec.smod 32 = BitVec.ofNat 32 k := by decide
  have e1 : (x >>> (nI q &&& 31)).toBitVec = x.toBitVec.sshiftRight q := by
    show BitVec.sshiftRight' x.toBitVec ((nI q &&& 31).toBitVec.smod 32) = _
    rw [key q hq4, BitVec.sshiftRight', BitVec.toNat_ofNat, Nat.mod_eq_of_lt (by omega)]
  have e2 := congrArg BitVec.toNat (ext4 x.toBitVec q (by omega))
  rw [BitVec.toNat_setWidth, BitVec.toNat_setWidth, BitVec.toNat_ushiftRight, Nat.shiftRight_eq_div_pow] at e2
  rw [e1]
  show _ % 2 ^ 4 = _
  rw [e2]
  unfold nib
  by_cases h : i % 2 = 0
  · rw [hq, if_pos h, if_pos h]
  · rw [hq, if_neg h, if_neg h]
theorem nib_c (x : Int32) {i q : Nat} (hq : q = if i % 2 = 0 then 4 else 0) : ((x &&& 255) >>> (nI q &&& 31)) &&& 15 = nI (nib x i) := by
  rw [nib_m (x &&& 255) hq, pk_and x 8 rfl]
  congr 1
  unfold nib
  rw [pk_tn (by omega)]
  split <;> omega
/-- what the digits are less than 15, summed -/
def cs (f : Nat → Int32) : Nat → Nat
  | 0 => 0
  | i + 1 => cs f i + (15 - nib (f (i / 2)) i)
theorem cs_le (f : Nat → Int32) : ∀ i, cs f i ≤ 15 * i
  | 0 => Nat.le_refl _
  | i + 1 => by have := cs_le f i; unfold cs; omega
/-- DIGIT i of a row of n bytes -/
def dgt (f : Nat → Int32) (n i : Nat) : Nat := if i < 2 * n then nib (f (i / 2)) i else cs f (2 * n) / 16 ^ (ln n - 1 - i) % 16
theorem dgt_lt (f : Nat → Int32) (n i : Nat) : dgt f n i < 16 := by
  unfold dgt
  split
  · exact nib_lt _ _
  · exact Nat.mod_lt _ (by decide)
theorem cs_congr {f h : Nat → Int32} : ∀ {n}, (∀ j, j < n → f (j / 2) = h (j / 2)) → cs f n = cs h n
  | 0, _ => rfl
  | n + 1, e => by rw [cs, cs, cs_congr (fun j hj => e j (by omega)), e n (by omega)]
theorem dgt_congr {f h : Nat → Int32} {n : Nat} (e : ∀ j, j < n → f j = h j) {i : Nat} : dgt f n i = dgt h n i := by
  unfold dgt
  rw [cs_congr (fun j hj => e (j / 2) (by omega))]
  by_cases hi : i < 2 * n
  · rw [if_pos hi, if_pos hi, e (i / 2) (by omega)]
  · rw [if_neg hi, if_neg hi]
theorem p16 (k : Nat) : 2 ^ (4 * k) = 16 ^ k := Nat.pow_mul 2 4 k
theorem ln_eq (n : Nat) : ln n = 2 * n + (if n ≤ 8 then 2 else 3) := rfl
theorem ln_le (n : Nat) : 2 * n + 2 ≤ ln n ∧ ln n ≤ 2 * n + 3 := by unfold ln; split <;> omega
def endT (fm n : Nat) (sd : Nat → Int32) (ly tr u v : Nat) : List Int32 := chT fm n sd ly tr u v (secT fm n sd ly tr 5 u v 0) 0 15
theorem secT_length {fm n : Nat} (hn : n ≤ 32) (sd : Nat → Int32) (ly tr kd u v w : Nat) : (secT fm n sd ly tr kd u v w).length = n := TT_length hn _ _ _ _ _ _ _ _
theorem endT_length {fm n : Nat} (hn : n ≤ 32) (sd : Nat → Int32) (ly tr u v : Nat) : (endT fm n sd ly tr u v).length = n := chT_length hn _ _ _ _ _ (secT_length hn _ _ _ _ _ _ _) _ _
def eL (fm n : Nat) (sd : Nat → Int32) (ly tr u : Nat) : Nat → List Int32
  | 0 => []
  | k + 1 => eL fm n sd ly tr u k ++ endT fm n sd ly tr u k
theorem eL_length {fm n : Nat} (hn : n ≤ 32) (sd : Nat → Int32) (ly tr u : Nat) : ∀ k, (eL fm n sd ly tr u k).length = n * k
  | 0 => rfl
  | k + 1 => by rw [eL, List.length_append, eL_length hn, endT_length hn, Nat.mul_succ]
theorem eL_B (fm n : Nat) (sd : Nat → Int32) (ly tr u : Nat) : ∀ k, isBL (eL fm n sd ly tr u k)
  | 0 => isBL_nil
  | k + 1 => isBL_app (eL_B fm n sd ly tr u k) (chT_B _ _ _ _ _ (TT_B _ _ _ _ _ _ _ _ _ _) _ _)
/-- LEAF u of a layer's tree -/
def LF (fm n : Nat) (sd : Nat → Int32) (ly tr u : Nat) : List Int32 := TT fm n sd ly tr 1 u 0 0 (eL fm n sd ly tr u (ln n))
theorem LF_length {fm n : Nat} (hn : n ≤ 32) (sd : Nat → Int32) (ly tr u : Nat) : (LF fm n sd ly tr u).length = n := TT_length hn _ _ _ _ _ _ _ _
theorem LF_B (fm n : Nat) (sd : Nat → Int32) (ly tr u : Nat) : isBL (LF fm n sd ly tr u) := TT_B _ _ _ _ _ _ _ _ _ _
theorem eL_step {fm n : Nat} {sd : Nat → Int32} {ly tr u k t : Nat} {e0 E E1 E2 : Nat → Int32} (hn : n ≤ 16) (ht : t = n * k) (hE : E = putL e0 0 (eL fm n sd ly tr u k)) (h1 : E1 = putL E t (secT fm n sd ly tr 5 u k 0)) (h2 : E2 = putL E1 t (chT fm n sd ly tr u k (slice E1 t n) 0 15)) : E2 = putL e0 0 (eL fm n sd ly tr u (k + 1)) := by
  have hs : slice E1 t n = secT fm n sd ly tr 5 u k 0 := by rw [h1, slice_put (by rw [secT_length (by omega)])]
  rw [hs] at h2
  rw [h2, h1, putL_over (by rw [secT_length (by omega), chT_length (by omega) _ _ _ _ _ (secT_length (by omega) _ _ _ _ _ _ _)]), hE, putL_app' (by rw [eL_length (by omega)]; omega)]
  rfl
theorem mul_lt_ln {n k : Nat} (hn : n ≤ 16) (hk : k < ln n) : n * k + n ≤ 560 := by
  have h1 : ln n ≤ 35 := by have := ln_le n; omega
  have h2 : n * k ≤ 16 * 34 := Nat.mul_le_mul hn (by omega)
  omega

theorem dX11_digits_0 : decode cX11_digits 0 = .ok (.iconst 0, 1) := by decide +kernel
theorem dX11_digits_1 : decode cX11_digits 1 = .ok (.istore_n 3, 1) := by decide +kernel
theorem dX11_digits_2 : decode cX11_digits 2 = .ok (.iconst 0, 1) := by decide +kernel
theorem dX11_digits_3 : decode cX11_digits 3 = .ok (.istore 4, 2) := by decide +kernel
theorem dX11_digits_5 : decode cX11_digits 5 = .ok (.iload 4, 2) := by decide +kernel
theorem dX11_digits_7 : decode cX11_digits 7 = .ok (.iconst 2, 1) := by decide +kernel
theorem dX11_digits_8 : decode cX11_digits 8 = .ok (.aload_n 0, 1) := by decide +kernel
theorem dX11_digits_9 : decode cX11_digits 9 = .ok (.getfield 166, 3) := by decide +kernel
theorem dX11_digits_12 : decode cX11_digits 12 = .ok (.imul, 1) := by decide +kernel
theorem dX11_digits_13 : decode cX11_digits 13 = .ok (.if_icmp .ge 53, 3) := by decide +kernel
theorem dX11_digits_16 : decode cX11_digits 16 = .ok (.aload_n 0, 1) := by decide +kernel
theorem dX11_digits_17 : decode cX11_digits 17 = .ok (.getfield 123, 3) := by decide +kernel
theorem dX11_digits_20 : decode cX11_digits 20 = .ok (.iload 4, 2) := by decide +kernel
theorem dX11_digits_22 : decode cX11_digits 22 = .ok (.aload_n 1, 1) := by decide +kernel
theorem dX11_digits_23 : decode cX11_digits 23 = .ok (.iload_n 2, 1) := by decide +kernel
theorem dX11_digits_24 : decode cX11_digits 24 = .ok (.iload 4, 2) := by decide +kernel
theorem dX11_digits_26 : decode cX11_digits 26 = .ok (.iconst 2, 1) := by decide +kernel
theorem dX11_digits_27 : decode cX11_digits 27 = .ok (.idiv, 1) := by decide +kernel
theorem dX11_digits_28 : decode cX11_digits 28 = .ok (.iadd, 1) := by decide +kernel
theorem dX11_digits_29 : decode cX11_digits 29 = .ok (.baload, 1) := by decide +kernel
theorem dX11_digits_30 : decode cX11_digits 30 = .ok (.iload 4, 2) := by decide +kernel
theorem dX11_digits_32 : decode cX11_digits 32 = .ok (.iconst 2, 1) := by decide +kernel
theorem dX11_digits_33 : decode cX11_digits 33 = .ok (.irem, 1) := by decide +kernel
theorem dX11_digits_34 : decode cX11_digits 34 = .ok (.ifCond .ne 7, 3) := by decide +kernel
theorem dX11_digits_37 : decode cX11_digits 37 = .ok (.iconst 4, 1) := by decide +kernel
theorem dX11_digits_38 : decode cX11_digits 38 = .ok (.goto 4, 3) := by decide +kernel
theorem dX11_digits_41 : decode cX11_digits 41 = .ok (.iconst 0, 1) := by decide +kernel
theorem dX11_digits_42 : decode cX11_digits 42 = .ok (.ishr, 1) := by decide +kernel
theorem dX11_digits_43 : decode cX11_digits 43 = .ok (.bipush 15, 2) := by decide +kernel
theorem dX11_digits_45 : decode cX11_digits 45 = .ok (.iand, 1) := by decide +kernel
theorem dX11_digits_46 : decode cX11_digits 46 = .ok (.iastore, 1) := by decide +kernel
theorem dX11_digits_47 : decode cX11_digits 47 = .ok (.iload_n 3, 1) := by decide +kernel
theorem dX11_digits_48 : decode cX11_digits 48 = .ok (.bipush 15, 2) := by decide +kernel
theorem dX11_digits_50 : decode cX11_digits 50 = .ok (.aload_n 0, 1) := by decide +kernel
theorem dX11_digits_51 : decode cX11_digits 51 = .ok (.getfield 123, 3) := by decide +kernel
theorem dX11_digits_54 : decode cX11_digits 54 = .ok (.iload 4, 2) := by decide +kernel
theorem dX11_digits_56 : decode cX11_digits 56 = .ok (.iaload, 1) := by decide +kernel
theorem dX11_digits_57 : decode cX11_digits 57 = .ok (.isub, 1) := by decide +kernel
theorem dX11_digits_58 : decode cX11_digits 58 = .ok (.iadd, 1) := by decide +kernel
theorem dX11_digits_59 : decode cX11_digits 59 = .ok (.istore_n 3, 1) := by decide +kernel
theorem dX11_digits_60 : decode cX11_digits 60 = .ok (.iinc 4 1, 3) := by decide +kernel
theorem dX11_digits_63 : decode cX11_digits 63 = .ok (.goto (-58), 3) := by decide +kernel
theorem dX11_digits_66 : decode cX11_digits 66 = .ok (.iconst 2, 1) := by decide +kernel
theorem dX11_digits_67 : decode cX11_digits 67 = .ok (.aload_n 0, 1) := by decide +kernel
theorem dX11_digits_68 : decode cX11_digits 68 = .ok (.getfield 166, 3) := by decide +kernel
theorem dX11_digits_71 : decode cX11_digits 71 = .ok (.imul, 1) := by decide +kernel
theorem dX11_digits_72 : decode cX11_digits 72 = .ok (.istore 4, 2) := by decide +kernel
theorem dX11_digits_74 : decode cX11_digits 74 = .ok (.iload 4, 2) := by decide +kernel
theorem dX11_digits_76 : decode cX11_digits 76 = .ok (.aload_n 0, 1) := by decide +kernel
theorem dX11_digits_77 : decode cX11_digits 77 = .ok (.getfield 238, 3) := by decide +kernel
theorem dX11_digits_80 : decode cX11_digits 80 = .ok (.if_icmp .ge 32, 3) := by decide +kernel
theorem dX11_digits_83 : decode cX11_digits 83 = .ok (.aload_n 0, 1) := by decide +kernel
theorem dX11_digits_84 : decode cX11_digits 84 = .ok (.getfield 123, 3) := by decide +kernel
theorem dX11_digits_87 : decode cX11_digits 87 = .ok (.iload 4, 2) := by decide +kernel
theorem dX11_digits_89 : decode cX11_digits 89 = .ok (.iload_n 3, 1) := by decide +kernel
theorem dX11_digits_90 : decode cX11_digits 90 = .ok (.iconst 4, 1) := by decide +kernel
theorem dX11_digits_91 : decode cX11_digits 91 = .ok (.aload_n 0, 1) := by decide +kernel
theorem dX11_digits_92 : decode cX11_digits 92 = .ok (.getfield 238, 3) := by decide +kernel
theorem dX11_digits_95 : decode cX11_digits 95 = .ok (.iconst 1, 1) := by decide +kernel
theorem dX11_digits_96 : decode cX11_digits 96 = .ok (.isub, 1) := by decide +kernel
theorem dX11_digits_97 : decode cX11_digits 97 = .ok (.iload 4, 2) := by decide +kernel
theorem dX11_digits_99 : decode cX11_digits 99 = .ok (.isub, 1) := by decide +kernel
theorem dX11_digits_100 : decode cX11_digits 100 = .ok (.imul, 1) := by decide +kernel
theorem dX11_digits_101 : decode cX11_digits 101 = .ok (.ishr, 1) := by decide +kernel
theorem dX11_digits_102 : decode cX11_digits 102 = .ok (.bipush 15, 2) := by decide +kernel
theorem dX11_digits_104 : decode cX11_digits 104 = .ok (.iand, 1) := by decide +kernel
theorem dX11_digits_105 : decode cX11_digits 105 = .ok (.iastore, 1) := by decide +kernel
theorem dX11_digits_106 : decode cX11_digits 106 = .ok (.iinc 4 1, 3) := by decide +kernel
theorem dX11_digits_109 : decode cX11_digits 109 = .ok (.goto (-35), 3) := by decide +kernel
theorem dX11_digits_112 : decode cX11_digits 112 = .ok (.return_, 1) := by decide +kernel
set_option maxRecDepth 20000 in
theorem ggX11_leafOf_X11_secret : GoodIn wsX11_leafOf wsX11_secret := goodIn_r _ [8, 9, 10, 11, 7, 12, 13, 14, 15, 16, 17, 18, 19, 20, 3, 21, 22, 23, 24, 25, 26, 27, 28, 29, 30, 31, 32, 33, 34, 35, 36, 37, 38, 39, 40, 41, 42, 43, 44, 45, 46, 47, 48, 49, 50, 51, 52, 53, 54, 55, 56, 57, 58, 59, 60, 61, 62, 63, 64, 65, 66, 67, 68, 69, 70, 71, 72, 81, 82, 83, 84, 85, 86, 87, 88, 89, 90, 91, 92, 93, 94, 95, 96, 97, 98, 99, 100, 101, 102, 103, 104, 105, 106, 107, 108, 109, 110, 111, 112, 113, 114, 115, 116, 117, 118, 119, 120, 121, 122, 123] rfl (by decide +kernel)
set_option maxRecDepth 20000 in
theorem gX11_leafOf_X11_secret : GoodIn wsX11_leafOf (wsV RX11 274 RX11 yX11_secret wsX11_secret) := goodIn_app (goodIn_of _ (by decide +kernel)) ggX11_leafOf_X11_secret
set_option maxRecDepth 20000 in
theorem ggX11_leafOf_X11_chain : GoodIn wsX11_leafOf wsX11_chain := goodIn_r _ [76, 3, 9, 10, 11, 7, 12, 13, 14, 15, 16, 17, 18, 19, 20, 21, 22, 23, 24, 25, 26, 27, 28, 29, 30, 77, 78, 79, 80, 31, 32, 33, 34, 35, 36, 37, 38, 39, 40, 41, 42, 43, 44, 45, 46, 47, 48, 49, 50, 51, 52, 53, 54, 55, 56, 57, 58, 59, 60, 61, 62, 63, 64, 65, 66, 67, 68, 69, 70, 71, 72, 81, 82, 83, 84, 85, 86, 87, 88, 89, 90, 91, 92, 93, 94, 95, 96, 97, 98, 99, 100, 101, 102, 103, 104, 105, 106, 107, 108, 109, 110, 111, 112, 113, 114, 115, 116, 117, 118, 119, 120, 121, 122, 123] rfl (by decide +kernel)
set_option maxRecDepth 20000 in
theorem gX11_leafOf_X11_chain : GoodIn wsX11_leafOf (wsV RX11 278 RX11 yX11_chain wsX11_chain) := goodIn_app (goodIn_of _ (by decide +kernel)) ggX11_leafOf_X11_chain
set_option maxRecDepth 20000 in
theorem ggX11_leafOf_X11_begin : GoodIn wsX11_leafOf wsX11_begin := goodIn_r _ [12, 13, 14, 15, 16, 17, 18, 19, 7, 20, 3, 21, 22, 23, 24, 25, 26, 27, 28, 29, 30, 81, 82, 83, 84, 85, 86, 87, 88, 89, 90, 91, 92, 93, 94, 95, 96, 97, 98, 99, 100, 101, 102, 103, 104, 105, 106, 107, 108, 109, 110, 111, 112, 113, 114, 115, 116, 117, 118, 119, 120, 121, 122, 123] rfl (by decide +kernel)
set_option maxRecDepth 20000 in
theorem gX11_leafOf_X11_begin : GoodIn wsX11_leafOf (wsV RX11 262 RX11 yX11_begin wsX11_begin) := goodIn_app (goodIn_of _ (by decide +kernel)) ggX11_leafOf_X11_begin
set_option maxRecDepth 20000 in
theorem ggX11_leafOf_X11_layRow : GoodIn wsX11_leafOf wsX11_layRow := goodIn_r _ [80, 22, 23, 24, 7, 25, 26, 13, 81, 82, 83, 84, 85, 86, 87, 88, 89, 90, 91, 92, 93, 94, 95, 96, 97, 98, 99, 100, 101, 102, 103, 104, 105, 106, 107, 108, 109, 110, 111, 112, 113, 114, 115, 116, 117, 118, 119, 120, 121, 122, 123] rfl (by decide +kernel)
set_option maxRecDepth 20000 in
theorem gX11_leafOf_X11_layRow : GoodIn wsX11_leafOf (wsV RX11 270 RX11 yX11_layRow wsX11_layRow) := goodIn_app (goodIn_of _ (by decide +kernel)) ggX11_leafOf_X11_layRow
set_option maxRecDepth 20000 in
theorem ggX11_leafOf_X11_end : GoodIn wsX11_leafOf wsX11_end := goodIn_r _ [34, 14, 3, 35, 36, 37, 38, 7, 39, 40, 41, 42, 43, 44, 13, 45, 46, 22, 23, 24, 25, 26, 27, 28, 29, 30, 47, 48, 49, 50, 51, 52, 53, 54, 55, 56, 57, 58, 59, 60, 61, 62, 63, 64, 65, 66, 67, 68, 69, 70, 71, 72, 81, 82, 83, 84, 85, 86, 87, 88, 89, 90, 91, 92, 93, 94, 95, 96, 97, 98, 99, 100, 101, 102, 103, 104, 105, 106, 107, 108, 109, 110, 111, 112, 113, 114, 115, 116, 117, 118, 119, 120, 121, 122, 123] rfl (by decide +kernel)
set_option maxRecDepth 20000 in
theorem gX11_leafOf_X11_end : GoodIn wsX11_leafOf (wsV RX11 266 RX11 yX11_end wsX11_end) := goodIn_app (goodIn_of _ (by decide +kernel)) ggX11_leafOf_X11_end
theorem dX11_leafOf_0 : decode cX11_leafOf 0 = .ok (.iconst 0, 1) := by decide +kernel
theorem dX11_leafOf_1 : decode cX11_leafOf 1 = .ok (.istore 4, 2) := by decide +kernel
theorem dX11_leafOf_3 : decode cX11_leafOf 3 = .ok (.iload 4, 2) := by decide +kernel
theorem dX11_leafOf_5 : decode cX11_leafOf 5 = .ok (.aload_n 0, 1) := by decide +kernel
theorem dX11_leafOf_6 : decode cX11_leafOf 6 = .ok (.getfield 238, 3) := by decide +kernel
theorem dX11_leafOf_9 : decode cX11_leafOf 9 = .ok (.if_icmp .ge 50, 3) := by decide +kernel
theorem dX11_leafOf_12 : decode cX11_leafOf 12 = .ok (.aload_n 0, 1) := by decide +kernel
theorem dX11_leafOf_13 : decode cX11_leafOf 13 = .ok (.iconst 5, 1) := by decide +kernel
theorem dX11_leafOf_14 : decode cX11_leafOf 14 = .ok (.iload_n 1, 1) := by decide +kernel
theorem dX11_leafOf_15 : decode cX11_leafOf 15 = .ok (.iload 4, 2) := by decide +kernel
theorem dX11_leafOf_17 : decode cX11_leafOf 17 = .ok (.iconst 0, 1) := by decide +kernel
theorem dX11_leafOf_18 : decode cX11_leafOf 18 = .ok (.aload_n 0, 1) := by decide +kernel
theorem dX11_leafOf_19 : decode cX11_leafOf 19 = .ok (.getfield 126, 3) := by decide +kernel
theorem dX11_leafOf_22 : decode cX11_leafOf 22 = .ok (.aload_n 0, 1) := by decide +kernel
theorem dX11_leafOf_23 : decode cX11_leafOf 23 = .ok (.getfield 166, 3) := by decide +kernel
theorem dX11_leafOf_26 : decode cX11_leafOf 26 = .ok (.iload 4, 2) := by decide +kernel
theorem dX11_leafOf_28 : decode cX11_leafOf 28 = .ok (.imul, 1) := by decide +kernel
theorem dX11_leafOf_29 : decode cX11_leafOf 29 = .ok (.invokevirtual 274, 3) := by decide +kernel
theorem dX11_leafOf_32 : decode cX11_leafOf 32 = .ok (.aload_n 0, 1) := by decide +kernel
theorem dX11_leafOf_33 : decode cX11_leafOf 33 = .ok (.aload_n 0, 1) := by decide +kernel
theorem dX11_leafOf_34 : decode cX11_leafOf 34 = .ok (.getfield 126, 3) := by decide +kernel
theorem dX11_leafOf_37 : decode cX11_leafOf 37 = .ok (.aload_n 0, 1) := by decide +kernel
theorem dX11_leafOf_38 : decode cX11_leafOf 38 = .ok (.getfield 166, 3) := by decide +kernel
theorem dX11_leafOf_41 : decode cX11_leafOf 41 = .ok (.iload 4, 2) := by decide +kernel
theorem dX11_leafOf_43 : decode cX11_leafOf 43 = .ok (.imul, 1) := by decide +kernel
theorem dX11_leafOf_44 : decode cX11_leafOf 44 = .ok (.iconst 0, 1) := by decide +kernel
theorem dX11_leafOf_45 : decode cX11_leafOf 45 = .ok (.bipush 15, 2) := by decide +kernel
theorem dX11_leafOf_47 : decode cX11_leafOf 47 = .ok (.iload_n 1, 1) := by decide +kernel
theorem dX11_leafOf_48 : decode cX11_leafOf 48 = .ok (.iload 4, 2) := by decide +kernel
theorem dX11_leafOf_50 : decode cX11_leafOf 50 = .ok (.invokevirtual 278, 3) := by decide +kernel
theorem dX11_leafOf_53 : decode cX11_leafOf 53 = .ok (.iinc 4 1, 3) := by decide +kernel
theorem dX11_leafOf_56 : decode cX11_leafOf 56 = .ok (.goto (-53), 3) := by decide +kernel
theorem dX11_leafOf_59 : decode cX11_leafOf 59 = .ok (.aload_n 0, 1) := by decide +kernel
theorem dX11_leafOf_60 : decode cX11_leafOf 60 = .ok (.iconst 1, 1) := by decide +kernel
theorem dX11_leafOf_61 : decode cX11_leafOf 61 = .ok (.iload_n 1, 1) := by decide +kernel
theorem dX11_leafOf_62 : decode cX11_leafOf 62 = .ok (.iconst 0, 1) := by decide +kernel
theorem dX11_leafOf_63 : decode cX11_leafOf 63 = .ok (.iconst 0, 1) := by decide +kernel
theorem dX11_leafOf_64 : decode cX11_leafOf 64 = .ok (.invokevirtual 262, 3) := by decide +kernel
theorem dX11_leafOf_67 : decode cX11_leafOf 67 = .ok (.aload_n 0, 1) := by decide +kernel
theorem dX11_leafOf_68 : decode cX11_leafOf 68 = .ok (.aload_n 0, 1) := by decide +kernel
theorem dX11_leafOf_69 : decode cX11_leafOf 69 = .ok (.getfield 126, 3) := by decide +kernel
theorem dX11_leafOf_72 : decode cX11_leafOf 72 = .ok (.iconst 0, 1) := by decide +kernel
theorem dX11_leafOf_73 : decode cX11_leafOf 73 = .ok (.aload_n 0, 1) := by decide +kernel
theorem dX11_leafOf_74 : decode cX11_leafOf 74 = .ok (.getfield 166, 3) := by decide +kernel
theorem dX11_leafOf_77 : decode cX11_leafOf 77 = .ok (.aload_n 0, 1) := by decide +kernel
theorem dX11_leafOf_78 : decode cX11_leafOf 78 = .ok (.getfield 238, 3) := by decide +kernel
theorem dX11_leafOf_81 : decode cX11_leafOf 81 = .ok (.imul, 1) := by decide +kernel
theorem dX11_leafOf_82 : decode cX11_leafOf 82 = .ok (.invokevirtual 270, 3) := by decide +kernel
theorem dX11_leafOf_85 : decode cX11_leafOf 85 = .ok (.aload_n 0, 1) := by decide +kernel
theorem dX11_leafOf_86 : decode cX11_leafOf 86 = .ok (.aload_n 2, 1) := by decide +kernel
theorem dX11_leafOf_87 : decode cX11_leafOf 87 = .ok (.iload_n 3, 1) := by decide +kernel
theorem dX11_leafOf_88 : decode cX11_leafOf 88 = .ok (.invokevirtual 266, 3) := by decide +kernel
theorem dX11_leafOf_91 : decode cX11_leafOf 91 = .ok (.return_, 1) := by decide +kernel
theorem dX11_nodeAt_0 : decode cX11_nodeAt 0 = .ok (.iconst 0, 1) := by decide +kernel
theorem dX11_nodeAt_1 : decode cX11_nodeAt 1 = .ok (.istore_n 3, 1) := by decide +kernel
theorem dX11_nodeAt_2 : decode cX11_nodeAt 2 = .ok (.iconst 0, 1) := by decide +kernel
theorem dX11_nodeAt_3 : decode cX11_nodeAt 3 = .ok (.istore 4, 2) := by decide +kernel
theorem dX11_nodeAt_5 : decode cX11_nodeAt 5 = .ok (.iload 4, 2) := by decide +kernel
theorem dX11_nodeAt_7 : decode cX11_nodeAt 7 = .ok (.iload_n 1, 1) := by decide +kernel
theorem dX11_nodeAt_8 : decode cX11_nodeAt 8 = .ok (.if_icmp .ge 21, 3) := by decide +kernel
theorem dX11_nodeAt_11 : decode cX11_nodeAt 11 = .ok (.iload_n 3, 1) := by decide +kernel
theorem dX11_nodeAt_12 : decode cX11_nodeAt 12 = .ok (.iconst 1, 1) := by decide +kernel
theorem dX11_nodeAt_13 : decode cX11_nodeAt 13 = .ok (.aload_n 0, 1) := by decide +kernel
theorem dX11_nodeAt_14 : decode cX11_nodeAt 14 = .ok (.getfield 169, 3) := by decide +kernel
theorem dX11_nodeAt_17 : decode cX11_nodeAt 17 = .ok (.iload 4, 2) := by decide +kernel
theorem dX11_nodeAt_19 : decode cX11_nodeAt 19 = .ok (.isub, 1) := by decide +kernel
theorem dX11_nodeAt_20 : decode cX11_nodeAt 20 = .ok (.ishl, 1) := by decide +kernel
theorem dX11_nodeAt_21 : decode cX11_nodeAt 21 = .ok (.iadd, 1) := by decide +kernel
theorem dX11_nodeAt_22 : decode cX11_nodeAt 22 = .ok (.istore_n 3, 1) := by decide +kernel
theorem dX11_nodeAt_23 : decode cX11_nodeAt 23 = .ok (.iinc 4 1, 3) := by decide +kernel
theorem dX11_nodeAt_26 : decode cX11_nodeAt 26 = .ok (.goto (-21), 3) := by decide +kernel
theorem dX11_nodeAt_29 : decode cX11_nodeAt 29 = .ok (.bipush 16, 2) := by decide +kernel
theorem dX11_nodeAt_31 : decode cX11_nodeAt 31 = .ok (.iload_n 3, 1) := by decide +kernel
theorem dX11_nodeAt_32 : decode cX11_nodeAt 32 = .ok (.iload_n 2, 1) := by decide +kernel
theorem dX11_nodeAt_33 : decode cX11_nodeAt 33 = .ok (.iadd, 1) := by decide +kernel
theorem dX11_nodeAt_34 : decode cX11_nodeAt 34 = .ok (.imul, 1) := by decide +kernel
theorem dX11_nodeAt_35 : decode cX11_nodeAt 35 = .ok (.ireturn, 1) := by decide +kernel
set_option maxHeartbeats 1000000 in
set_option maxRecDepth 100000 in
/-- the reference: digits -/
theorem c_digits (l : Launch) (g : jG) (h : Nat) (b : Nat → Nat) (v : Nat → Int32) (ra : Nat) (rc : Nat) (rf : Nat → Int32) (D0 : Nat → Int32) (t : Nat) (nn : Nat) (hv16 : v 16 = nI nn) (hv21 : v 21 = nI (ln nn)) (hnn : nn ≤ 16) (htr : t + nn ≤ rc) (hrc : rc < 2 ^ 31) : jC l g yX11_digits wsX11_digits ({ frames := 0, cells := 0, slots := 0, locals := 0 } : Room) [.ref h, .ref ra, .int (nI t)] [oB h 11 (mO b v), bA g ra rc rf, iA g (b 29) 40 D0] (fun jj : (Nat → Int32) => none) (fun jj : (Nat → Int32) => ∀ i, i < ln nn → jj i = nI (dgt (fun j => rf (t + j)) nn i)) (fun jj : (Nat → Int32) => [oB h 11 (mO b v), bA g ra rc rf, iA g (b 29) 40 jj]) := by
  refine jC.of (cc := cX11_digits) (own := RX11) (maxL := 5) (ret := none) (by decide +kernel) rfl rfl (Nat.le_of_ble_eq_true rfl) (fun u hu => rfl) ?_
  intro p e s m below meth c A Q hX hret
  have in11 : ∀ w ∈ wsX110, w ∈ wsX11_digits := (fun w h => List.mem_cons_of_mem _ (List.mem_append_right _ h))
  have hln := ln_le nn
  have hcs := cs_le (fun j => rf (t + j)) (2 * nn)
  refine j_iconst hX (0) dX11_digits_0 (by decide) ?_
  refine j_st [.int (nI 0)] rfl ?_
  refine j_istore_n hX 3 [(3, .int (nI 0)), (0, .ref h), (1, .ref ra), (2, .int (nI t))] dX11_digits_1 rfl (by decide) rfl ?_
  refine j_iconst hX (0) dX11_digits_2 (by decide) ?_
  refine j_st [.int (nI 0)] rfl ?_
  refine j_istore hX [(4, .int (nI 0)), (3, .int (nI 0)), (0, .ref h), (1, .ref ra), (2, .int (nI t))] dX11_digits_3 (by decide) rfl ?_
  have lp_1 : ∀ (n_2 : Nat) (i : Nat) (ms : Nat) (D : Nat → Int32), (2 * nn - i < n_2) → (i ≤ 2 * nn) → (ms = cs (fun j => rf (t + j)) i) → (∀ j, j < i → D j = nI (nib (rf (t + j / 2)) j)) → J p l e ({ frames := 0, cells := 0, slots := 0, locals := 0 } : Room) s m ([.ref h, .ref ra, .int (nI t)] : List Value).toArray below meth c g A 5 Q 0 0 [oB h 11 (mO b v), bA g ra rc rf, iA g (b 29) 40 D] [(0, .ref h), (1, .ref ra), (2, .int (nI t)), (3, .int (nI ms)), (4, .int (nI i))] 5 [] := by
    intro n_2
    induction n_2 with
    | zero => intro i ms D hm; exact absurd hm (Nat.not_lt_zero _)
    | succ n_2 ih_3 =>
      intro i ms D hm hi hms hD
      refine j_iload hX 4 dX11_digits_5 rfl ?_
      refine j_iconst hX (2) dX11_digits_7 (by decide) ?_
      refine j_aload_n hX 0 dX11_digits_8 rfl ?_
      refine j_pc 9 rfl ?_
      refine j_gete hX (nI nn) in11 11 0 16 rfl rfl (by decide) (List.mem_of_getElem? (i := 1) rfl) rfl rfl hv16 dX11_digits_9 ?_
      refine j_imulN hX 2 nn dX11_digits_12 ?_
      refine j_icmp_geN hX i (2 * nn) 66 dX11_digits_13 (by decide) (by omega) (by omega) (fun b_13 => ?_) (fun b_13 => ?_)
      · skip
        have hmx : ms = cs (fun j => rf (t + j)) (2 * nn) := by rw [hms, show i = 2 * nn by omega]
        refine j_iconst hX (2) dX11_digits_66 (by decide) ?_
        refine j_aload_n hX 0 dX11_digits_67 rfl ?_
        refine j_gete hX (nI nn) in11 11 0 16 rfl rfl (by decide) (List.mem_of_getElem? (i := 1) rfl) rfl rfl hv16 dX11_digits_68 ?_
        refine j_imulN hX 2 nn dX11_digits_71 ?_
        refine j_istore hX [(4, .int (nI (2 * nn))), (0, .ref h), (1, .ref ra), (2, .int (nI t)), (3, .int (nI ms))] dX11_digits_72 (by decide) rfl ?_
        have lp_4 : ∀ (n_5 : Nat) (i : Nat) (D : Nat → Int32), (ln nn - i < n_5) → (i ≤ ln nn) → (2 * nn ≤ i) → (∀ j, j < i → D j = nI (dgt (fun j => rf (t + j)) nn j)) → J p l e ({ frames := 0, cells := 0, slots := 0, locals := 0 } : Room) s m ([.ref h, .ref ra, .int (nI t)] : List Value).toArray below meth c g A 5 Q 0 0 [oB h 11 (mO b v), bA g ra rc rf, iA g (b 29) 40 D] [(0, .ref h), (1, .ref ra), (2, .int (nI t)), (3, .int (nI ms)), (4, .int (nI i))] 74 [] := by
          intro n_5
          induction n_5 with
          | zero => intro i D hm; exact absurd hm (Nat.not_lt_zero _)
          | succ n_5 ih_6 =>
            intro i D hm hi hi2 hD
            refine j_pc 74 rfl ?_
            refine j_iload hX 4 dX11_digits_74 rfl ?_
            refine j_aload_n hX 0 dX11_digits_76 rfl ?_
            refine j_gete hX (nI (ln nn)) in11 11 0 21 rfl rfl (by decide) (List.mem_of_getElem? (i := 3) rfl) rfl rfl hv21 dX11_digits_77 ?_
            refine j_icmp_geN hX i (ln nn) 112 dX11_digits_80 (by decide) (by omega) (by omega) (fun b_80 => ?_) (fun b_80 => ?_)
            · skip
              exact hret D (fun j hj => hD j (by omega)) 112 _ .return_ dX11_digits_112 rfl
            · skip
              refine j_aload_n hX 0 dX11_digits_83 rfl ?_
              refine j_get hX in11 11 0 29 (v := .ref (b 29)) rfl rfl (by decide) (List.mem_of_getElem? (i := 2) rfl) rfl rfl dX11_digits_84 ?_
              refine j_iload hX 4 dX11_digits_87 rfl ?_
              refine j_pc 89 rfl ?_
              refine j_iload_n hX 3 dX11_digits_89 rfl ?_
              refine j_iconst hX (4) dX11_digits_90 (by decide) ?_
              refine j_aload_n hX 0 dX11_digits_91 rfl ?_
              refine j_gete hX (nI (ln nn)) in11 11 0 21 rfl rfl (by decide) (List.mem_of_getElem? (i := 3) rfl) rfl rfl hv21 dX11_digits_92 ?_
              refine j_iconst hX (1) dX11_digits_95 (by decide) ?_
              refine j_isubN hX (ln nn) 1 (by omega) dX11_digits_96 ?_
              refine j_iload hX 4 dX11_digits_97 rfl ?_
              refine j_isubN hX ((ln nn) - 1) i (by omega) dX11_digits_99 ?_
              refine j_pc 100 rfl ?_
              refine j_imulN hX 4 (((ln nn) - 1) - i) dX11_digits_100 ?_
              refine j_ishrN hX ms (4 * (((ln nn) - 1) - i)) (by omega) (by omega) dX11_digits_101 ?_
              refine j_bipush hX (15) dX11_digits_102 (by decide) ?_
              refine j_iand hX dX11_digits_104 ?_
              refine j_topeq _ (nI (ms / 2 ^ (4 * (ln nn - 1 - i)) % 16)) (by rw [pk_andN (by have h9 := Nat.div_le_self ms (2 ^ (4 * (ln nn - 1 - i))); omega) 4 rfl]) ?_
              refine j_iastN hX 2 i rfl (by omega) (by omega) [oB h 11 (mO b v), bA g ra rc rf, iA g (b 29) 40 (upd D i (nI (ms / 2 ^ (4 * (ln nn - 1 - i)) % 16)))] rfl dX11_digits_105 ?_
              refine j_iincN hX i (i + 1) [(4, .int (nI (i + 1))), (0, .ref h), (1, .ref ra), (2, .int (nI t)), (3, .int (nI ms))] 4 dX11_digits_106 rfl (nI_1 _) (by decide) rfl ?_
              refine j_goto hX 74 dX11_digits_109 (by decide) ?_
              refine j_perm [(0, .ref h), (1, .ref ra), (2, .int (nI t)), (3, .int (nI ms)), (4, .int (nI (i + 1)))] [1, 2, 3, 4, 0] rfl ?_
              exact ih_6 (i + 1) (upd D i (nI (ms / 2 ^ (4 * (ln nn - 1 - i)) % 16))) (by omega) (by omega) (by omega) (fun j hj => by unfold upd; split; (rename_i e2; rw [e2, dgt, if_neg (by omega), ← hmx, p16]); exact hD j (by omega))
        refine j_perm [(0, .ref h), (1, .ref ra), (2, .int (nI t)), (3, .int (nI ms)), (4, .int (nI (2 * nn)))] [1, 2, 3, 4, 0] rfl ?_
        exact lp_4 _ (2 * nn) D (Nat.lt_succ_self _) (by omega) (by omega) (fun j hj => by rw [hD j (by omega), dgt, if_pos (by omega)])
      · skip
        refine j_aload_n hX 0 dX11_digits_16 rfl ?_
        refine j_pc 17 rfl ?_
        refine j_get hX in11 11 0 29 (v := .ref (b 29)) rfl rfl (by decide) (List.mem_of_getElem? (i := 2) rfl) rfl rfl dX11_digits_17 ?_
        refine j_iload hX 4 dX11_digits_20 rfl ?_
        refine j_aload_n hX 1 dX11_digits_22 rfl ?_
        refine j_iload_n hX 2 dX11_digits_23 rfl ?_
        refine j_iload hX 4 dX11_digits_24 rfl ?_
        refine j_iconst hX (2) dX11_digits_26 (by decide) ?_
        refine j_idivN hX i 2 (by omega) (by omega) (by omega) dX11_digits_27 ?_
        refine j_iaddN hX t (i / 2) dX11_digits_28 ?_
        refine j_pc 29 rfl ?_
        refine j_baldN hX 1 (t + (i / 2)) rfl (by omega) (by omega) dX11_digits_29 ?_
        have jn_7 : ∀ (q4 : Nat), (q4 = if i % 2 = 0 then 4 else 0) → J p l e ({ frames := 0, cells := 0, slots := 0, locals := 0 } : Room) s m ([.ref h, .ref ra, .int (nI t)] : List Value).toArray below meth c g A 5 Q 0 0 [oB h 11 (mO b v), bA g ra rc rf, iA g (b 29) 40 D] [(0, .ref h), (1, .ref ra), (2, .int (nI t)), (3, .int (nI ms)), (4, .int (nI i))] 42 [.int (nI q4), .int (rf (t + (i / 2))), .int (nI i), .ref (b 29)] := by
          intro q4 hq4
          refine j_ishr hX dX11_digits_42 ?_
          refine j_bipush hX (15) dX11_digits_43 (by decide) ?_
          refine j_iand hX dX11_digits_45 ?_
          refine j_topeq _ (nI (nib (rf (t + (i / 2))) i)) (nib_m _ hq4) ?_
          refine j_iastN hX 2 i rfl (by omega) (by omega) [oB h 11 (mO b v), bA g ra rc rf, iA g (b 29) 40 (upd D i (nI (nib (rf (t + (i / 2))) i)))] rfl dX11_digits_46 ?_
          refine j_iload_n hX 3 dX11_digits_47 rfl ?_
          refine j_bipush hX (15) dX11_digits_48 (by decide) ?_
          refine j_aload_n hX 0 dX11_digits_50 rfl ?_
          refine j_pc 51 rfl ?_
          refine j_get hX in11 11 0 29 (v := .ref (b 29)) rfl rfl (by decide) (List.mem_of_getElem? (i := 2) rfl) rfl rfl dX11_digits_51 ?_
          refine j_iload hX 4 dX11_digits_54 rfl ?_
          refine j_ialdN hX 2 i rfl (by omega) (by omega) dX11_digits_56 ?_
          refine j_topeq _ (nI (nib (rf (t + (i / 2))) i)) pk_us ?_
          refine j_isubN hX 15 (nib (rf (t + (i / 2))) i) (by have := nib_lt (rf (t + i / 2)) i; omega) dX11_digits_57 ?_
          refine j_iaddN hX ms (15 - (nib (rf (t + (i / 2))) i)) dX11_digits_58 ?_
          refine j_istore_n hX 3 [(3, .int (nI (ms + (15 - (nib (rf (t + (i / 2))) i))))), (0, .ref h), (1, .ref ra), (2, .int (nI t)), (4, .int (nI i))] dX11_digits_59 rfl (by decide) rfl ?_
          refine j_iincN hX i (i + 1) [(4, .int (nI (i + 1))), (3, .int (nI (ms + (15 - (nib (rf (t + (i / 2))) i))))), (0, .ref h), (1, .ref ra), (2, .int (nI t))] 4 dX11_digits_60 rfl (nI_1 _) (by decide) rfl ?_
          refine j_goto hX 5 dX11_digits_63 (by decide) ?_
          refine j_perm [(0, .ref h), (1, .ref ra), (2, .int (nI t)), (3, .int (nI (ms + (15 - (nib (rf (t + (i / 2))) i))))), (4, .int (nI (i + 1)))] [2, 3, 4, 1, 0] rfl ?_
          exact ih_3 (i + 1) (ms + (15 - (nib (rf (t + (i / 2))) i))) (upd D i (nI (nib (rf (t + (i / 2))) i))) (by omega) (by omega) (by rw [hms]; rfl) (fun j hj => by unfold upd; split; (rename_i e2; rw [e2]); exact hD j (by omega))
        refine j_pc 30 rfl ?_
        refine j_iload hX 4 dX11_digits_30 rfl ?_
        refine j_iconst hX (2) dX11_digits_32 (by decide) ?_
        refine j_iremN hX i 2 (by omega) (by omega) (by omega) dX11_digits_33 ?_
        refine j_if_neN hX (i % 2) 41 dX11_digits_34 (by decide) (by omega) (fun b_34 => ?_) (fun b_34 => ?_)
        · skip
          refine j_iconst hX (0) dX11_digits_41 (by decide) ?_
          exact jn_7 0 (by first | rw [if_pos (by omega)] | rw [if_neg (by omega)])
        · skip
          refine j_iconst hX (4) dX11_digits_37 (by decide) ?_
          refine j_goto hX 42 dX11_digits_38 (by decide) ?_
          exact jn_7 4 (by first | rw [if_pos (by omega)] | rw [if_neg (by omega)])
  refine j_perm [(0, .ref h), (1, .ref ra), (2, .int (nI t)), (3, .int (nI 0)), (4, .int (nI 0))] [2, 3, 4, 1, 0] rfl ?_
  exact lp_1 _ 0 0 D0 (Nat.lt_succ_self _) (by omega) rfl (fun j hj => absurd hj (Nat.not_lt_zero j))

set_option maxHeartbeats 1000000 in
set_option maxRecDepth 100000 in
/-- the reference: leafOf -/
theorem c_leafOf (l : Launch) (g : jG) (h : Nat) (b : Nat → Nat) (v : Nat → Int32) (n0 : Nat) (f : Nat → Int32) (dg : Nat → Int32) (w0 : Nat → Int32) (S0 : Nat → Int32) (fs : Nat → Int32) (rt : Nat → Int32) (A0 : Nat → Int64) (T0 : Nat → Int64) (U0 : Nat → Int64) (tn : Nat → Int32) (sd : Nat → Int32) (fm : Nat) (nn : Nat) (ly : Nat) (tr : Nat) (e0 : Nat → Int32) (ta : Nat) (tc : Nat) (tf : Nat → Int32) (u : Nat) (t : Nat) (hv15 : v 15 = nI fm) (hv16 : v 16 = nI nn) (hv27 : v 27 = nI ly) (hv28 : v 28 = nI tr) (hfm : fm < 2) (hnn : nn ≤ 16) (hB : isB sd) (hfs : ∀ j, j < 8 → fs j = s_first.getD j 0) (hrt : ∀ j, j < 64 → rt j = s_cube.getD j 0) (htn : ∀ k, k < 25 → tn k = s_turns.getD k 0) (hv3 : v 3 = nI n0) (hn0 : n0 ≤ 1400) (hv21 : v 21 = nI (ln nn)) (hEB : isB e0) (htc : t + nn ≤ tc) (htb : tc < 2 ^ 31) (hu : u < 2 ^ 20) : jC l g yX11_leafOf wsX11_leafOf ({ frames := 6, cells := 0, slots := 0, locals := 147 } : Room) [.ref h, .int (nI u), .ref ta, .int (nI t)] [oB h 11 (mO b v), bA g (b 2) 1400 f, bA g (b 4) 32 dg, iA g (b 5) 64 w0, iA g (b 6) 8 S0, iA g (b 7) 8 fs, iA g (b 8) 64 rt, lA g (b 9) 25 A0, lA g (b 10) 25 T0, lA g (b 11) 5 U0, iA g (b 12) 25 tn, bA g (b 23) 48 sd, bA g (b 30) 560 e0, bA g ta tc tf] (fun jj : (Nat → Int32) × (Nat → Int32) × (Nat → Int64) × (Nat → Int64) × (Nat → Int64) × Nat × (Nat → Int32) × (Nat → Int32) × (Nat → Int32) × (Nat → Int32) => none) (fun jj : (Nat → Int32) × (Nat → Int32) × (Nat → Int64) × (Nat → Int64) × (Nat → Int64) × Nat × (Nat → Int32) × (Nat → Int32) × (Nat → Int32) × (Nat → Int32) => jj.2.2.2.2.2.1 ≤ 1400 ∧ isB jj.2.2.2.2.2.2.2.2.1 ∧ jj.2.2.2.2.2.2.2.2.2 = putL tf t (LF fm nn sd ly tr u)) (fun jj : (Nat → Int32) × (Nat → Int32) × (Nat → Int64) × (Nat → Int64) × (Nat → Int64) × Nat × (Nat → Int32) × (Nat → Int32) × (Nat → Int32) × (Nat → Int32) => [oB h 11 (mO b (upd v 3 (nI jj.2.2.2.2.2.1))), bA g (b 2) 1400 jj.2.2.2.2.2.2.1, bA g (b 4) 32 jj.2.2.2.2.2.2.2.1, iA g (b 5) 64 jj.1, iA g (b 6) 8 jj.2.1, iA g (b 7) 8 fs, iA g (b 8) 64 rt, lA g (b 9) 25 jj.2.2.1, lA g (b 10) 25 jj.2.2.2.1, lA g (b 11) 5 jj.2.2.2.2.1, iA g (b 12) 25 tn, bA g (b 23) 48 sd, bA g (b 30) 560 jj.2.2.2.2.2.2.2.2.1, bA g ta tc jj.2.2.2.2.2.2.2.2.2]) := by
  refine jC.of (cc := cX11_leafOf) (own := RX11) (maxL := 5) (ret := none) (by decide +kernel) rfl rfl (Nat.le_of_ble_eq_true rfl) (fun u hu => rfl) ?_
  intro p e s m below meth c A Q hX hret
  have in11 : ∀ w ∈ wsX110, w ∈ wsX11_leafOf := (fun w h => List.mem_cons_of_mem _ (List.mem_append_right _ h))
  have hln := ln_le nn
  have hh := hl_le (fm := fm) hnn
  have hdl := hd_length (fm := fm) (n := nn) (by omega) sd ly tr 1 u 0 0
  have hE35 : nn * ln nn ≤ 560 := Nat.le_trans (Nat.mul_le_mul hnn (show ln nn ≤ 35 by omega)) (by decide)
  refine j_w [oB h 11 (mO b (upd v 3 (nI n0))), bA g (b 2) 1400 f, bA g (b 4) 32 dg, iA g (b 5) 64 w0, iA g (b 6) 8 S0, iA g (b 7) 8 fs, iA g (b 8) 64 rt, lA g (b 9) 25 A0, lA g (b 10) 25 T0, lA g (b 11) 5 U0, iA g (b 12) 25 tn, bA g (b 23) 48 sd, bA g (b 30) 560 e0, bA g ta tc tf] (by rw [updS (hv3 : (v : Nat → Int32) 3 = nI n0)]) ?_
  refine j_iconst hX (0) dX11_leafOf_0 (by decide) ?_
  refine j_st [.int (nI 0)] rfl ?_
  refine j_istore hX [(4, .int (nI 0)), (0, .ref h), (1, .int (nI u)), (2, .ref ta), (3, .int (nI t))] dX11_leafOf_1 (by decide) rfl ?_
  have lp_1 : ∀ (n_2 : Nat) (k : Nat) (w1 : Nat → Int32) (S1 : Nat → Int32) (A1 : Nat → Int64) (T1 : Nat → Int64) (U1 : Nat → Int64) (nl : Nat) (G : Nat → Int32) (FO : Nat → Int32) (E : Nat → Int32), (ln nn - k < n_2) → (k ≤ ln nn) → (nl ≤ 1400) → (isB E) → (E = putL e0 0 (eL fm nn sd ly tr u k)) → J p l e ({ frames := 6, cells := 0, slots := 0, locals := 147 } : Room) s m ([.ref h, .int (nI u), .ref ta, .int (nI t)] : List Value).toArray below meth c g A 5 Q 0 0 [oB h 11 (mO b (upd v 3 (nI nl))), bA g (b 2) 1400 G, bA g (b 4) 32 FO, iA g (b 5) 64 w1, iA g (b 6) 8 S1, iA g (b 7) 8 fs, iA g (b 8) 64 rt, lA g (b 9) 25 A1, lA g (b 10) 25 T1, lA g (b 11) 5 U1, iA g (b 12) 25 tn, bA g (b 23) 48 sd, bA g (b 30) 560 E, bA g ta tc tf] [(0, .ref h), (1, .int (nI u)), (2, .ref ta), (3, .int (nI t)), (4, .int (nI k))] 3 [] := by
    intro n_2
    induction n_2 with
    | zero => intro k w1 S1 A1 T1 U1 nl G FO E hm; exact absurd hm (Nat.not_lt_zero _)
    | succ n_2 ih_3 =>
      intro k w1 S1 A1 T1 U1 nl G FO E hm hk hnl hB2 hO
      refine j_iload hX 4 dX11_leafOf_3 rfl ?_
      refine j_aload_n hX 0 dX11_leafOf_5 rfl ?_
      refine j_gete hX (nI (ln nn)) in11 11 0 21 rfl rfl (by decide) (List.mem_of_getElem? (i := 1) rfl) rfl rfl hv21 dX11_leafOf_6 ?_
      refine j_icmp_geN hX k (ln nn) 59 dX11_leafOf_9 (by decide) (by omega) (by omega) (fun b_9 => ?_) (fun b_9 => ?_)
      · skip
        refine j_aload_n hX 0 dX11_leafOf_59 rfl ?_
        refine j_pc 60 rfl ?_
        refine j_iconst hX (1) dX11_leafOf_60 (by decide) ?_
        refine j_iload_n hX 1 dX11_leafOf_61 rfl ?_
        refine j_iconst hX (0) dX11_leafOf_62 (by decide) ?_
        refine j_iconst hX (0) dX11_leafOf_63 (by decide) ?_
        refine j_callV hX 4 (c_begin l g h b (upd v 3 (nI nl)) G sd fm nn ly tr 1 u 0 0 hv15 hv16 hv27 hv28 (by omega) (by omega) hB) gX11_leafOf_X11_begin (by decide +kernel) rfl ⟨rfl, rfl⟩ ⟨Nat.le_of_ble_eq_true rfl, Nat.le_of_ble_eq_true rfl⟩ 11 0 rfl rfl [0, 1, 11] rfl (by decide) (fun _ => rfl) rfl [] rfl (Nat.le_of_ble_eq_true rfl) ⟨Nat.le_refl _, Nat.le_refl _⟩ dX11_leafOf_64 ?_
        intro F1 hF1
        try dsimp only at hF1
        refine j_w [oB h 11 (mO b (upd v 3 (nI (hl fm nn)))), bA g (b 2) 1400 F1, bA g (b 4) 32 FO, iA g (b 5) 64 w1, iA g (b 6) 8 S1, iA g (b 7) 8 fs, iA g (b 8) 64 rt, lA g (b 9) 25 A1, lA g (b 10) 25 T1, lA g (b 11) 5 U1, iA g (b 12) 25 tn, bA g (b 23) 48 sd, bA g (b 30) 560 E, bA g ta tc tf] rfl ?_
        refine j_st [] rfl ?_
        refine j_aload_n hX 0 dX11_leafOf_67 rfl ?_
        refine j_aload_n hX 0 dX11_leafOf_68 rfl ?_
        refine j_get hX in11 11 0 30 (v := .ref (b 30)) rfl rfl (by decide) (List.mem_of_getElem? (i := 2) rfl) rfl rfl dX11_leafOf_69 ?_
        refine j_pc 72 rfl ?_
        refine j_iconst hX (0) dX11_leafOf_72 (by decide) ?_
        refine j_aload_n hX 0 dX11_leafOf_73 rfl ?_
        refine j_gete hX (nI nn) in11 11 0 16 rfl rfl (by decide) (List.mem_of_getElem? (i := 3) rfl) rfl rfl hv16 dX11_leafOf_74 ?_
        refine j_aload_n hX 0 dX11_leafOf_77 rfl ?_
        refine j_gete hX (nI (ln nn)) in11 11 0 21 rfl rfl (by decide) (List.mem_of_getElem? (i := 1) rfl) rfl rfl hv21 dX11_leafOf_78 ?_
        refine j_imulN hX nn (ln nn) dX11_leafOf_81 ?_
        refine j_callV hX 3 (c_layRow l g h b (upd v 3 (nI (hl fm nn))) (hl fm nn) F1 (b 30) 560 E 0 (nn * (ln nn)) rfl (by omega) (by omega) (by omega) hB2) gX11_leafOf_X11_layRow (by decide +kernel) rfl ⟨rfl, rfl⟩ ⟨Nat.le_of_ble_eq_true rfl, Nat.le_of_ble_eq_true rfl⟩ 11 0 rfl rfl [0, 1, 12] rfl (by decide) (fun _ => rfl) rfl [] rfl (Nat.le_of_ble_eq_true rfl) ⟨Nat.le_refl _, Nat.le_refl _⟩ dX11_leafOf_82 ?_
        intro F2 hF2
        try dsimp only at hF2
        refine j_w [oB h 11 (mO b (upd v 3 (nI ((hl fm nn) + (nn * (ln nn)))))), bA g (b 2) 1400 F2, bA g (b 4) 32 FO, iA g (b 5) 64 w1, iA g (b 6) 8 S1, iA g (b 7) 8 fs, iA g (b 8) 64 rt, lA g (b 9) 25 A1, lA g (b 10) 25 T1, lA g (b 11) 5 U1, iA g (b 12) 25 tn, bA g (b 23) 48 sd, bA g (b 30) 560 E, bA g ta tc tf] rfl ?_
        refine j_st [] rfl ?_
        refine j_aload_n hX 0 dX11_leafOf_85 rfl ?_
        refine j_pc 86 rfl ?_
        refine j_aload_n hX 2 dX11_leafOf_86 rfl ?_
        refine j_iload_n hX 3 dX11_leafOf_87 rfl ?_
        refine j_callV hX 2 (c_end l g h b (upd v 3 (nI ((hl fm nn) + (nn * (ln nn))))) ((hl fm nn) + (nn * (ln nn))) F2 FO w1 S1 fs rt A1 T1 U1 tn ta tc tf fm nn t rfl hv15 hv16 (by omega) hfs hrt htn (by omega) (by omega) (by omega) (by omega)) gX11_leafOf_X11_end (by decide +kernel) rfl ⟨rfl, rfl⟩ ⟨Nat.le_of_ble_eq_true rfl, Nat.le_of_ble_eq_true rfl⟩ 11 0 rfl rfl [0, 1, 2, 3, 4, 5, 6, 7, 8, 9, 10, 13] rfl (by decide) (fun _ => rfl) rfl [] rfl (Nat.le_of_ble_eq_true rfl) ⟨Nat.le_refl _, Nat.le_refl _⟩ dX11_leafOf_88 ?_
        rintro ⟨w7, S7, A7, T7, U7, nl7, G7, FO7, TO7⟩ hE
        try dsimp only at hE
        refine j_w [oB h 11 (mO b (upd v 3 (nI nl7))), bA g (b 2) 1400 G7, bA g (b 4) 32 FO7, iA g (b 5) 64 w7, iA g (b 6) 8 S7, iA g (b 7) 8 fs, iA g (b 8) 64 rt, lA g (b 9) 25 A7, lA g (b 10) 25 T7, lA g (b 11) 5 U7, iA g (b 12) 25 tn, bA g (b 23) 48 sd, bA g (b 30) 560 E, bA g ta tc TO7] rfl ?_
        refine j_st [] rfl ?_
        rw [hF2, hF1, putL_app' (by rw [hdl, Nat.zero_add]), slice_put (by rw [List.length_append, hdl, slice_length]), hO, show k = ln nn by omega, slice_put (by rw [eL_length (by omega)])] at hE
        exact hret (w7, S7, A7, T7, U7, nl7, G7, FO7, E, TO7) (by dsimp only; exact ⟨hE.1, hB2, hE.2⟩) 91 _ .return_ dX11_leafOf_91 rfl
      · skip
        refine j_aload_n hX 0 dX11_leafOf_12 rfl ?_
        refine j_iconst hX (5) dX11_leafOf_13 (by decide) ?_
        refine j_iload_n hX 1 dX11_leafOf_14 rfl ?_
        refine j_iload hX 4 dX11_leafOf_15 rfl ?_
        refine j_pc 17 rfl ?_
        refine j_iconst hX (0) dX11_leafOf_17 (by decide) ?_
        refine j_aload_n hX 0 dX11_leafOf_18 rfl ?_
        refine j_get hX in11 11 0 30 (v := .ref (b 30)) rfl rfl (by decide) (List.mem_of_getElem? (i := 2) rfl) rfl rfl dX11_leafOf_19 ?_
        refine j_aload_n hX 0 dX11_leafOf_22 rfl ?_
        refine j_gete hX (nI nn) in11 11 0 16 rfl rfl (by decide) (List.mem_of_getElem? (i := 3) rfl) rfl rfl hv16 dX11_leafOf_23 ?_
        refine j_iload hX 4 dX11_leafOf_26 rfl ?_
        refine j_imulN hX nn k dX11_leafOf_28 ?_
        refine j_callV hX 6 (c_secret l g h b (upd v 3 (nI nl)) G FO w1 S1 fs rt A1 T1 U1 tn sd fm nn ly tr 5 u k 0 (b 30) 560 E (nn * k) hv15 hv16 hv27 hv28 (by omega) (by omega) hB hfs hrt htn (mul_lt_ln hnn (by omega)) (by omega)) gX11_leafOf_X11_secret (by decide +kernel) rfl ⟨rfl, rfl⟩ ⟨Nat.le_of_ble_eq_true rfl, Nat.le_of_ble_eq_true rfl⟩ 11 0 rfl rfl [0, 1, 2, 3, 4, 5, 6, 7, 8, 9, 10, 11, 12] rfl (by decide) (fun _ => rfl) rfl [] rfl (Nat.le_of_ble_eq_true rfl) ⟨Nat.le_refl _, Nat.le_refl _⟩ dX11_leafOf_29 ?_
        rintro ⟨w5, S5, A5, T5, U5, nl5, G5, FO5, E5⟩ hS
        try dsimp only at hS
        refine j_w [oB h 11 (mO b (upd v 3 (nI nl5))), bA g (b 2) 1400 G5, bA g (b 4) 32 FO5, iA g (b 5) 64 w5, iA g (b 6) 8 S5, iA g (b 7) 8 fs, iA g (b 8) 64 rt, lA g (b 9) 25 A5, lA g (b 10) 25 T5, lA g (b 11) 5 U5, iA g (b 12) 25 tn, bA g (b 23) 48 sd, bA g (b 30) 560 E5, bA g ta tc tf] rfl ?_
        refine j_st [] rfl ?_
        refine j_pc 32 rfl ?_
        refine j_aload_n hX 0 dX11_leafOf_32 rfl ?_
        refine j_aload_n hX 0 dX11_leafOf_33 rfl ?_
        refine j_get hX in11 11 0 30 (v := .ref (b 30)) rfl rfl (by decide) (List.mem_of_getElem? (i := 2) rfl) rfl rfl dX11_leafOf_34 ?_
        refine j_aload_n hX 0 dX11_leafOf_37 rfl ?_
        refine j_gete hX (nI nn) in11 11 0 16 rfl rfl (by decide) (List.mem_of_getElem? (i := 3) rfl) rfl rfl hv16 dX11_leafOf_38 ?_
        refine j_iload hX 4 dX11_leafOf_41 rfl ?_
        refine j_imulN hX nn k dX11_leafOf_43 ?_
        refine j_iconst hX (0) dX11_leafOf_44 (by decide) ?_
        refine j_pc 45 rfl ?_
        refine j_bipush hX (15) dX11_leafOf_45 (by decide) ?_
        refine j_iload_n hX 1 dX11_leafOf_47 rfl ?_
        refine j_iload hX 4 dX11_leafOf_48 rfl ?_
        refine j_callV hX 6 (c_chain l g h b (upd v 3 (nI nl5)) G5 FO5 w5 S5 fs rt A5 T5 U5 tn sd fm nn ly tr (b 30) 560 E5 (nn * k) 0 15 u k nl5 hv15 hv16 hv27 hv28 (by omega) (by omega) hB hfs hrt htn (mul_lt_ln hnn (by omega)) (by omega) rfl hS.1 (by rw [hS.2]; exact putL_B hB2 (TT_B _ _ _ _ _ _ _ _ _ _)) (by omega)) gX11_leafOf_X11_chain (by decide +kernel) rfl ⟨rfl, rfl⟩ ⟨Nat.le_of_ble_eq_true rfl, Nat.le_of_ble_eq_true rfl⟩ 11 0 rfl rfl [0, 1, 2, 3, 4, 5, 6, 7, 8, 9, 10, 11, 12] rfl (by decide) (fun _ => rfl) rfl [] rfl (Nat.le_of_ble_eq_true rfl) ⟨Nat.le_refl _, Nat.le_refl _⟩ dX11_leafOf_50 ?_
        rintro ⟨w6, S6, A6, T6, U6, nl6, G6, FO6, E6⟩ hC
        try dsimp only at hC
        refine j_w [oB h 11 (mO b (upd v 3 (nI nl6))), bA g (b 2) 1400 G6, bA g (b 4) 32 FO6, iA g (b 5) 64 w6, iA g (b 6) 8 S6, iA g (b 7) 8 fs, iA g (b 8) 64 rt, lA g (b 9) 25 A6, lA g (b 10) 25 T6, lA g (b 11) 5 U6, iA g (b 12) 25 tn, bA g (b 23) 48 sd, bA g (b 30) 560 E6, bA g ta tc tf] rfl ?_
        refine j_st [] rfl ?_
        refine j_iincN hX k (k + 1) [(4, .int (nI (k + 1))), (0, .ref h), (1, .int (nI u)), (2, .ref ta), (3, .int (nI t))] 4 dX11_leafOf_53 rfl (nI_1 _) (by decide) rfl ?_
        refine j_goto hX 3 dX11_leafOf_56 (by decide) ?_
        refine j_perm [(0, .ref h), (1, .int (nI u)), (2, .ref ta), (3, .int (nI t)), (4, .int (nI (k + 1)))] [1, 2, 3, 4, 0] rfl ?_
        exact ih_3 (k + 1) w6 S6 A6 T6 U6 nl6 G6 FO6 E6 (by omega) (by omega) hC.1 hC.2.1 (eL_step hnn rfl hO hS.2 hC.2.2)
  refine j_perm [(0, .ref h), (1, .int (nI u)), (2, .ref ta), (3, .int (nI t)), (4, .int (nI 0))] [1, 2, 3, 4, 0] rfl ?_
  exact lp_1 _ 0 w0 S0 A0 T0 U0 n0 f dg e0 (Nat.lt_succ_self _) (by omega) (by omega) hEB (by rw [eL, putL_nil])

