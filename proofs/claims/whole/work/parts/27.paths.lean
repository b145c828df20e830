/-! PATHS: the node beside -/
def sib (x : Nat) : Nat := if x % 2 = 0 then x + 1 else x - 1
theorem sib_nat (x : Nat) : x ^^^ 1 = sib x := by
  apply Nat.eq_of_testBit_eq
  intro i
  unfold sib
  cases i with
  | zero =>
    rw [Nat.testBit_xor, Nat.testBit_zero, Nat.testBit_zero, Nat.testBit_zero]
    split <;> rename_i h
    · simp [h]; omega
    · have h1 : x % 2 = 1 := by omega
      have h2 : (x - 1) % 2 = 0 := by omega
      simp [h1, h2]
  | succ i =>
    rw [Nat.testBit_xor, Nat.testBit_succ, Nat.testBit_succ, Nat.testBit_succ]
    simp
    split <;> congr 1 <;> omega
theorem sib_I {x : Nat} (h : x < 2 ^ 31) : nI x ^^^ 1 = nI (sib x) := by
  rw [← sib_nat]
  apply Int32.toBitVec_inj.mp
  apply BitVec.eq_of_toNat_eq
  show ((nI x).toBitVec ^^^ (1 : Int32).toBitVec).toNat = (nI (x ^^^ 1)).toBitVec.toNat
  rw [BitVec.toNat_xor]
  show (x % 2 ^ 32) ^^^ 1 = (x ^^^ 1) % 2 ^ 32
  rw [Nat.mod_eq_of_lt (show x < 2 ^ 32 by omega), Nat.mod_eq_of_lt (Nat.xor_lt_two_pow (show x < 2 ^ 32 by omega) (by decide))]
theorem pow_half {h z : Nat} (hz : z < h) : 2 ^ (h - z) = 2 * 2 ^ (h - (z + 1)) := by
  rw [show h - z = (h - (z + 1)) + 1 by omega, Nat.pow_succ, Nat.mul_comm]
theorem sib_mod (x w : Nat) : x / (2 * w) * (2 * w) + sib x % (2 * w) = sib x := by
  have h1 : sib x / (2 * w) = x / (2 * w) := by
    rw [← Nat.div_div_eq_div_mul, ← Nat.div_div_eq_div_mul]
    congr 1
    unfold sib
    split <;> omega
  have := Nat.div_add_mod (sib x) (2 * w)
  rw [h1, Nat.mul_comm] at this
  exact this
theorem sib_at {h z j : Nat} (hz : z < h) : j / 2 ^ h * 2 ^ (h - z) + sib (j / 2 ^ z) % 2 ^ (h - z) = sib (j / 2 ^ z) := by
  have h1 := sib_mod (j / 2 ^ z) (2 ^ (h - (z + 1)))
  rw [← pow_half hz, Nat.div_div_eq_div_mul, ← Nat.pow_add, show z + (h - z) = h by omega] at h1
  exact h1
theorem sib_lt {x : Nat} (h : x < 2 ^ 30) : sib x < 2 ^ 31 := by unfold sib; split <;> omega
theorem two_pow_I {k : Nat} (hk : k < 31) : (nI (2 ^ k - 1)).toBitVec.toNat = 2 ^ k - 1 := by
  have : 2 ^ k ≤ 2 ^ 30 := Nat.pow_le_pow_right (by decide) (by omega)
  exact Nat.mod_eq_of_lt (show 2 ^ k - 1 < 2 ^ 32 by omega)
theorem path_bd {x h z n c : Nat} (hx : x < 2 ^ (h - z)) (hc : 2 ^ h * n ≤ c) : x * n + n ≤ c := by
  have h1 := Nat.mul_le_mul_right n (show x + 1 ≤ 2 ^ (h - z) from hx)
  rw [Nat.succ_mul] at h1
  exact Nat.le_trans h1 (Nat.le_trans (pow_sub_le h z n) hc)
theorem mul_step {z h n : Nat} (hz : z < h) : z * n + n ≤ h * n := by
  have h1 := Nat.mul_le_mul_right n (show z + 1 ≤ h from hz)
  rw [Nat.succ_mul] at h1
  exact h1
theorem pow_le16 {k : Nat} (hk : k ≤ 4) : 2 ^ k ≤ 16 := Nat.pow_le_pow_right (n := 2) (by decide) hk
/-- the nodes beside the way from leaf j up -/
def pth (fm n : Nat) (sd : Nat → Int32) (ly tr kd u : Nat) (lf : Nat → List Int32) (j : Nat) : Nat → List Int32
  | 0 => []
  | z + 1 => pth fm n sd ly tr kd u lf j z ++ NG fm n sd ly tr kd u lf z (sib (j / 2 ^ z))
theorem pth_length {fm n : Nat} (hn : n ≤ 32) (sd : Nat → Int32) (ly tr kd u : Nat) {lf : Nat → List Int32} (hl : ∀ i, (lf i).length = n) (j : Nat) : ∀ z, (pth fm n sd ly tr kd u lf j z).length = z * n
  | 0 => by rw [Nat.zero_mul]; rfl
  | z + 1 => by rw [pth, List.length_append, pth_length hn _ _ _ _ _ hl, NG_length hn _ _ _ _ _ hl, Nat.succ_mul]
theorem path_up {fm n : Nat} {sd : Nat → Int32} {ly tr kd u h z b : Nat} {lf : Nat → List Int32} {L : Nat → Int32} (hz : z < h) (hE : ∀ j, j < 2 ^ (h - (z + 1)) → slice L (j * n) n = TT fm n sd ly tr kd u (z + 1) (b * 2 ^ (h - (z + 1)) + j) (NG fm n sd ly tr kd u lf z (b * 2 ^ (h - z) + 2 * j) ++ NG fm n sd ly tr kd u lf z (b * 2 ^ (h - z) + (2 * j + 1)))) :
    ∀ i, i < 2 ^ (h - (z + 1)) → slice L (i * n) n = NG fm n sd ly tr kd u lf (z + 1) (b * 2 ^ (h - (z + 1)) + i) := by
  intro i hi
  have e : 2 * (b * 2 ^ (h - (z + 1)) + i) = b * 2 ^ (h - z) + 2 * i := by
    rw [pow_half hz, Nat.mul_add, Nat.mul_left_comm]
  rw [hE i hi, NG, e, Nat.add_assoc]
theorem pth_step {fm n : Nat} {sd : Nat → Int32} {ly tr kd u h z j nt nt1 : Nat} {lf : Nat → List Int32} {L1 tf TO TO2 : Nat → Int32} (hn : n ≤ 16) (hl : ∀ i, (lf i).length = n) (hz : z < h) (hL : ∀ i, i < 2 ^ (h - z) → slice L1 (i * n) n = NG fm n sd ly tr kd u lf z (j / 2 ^ h * 2 ^ (h - z) + i)) (hO : TO = putL tf nt (pth fm n sd ly tr kd u lf j z)) (h1 : nt1 = nt + z * n) (hT : TO2 = putL TO nt1 (slice L1 (sib (j / 2 ^ z) % 2 ^ (h - z) * n) n)) : TO2 = putL tf nt (pth fm n sd ly tr kd u lf j (z + 1)) := by
  rw [hT, hL _ (Nat.mod_lt _ (Nat.two_pow_pos _)), sib_at hz, hO, putL_app' (by rw [pth_length (by omega) _ _ _ _ _ hl]; exact h1)]
  rfl
/-- what a row at leaf j leads to with the nodes at t of f -/
def ldP (fm n : Nat) (sd : Nat → Int32) (ly tr kd u : Nat) (r : List Int32) (f : Nat → Int32) (t j : Nat) : Nat → List Int32
  | 0 => r
  | z + 1 => TT fm n sd ly tr kd u (z + 1) (j / 2 ^ (z + 1)) (if j / 2 ^ z % 2 = 0 then ldP fm n sd ly tr kd u r f t j z ++ slice f (t + z * n) n else slice f (t + z * n) n ++ ldP fm n sd ly tr kd u r f t j z)
theorem ldP_length {fm n : Nat} (hn : n ≤ 32) (sd : Nat → Int32) (ly tr kd u : Nat) {r : List Int32} (hr : r.length = n) (f : Nat → Int32) (t j : Nat) : ∀ z, (ldP fm n sd ly tr kd u r f t j z).length = n
  | 0 => hr
  | z + 1 => TT_length hn _ _ _ _ _ _ _ _
theorem ldP_congr {fm n : Nat} {sd : Nat → Int32} {ly tr kd u : Nat} {r : List Int32} {f h : Nat → Int32} {t t2 j : Nat} : ∀ z, (∀ q, q < z * n → f (t + q) = h (t2 + q)) → ldP fm n sd ly tr kd u r f t j z = ldP fm n sd ly tr kd u r h t2 j z
  | 0, _ => rfl
  | z + 1, e => by
    rw [Nat.succ_mul] at e
    rw [ldP, ldP, ldP_congr z (fun q hq => e q (by omega)), slice_congr (f := f) (h := h) (s := t + z * n) (t := t2 + z * n) (fun q hq => by rw [Nat.add_assoc, Nat.add_assoc]; exact e _ (by omega))]
theorem ldP_even {fm n : Nat} {sd : Nat → Int32} {ly tr kd u z t j : Nat} {r : List Int32} {f rf R1 R2 : Nat → Int32} (hn : n ≤ 16) (hr : r.length = n) (hev : j / 2 ^ z % 2 = 0) (hO : R1 = putL rf 0 (ldP fm n sd ly tr kd u r f t j z)) (hE : R2 = putL R1 0 (TT fm n sd ly tr kd u (z + 1) (j / 2 ^ (z + 1)) (slice R1 0 n ++ slice f (t + z * n) n))) : R2 = putL rf 0 (ldP fm n sd ly tr kd u r f t j (z + 1)) := by
  have hs : slice R1 0 n = ldP fm n sd ly tr kd u r f t j z := by rw [hO, slice_put (by rw [ldP_length (by omega) _ _ _ _ _ hr])]
  rw [hE, hs, hO, putL_over (by rw [ldP_length (by omega) _ _ _ _ _ hr, TT_length (by omega)]), ldP, if_pos hev]
theorem ldP_odd {fm n : Nat} {sd : Nat → Int32} {ly tr kd u z t j : Nat} {r : List Int32} {f rf R1 R2 : Nat → Int32} (hn : n ≤ 16) (hr : r.length = n) (hev : ¬ j / 2 ^ z % 2 = 0) (hO : R1 = putL rf 0 (ldP fm n sd ly tr kd u r f t j z)) (hE : R2 = putL R1 0 (TT fm n sd ly tr kd u (z + 1) (j / 2 ^ (z + 1)) (slice f (t + z * n) n ++ slice R1 0 n))) : R2 = putL rf 0 (ldP fm n sd ly tr kd u r f t j (z + 1)) := by
  have hs : slice R1 0 n = ldP fm n sd ly tr kd u r f t j z := by rw [hO, slice_put (by rw [ldP_length (by omega) _ _ _ _ _ hr])]
  rw [hE, hs, hO, putL_over (by rw [ldP_length (by omega) _ _ _ _ _ hr, TT_length (by omega)]), ldP, if_neg hev]

set_option maxRecDepth 20000 in
theorem ggX9_writePath_X7_add : GoodIn wsX9_writePath wsX7_add := goodIn_r _ [8, 9, 10, 11, 12, 7, 13, 14, 15, 16, 17, 18, 19, 20, 21, 22, 132, 133] rfl (by decide +kernel)
set_option maxRecDepth 20000 in
theorem gX9_writePath_X7_add : GoodIn wsX9_writePath (wsV RX9 57 RX7 yX7_add wsX7_add) := goodIn_app (goodIn_of _ (by decide +kernel)) ggX9_writePath_X7_add
set_option maxRecDepth 20000 in
theorem ggX9_writePath_X9_rise : GoodIn wsX9_writePath wsX9_rise := goodIn_r _ [27, 28, 29, 1, 2, 3, 30, 31, 32, 33, 34, 35, 36, 37, 38, 39, 40, 41, 42, 43, 44, 7, 45, 9, 46, 11, 12, 13, 14, 15, 16, 17, 18, 19, 20, 21, 22, 47, 48, 49, 50, 4, 5, 6, 8, 10, 51, 52, 53, 54, 55, 56, 57, 58, 59, 60, 61, 62, 63, 64, 65, 66, 67, 68, 69, 70, 71, 72, 73, 74, 75, 76, 77, 78, 79, 80, 81, 82, 83, 84, 85, 86, 87, 88, 89, 90, 91, 92, 93, 94, 95, 96, 97, 98, 99, 100, 101, 102, 103, 104, 105, 106, 107, 108, 109, 110, 111, 112, 113, 114, 115, 116, 117, 118, 119, 120, 121, 122, 123, 124, 125, 134, 135, 136, 137, 138, 139, 140, 141, 126, 127, 128, 129, 130, 131, 132, 133, 142, 143, 144, 145] rfl (by decide +kernel)
set_option maxRecDepth 20000 in
theorem gX9_writePath_X9_rise : GoodIn wsX9_writePath (wsV RX9 64 RX9 yX9_rise wsX9_rise) := goodIn_app (goodIn_of _ (by decide +kernel)) ggX9_writePath_X9_rise
theorem dX9_writePath_0 : decode cX9_writePath 0 = .ok (.iconst 0, 1) := by decide +kernel
theorem dX9_writePath_1 : decode cX9_writePath 1 = .ok (.istore 6, 2) := by decide +kernel
theorem dX9_writePath_3 : decode cX9_writePath 3 = .ok (.iload 6, 2) := by decide +kernel
theorem dX9_writePath_5 : decode cX9_writePath 5 = .ok (.iload_n 3, 1) := by decide +kernel
theorem dX9_writePath_6 : decode cX9_writePath 6 = .ok (.if_icmp .ge 80, 3) := by decide +kernel
theorem dX9_writePath_9 : decode cX9_writePath 9 = .ok (.iconst 1, 1) := by decide +kernel
theorem dX9_writePath_10 : decode cX9_writePath 10 = .ok (.iload_n 3, 1) := by decide +kernel
theorem dX9_writePath_11 : decode cX9_writePath 11 = .ok (.iload 6, 2) := by decide +kernel
theorem dX9_writePath_13 : decode cX9_writePath 13 = .ok (.isub, 1) := by decide +kernel
theorem dX9_writePath_14 : decode cX9_writePath 14 = .ok (.ishl, 1) := by decide +kernel
theorem dX9_writePath_15 : decode cX9_writePath 15 = .ok (.istore 7, 2) := by decide +kernel
theorem dX9_writePath_17 : decode cX9_writePath 17 = .ok (.iload 4, 2) := by decide +kernel
theorem dX9_writePath_19 : decode cX9_writePath 19 = .ok (.iload 6, 2) := by decide +kernel
theorem dX9_writePath_21 : decode cX9_writePath 21 = .ok (.ishr, 1) := by decide +kernel
theorem dX9_writePath_22 : decode cX9_writePath 22 = .ok (.iconst 1, 1) := by decide +kernel
theorem dX9_writePath_23 : decode cX9_writePath 23 = .ok (.ixor, 1) := by decide +kernel
theorem dX9_writePath_24 : decode cX9_writePath 24 = .ok (.iload 7, 2) := by decide +kernel
theorem dX9_writePath_26 : decode cX9_writePath 26 = .ok (.iconst 1, 1) := by decide +kernel
theorem dX9_writePath_27 : decode cX9_writePath 27 = .ok (.isub, 1) := by decide +kernel
theorem dX9_writePath_28 : decode cX9_writePath 28 = .ok (.iand, 1) := by decide +kernel
theorem dX9_writePath_29 : decode cX9_writePath 29 = .ok (.istore 8, 2) := by decide +kernel
theorem dX9_writePath_31 : decode cX9_writePath 31 = .ok (.aload 5, 2) := by decide +kernel
theorem dX9_writePath_33 : decode cX9_writePath 33 = .ok (.aload_n 0, 1) := by decide +kernel
theorem dX9_writePath_34 : decode cX9_writePath 34 = .ok (.getfield 14, 3) := by decide +kernel
theorem dX9_writePath_37 : decode cX9_writePath 37 = .ok (.iload 8, 2) := by decide +kernel
theorem dX9_writePath_39 : decode cX9_writePath 39 = .ok (.aload_n 0, 1) := by decide +kernel
theorem dX9_writePath_40 : decode cX9_writePath 40 = .ok (.getfield 20, 3) := by decide +kernel
theorem dX9_writePath_43 : decode cX9_writePath 43 = .ok (.getfield 53, 3) := by decide +kernel
theorem dX9_writePath_46 : decode cX9_writePath 46 = .ok (.imul, 1) := by decide +kernel
theorem dX9_writePath_47 : decode cX9_writePath 47 = .ok (.aload_n 0, 1) := by decide +kernel
theorem dX9_writePath_48 : decode cX9_writePath 48 = .ok (.getfield 20, 3) := by decide +kernel
theorem dX9_writePath_51 : decode cX9_writePath 51 = .ok (.getfield 53, 3) := by decide +kernel
theorem dX9_writePath_54 : decode cX9_writePath 54 = .ok (.invokevirtual 57, 3) := by decide +kernel
theorem dX9_writePath_57 : decode cX9_writePath 57 = .ok (.aload_n 0, 1) := by decide +kernel
theorem dX9_writePath_58 : decode cX9_writePath 58 = .ok (.iload_n 1, 1) := by decide +kernel
theorem dX9_writePath_59 : decode cX9_writePath 59 = .ok (.iload_n 2, 1) := by decide +kernel
theorem dX9_writePath_60 : decode cX9_writePath 60 = .ok (.iload 6, 2) := by decide +kernel
theorem dX9_writePath_62 : decode cX9_writePath 62 = .ok (.iconst 1, 1) := by decide +kernel
theorem dX9_writePath_63 : decode cX9_writePath 63 = .ok (.iadd, 1) := by decide +kernel
theorem dX9_writePath_64 : decode cX9_writePath 64 = .ok (.iload 4, 2) := by decide +kernel
theorem dX9_writePath_66 : decode cX9_writePath 66 = .ok (.iload_n 3, 1) := by decide +kernel
theorem dX9_writePath_67 : decode cX9_writePath 67 = .ok (.ishr, 1) := by decide +kernel
theorem dX9_writePath_68 : decode cX9_writePath 68 = .ok (.iload 7, 2) := by decide +kernel
theorem dX9_writePath_70 : decode cX9_writePath 70 = .ok (.iconst 2, 1) := by decide +kernel
theorem dX9_writePath_71 : decode cX9_writePath 71 = .ok (.idiv, 1) := by decide +kernel
theorem dX9_writePath_72 : decode cX9_writePath 72 = .ok (.imul, 1) := by decide +kernel
theorem dX9_writePath_73 : decode cX9_writePath 73 = .ok (.iload 7, 2) := by decide +kernel
theorem dX9_writePath_75 : decode cX9_writePath 75 = .ok (.iconst 2, 1) := by decide +kernel
theorem dX9_writePath_76 : decode cX9_writePath 76 = .ok (.idiv, 1) := by decide +kernel
theorem dX9_writePath_77 : decode cX9_writePath 77 = .ok (.invokevirtual 64, 3) := by decide +kernel
theorem dX9_writePath_80 : decode cX9_writePath 80 = .ok (.iinc 6 1, 3) := by decide +kernel
theorem dX9_writePath_83 : decode cX9_writePath 83 = .ok (.goto (-80), 3) := by decide +kernel
theorem dX9_writePath_86 : decode cX9_writePath 86 = .ok (.return_, 1) := by decide +kernel
set_option maxRecDepth 20000 in
theorem ggX9_leadPath_X5_start : GoodIn wsX9_leadPath wsX5_start := goodIn_r _ [9, 10, 11, 12, 13, 14, 15, 16, 17, 18, 19, 20, 21, 22, 23, 24, 25, 26, 27, 28, 29, 30, 31, 32, 33, 34, 35, 36, 37, 38, 39, 126, 127, 128, 129, 130, 131, 132, 133, 120, 121, 122, 123, 124, 125, 134, 135] rfl (by decide +kernel)
set_option maxRecDepth 20000 in
theorem gX9_leadPath_X5_start : GoodIn wsX9_leadPath (wsV RX9 68 RX5 yX5_start wsX5_start) := goodIn_app (goodIn_of _ (by decide +kernel)) ggX9_leadPath_X5_start
set_option maxRecDepth 20000 in
theorem ggX9_leadPath_X7_add : GoodIn wsX9_leadPath wsX7_add := goodIn_r _ [43, 22, 44, 24, 25, 20, 26, 27, 28, 29, 30, 31, 32, 33, 34, 35, 134, 135] rfl (by decide +kernel)
set_option maxRecDepth 20000 in
theorem gX9_leadPath_X7_add : GoodIn wsX9_leadPath (wsV RX9 57 RX7 yX7_add wsX7_add) := goodIn_app (goodIn_of _ (by decide +kernel)) ggX9_leadPath_X7_add
set_option maxRecDepth 20000 in
theorem ggX9_leadPath_X5_finish : GoodIn wsX9_leadPath wsX5_finish := goodIn_r _ [48, 10, 11, 12, 49, 14, 50, 51, 52, 8, 53, 54, 55, 56, 57, 58, 59, 60, 61, 62, 63, 64, 65, 66, 67, 37, 38, 20, 39, 22, 27, 68, 69, 70, 71, 72, 73, 74, 75, 76, 77, 78, 79, 80, 81, 82, 83, 84, 85, 86, 87, 88, 89, 90, 91, 92, 93, 18, 19, 21, 94, 95, 96, 97, 98, 99, 100, 101, 102, 103, 104, 105, 106, 107, 108, 109, 110, 111, 112, 113, 114, 115, 23, 24, 25, 26, 28, 29, 30, 31, 32, 33, 34, 35, 126, 127, 128, 129, 130, 131, 132, 133, 120, 121, 122, 123, 124, 125, 134, 135, 136, 137, 138, 139] rfl (by decide +kernel)
set_option maxRecDepth 20000 in
theorem gX9_leadPath_X5_finish : GoodIn wsX9_leadPath (wsV RX9 77 RX5 yX5_finish wsX5_finish) := goodIn_app (goodIn_of _ (by decide +kernel)) ggX9_leadPath_X5_finish
theorem dX9_leadPath_0 : decode cX9_leadPath 0 = .ok (.iconst 0, 1) := by decide +kernel
theorem dX9_leadPath_1 : decode cX9_leadPath 1 = .ok (.istore 8, 2) := by decide +kernel
theorem dX9_leadPath_3 : decode cX9_leadPath 3 = .ok (.iload 8, 2) := by decide +kernel
theorem dX9_leadPath_5 : decode cX9_leadPath 5 = .ok (.iload_n 3, 1) := by decide +kernel
theorem dX9_leadPath_6 : decode cX9_leadPath 6 = .ok (.if_icmp .ge 151, 3) := by decide +kernel
theorem dX9_leadPath_9 : decode cX9_leadPath 9 = .ok (.iload 4, 2) := by decide +kernel
theorem dX9_leadPath_11 : decode cX9_leadPath 11 = .ok (.iload 8, 2) := by decide +kernel
theorem dX9_leadPath_13 : decode cX9_leadPath 13 = .ok (.ishr, 1) := by decide +kernel
theorem dX9_leadPath_14 : decode cX9_leadPath 14 = .ok (.iconst 2, 1) := by decide +kernel
theorem dX9_leadPath_15 : decode cX9_leadPath 15 = .ok (.irem, 1) := by decide +kernel
theorem dX9_leadPath_16 : decode cX9_leadPath 16 = .ok (.ifCond .ne 7, 3) := by decide +kernel
theorem dX9_leadPath_19 : decode cX9_leadPath 19 = .ok (.iconst 1, 1) := by decide +kernel
theorem dX9_leadPath_20 : decode cX9_leadPath 20 = .ok (.goto 4, 3) := by decide +kernel
theorem dX9_leadPath_23 : decode cX9_leadPath 23 = .ok (.iconst 0, 1) := by decide +kernel
theorem dX9_leadPath_24 : decode cX9_leadPath 24 = .ok (.istore 9, 2) := by decide +kernel
theorem dX9_leadPath_26 : decode cX9_leadPath 26 = .ok (.iload 6, 2) := by decide +kernel
theorem dX9_leadPath_28 : decode cX9_leadPath 28 = .ok (.iload 8, 2) := by decide +kernel
theorem dX9_leadPath_30 : decode cX9_leadPath 30 = .ok (.aload_n 0, 1) := by decide +kernel
theorem dX9_leadPath_31 : decode cX9_leadPath 31 = .ok (.getfield 20, 3) := by decide +kernel
theorem dX9_leadPath_34 : decode cX9_leadPath 34 = .ok (.getfield 53, 3) := by decide +kernel
theorem dX9_leadPath_37 : decode cX9_leadPath 37 = .ok (.imul, 1) := by decide +kernel
theorem dX9_leadPath_38 : decode cX9_leadPath 38 = .ok (.iadd, 1) := by decide +kernel
theorem dX9_leadPath_39 : decode cX9_leadPath 39 = .ok (.istore 10, 2) := by decide +kernel
theorem dX9_leadPath_41 : decode cX9_leadPath 41 = .ok (.aload_n 0, 1) := by decide +kernel
theorem dX9_leadPath_42 : decode cX9_leadPath 42 = .ok (.getfield 24, 3) := by decide +kernel
theorem dX9_leadPath_45 : decode cX9_leadPath 45 = .ok (.iload_n 1, 1) := by decide +kernel
theorem dX9_leadPath_46 : decode cX9_leadPath 46 = .ok (.iload_n 2, 1) := by decide +kernel
theorem dX9_leadPath_47 : decode cX9_leadPath 47 = .ok (.iload 8, 2) := by decide +kernel
theorem dX9_leadPath_49 : decode cX9_leadPath 49 = .ok (.iconst 1, 1) := by decide +kernel
theorem dX9_leadPath_50 : decode cX9_leadPath 50 = .ok (.iadd, 1) := by decide +kernel
theorem dX9_leadPath_51 : decode cX9_leadPath 51 = .ok (.iload 4, 2) := by decide +kernel
theorem dX9_leadPath_53 : decode cX9_leadPath 53 = .ok (.iload 8, 2) := by decide +kernel
theorem dX9_leadPath_55 : decode cX9_leadPath 55 = .ok (.iconst 1, 1) := by decide +kernel
theorem dX9_leadPath_56 : decode cX9_leadPath 56 = .ok (.iadd, 1) := by decide +kernel
theorem dX9_leadPath_57 : decode cX9_leadPath 57 = .ok (.ishr, 1) := by decide +kernel
theorem dX9_leadPath_58 : decode cX9_leadPath 58 = .ok (.invokevirtual 68, 3) := by decide +kernel
theorem dX9_leadPath_61 : decode cX9_leadPath 61 = .ok (.aload_n 0, 1) := by decide +kernel
theorem dX9_leadPath_62 : decode cX9_leadPath 62 = .ok (.getfield 24, 3) := by decide +kernel
theorem dX9_leadPath_65 : decode cX9_leadPath 65 = .ok (.getfield 74, 3) := by decide +kernel
theorem dX9_leadPath_68 : decode cX9_leadPath 68 = .ok (.iload 9, 2) := by decide +kernel
theorem dX9_leadPath_70 : decode cX9_leadPath 70 = .ok (.ifCond .eq 8, 3) := by decide +kernel
theorem dX9_leadPath_73 : decode cX9_leadPath 73 = .ok (.aload 7, 2) := by decide +kernel
theorem dX9_leadPath_75 : decode cX9_leadPath 75 = .ok (.goto 5, 3) := by decide +kernel
theorem dX9_leadPath_78 : decode cX9_leadPath 78 = .ok (.aload 5, 2) := by decide +kernel
theorem dX9_leadPath_80 : decode cX9_leadPath 80 = .ok (.iload 9, 2) := by decide +kernel
theorem dX9_leadPath_82 : decode cX9_leadPath 82 = .ok (.ifCond .eq 7, 3) := by decide +kernel
theorem dX9_leadPath_85 : decode cX9_leadPath 85 = .ok (.iconst 0, 1) := by decide +kernel
theorem dX9_leadPath_86 : decode cX9_leadPath 86 = .ok (.goto 5, 3) := by decide +kernel
theorem dX9_leadPath_89 : decode cX9_leadPath 89 = .ok (.iload 10, 2) := by decide +kernel
theorem dX9_leadPath_91 : decode cX9_leadPath 91 = .ok (.aload_n 0, 1) := by decide +kernel
theorem dX9_leadPath_92 : decode cX9_leadPath 92 = .ok (.getfield 20, 3) := by decide +kernel
theorem dX9_leadPath_95 : decode cX9_leadPath 95 = .ok (.getfield 53, 3) := by decide +kernel
theorem dX9_leadPath_98 : decode cX9_leadPath 98 = .ok (.invokevirtual 57, 3) := by decide +kernel
theorem dX9_leadPath_101 : decode cX9_leadPath 101 = .ok (.aload_n 0, 1) := by decide +kernel
theorem dX9_leadPath_102 : decode cX9_leadPath 102 = .ok (.getfield 24, 3) := by decide +kernel
theorem dX9_leadPath_105 : decode cX9_leadPath 105 = .ok (.getfield 74, 3) := by decide +kernel
theorem dX9_leadPath_108 : decode cX9_leadPath 108 = .ok (.iload 9, 2) := by decide +kernel
theorem dX9_leadPath_110 : decode cX9_leadPath 110 = .ok (.ifCond .eq 8, 3) := by decide +kernel
theorem dX9_leadPath_113 : decode cX9_leadPath 113 = .ok (.aload 5, 2) := by decide +kernel
theorem dX9_leadPath_115 : decode cX9_leadPath 115 = .ok (.goto 5, 3) := by decide +kernel
theorem dX9_leadPath_118 : decode cX9_leadPath 118 = .ok (.aload 7, 2) := by decide +kernel
theorem dX9_leadPath_120 : decode cX9_leadPath 120 = .ok (.iload 9, 2) := by decide +kernel
theorem dX9_leadPath_122 : decode cX9_leadPath 122 = .ok (.ifCond .eq 8, 3) := by decide +kernel
theorem dX9_leadPath_125 : decode cX9_leadPath 125 = .ok (.iload 10, 2) := by decide +kernel
theorem dX9_leadPath_127 : decode cX9_leadPath 127 = .ok (.goto 4, 3) := by decide +kernel
theorem dX9_leadPath_130 : decode cX9_leadPath 130 = .ok (.iconst 0, 1) := by decide +kernel
theorem dX9_leadPath_131 : decode cX9_leadPath 131 = .ok (.aload_n 0, 1) := by decide +kernel
theorem dX9_leadPath_132 : decode cX9_leadPath 132 = .ok (.getfield 20, 3) := by decide +kernel
theorem dX9_leadPath_135 : decode cX9_leadPath 135 = .ok (.getfield 53, 3) := by decide +kernel
theorem dX9_leadPath_138 : decode cX9_leadPath 138 = .ok (.invokevirtual 57, 3) := by decide +kernel
theorem dX9_leadPath_141 : decode cX9_leadPath 141 = .ok (.aload_n 0, 1) := by decide +kernel
theorem dX9_leadPath_142 : decode cX9_leadPath 142 = .ok (.getfield 24, 3) := by decide +kernel
theorem dX9_leadPath_145 : decode cX9_leadPath 145 = .ok (.aload 7, 2) := by decide +kernel
theorem dX9_leadPath_147 : decode cX9_leadPath 147 = .ok (.iconst 0, 1) := by decide +kernel
theorem dX9_leadPath_148 : decode cX9_leadPath 148 = .ok (.invokevirtual 77, 3) := by decide +kernel
theorem dX9_leadPath_151 : decode cX9_leadPath 151 = .ok (.iinc 8 1, 3) := by decide +kernel
theorem dX9_leadPath_154 : decode cX9_leadPath 154 = .ok (.goto (-151), 3) := by decide +kernel
theorem dX9_leadPath_157 : decode cX9_leadPath 157 = .ok (.return_, 1) := by decide +kernel
set_option maxHeartbeats 4000000 in
set_option maxRecDepth 100000 in
/-- Trees.writePath -/
theorem c_writePath (l : Launch) (g : jG) (te : Nat) (lvl : Nat) (ch : Nat) (hh : Nat) (inr : Nat) (outr : Nat) (zo : Nat) (on : Nat) (sp : Nat) (fm : Nat) (nn : Nat) (ht : Nat) (lys : Nat) (fa : Nat) (mk : Nat) (sdr : Nat) (ly : Nat) (tr : Nat) (sda : Nat) (sd : Nat → Int32) (ina : Nat) (ni : Nat) (fi : Nat → Int32) (outa : Nat) (no : Nat) (fo : Nat → Int32) (sa : Nat) (wa : Nat) (S0 : Nat → Int32) (w0 : Nat → Int32) (aa : Nat) (ba : Nat) (A0 : Nat → Int64) (B0 : Nat → Int64) (lvla : Nat) (nlv : Nat) (lf : Nat → Int32) (tor : Nat) (toa : Nat) (nt : Nat) (tcap : Nat) (tf : Nat → Int32) (kd : Nat) (ku : Nat) (hg : Nat) (jl : Nat) (lfn : Nat → List Int32) (hfm : fm < 2) (hnn : nn ≤ 16) (hB : isB sd) (hno : no ≤ 32) (hBo : isB fo) (hni0 : ni ≤ 768) (hg4 : hg ≤ 4) (hjl : jl < 2 ^ 20) (hlv : nlv ≤ 256) (hcap : 2 ^ hg * nn ≤ nlv) (hLB : isB lf) (hlf : ∀ i, (lfn i).length = nn) (hX0 : ∀ i, i < 2 ^ hg → slice lf (i * nn) nn = lfn (jl / 2 ^ hg * 2 ^ hg + i)) (hTB : isB tf) (htc : tcap < 2 ^ 31) (hcapT : nt + hg * nn ≤ tcap) : jC l g yX9_writePath wsX9_writePath ({ frames := 4, cells := 0, slots := 0, locals := 116 } : Room) [.ref te, .int (nI kd), .int (nI ku), .int (nI hg), .int (nI jl), .ref tor] [oB te 9 [.ref lvl, .ref sp, .ref hh, .ref ch], oB hh 5 [.ref inr, .ref outr, .ref zo, .ref on, .ref sp, .ref sdr, .int (nI ly), .int (nI tr)], oB sp 8 [.int (nI fm), .int (nI nn), .int (nI ht), .int (nI lys), .int (nI fa), .int (nI mk)], oB sdr 7 [.ref sda, .int (nI 48)], bA g sda 48 sd, oB inr 7 [.ref ina, .int (nI ni)], bA g ina 768 fi, oB outr 7 [.ref outa, .int (nI no)], bA g outa 32 fo, oB zo 4 [.ref sa, .ref wa], iA g sa 8 S0, iA g wa 64 w0, oB on 3 [.ref aa, .ref ba], lA g aa 25 A0, lA g ba 25 B0, oB lvl 7 [.ref lvla, .int (nI nlv)], bA g lvla 256 lf, oB tor 7 [.ref toa, .int (nI nt)], bA g toa tcap tf] (fun jj : Nat × (Nat → Int32) × (Nat → Int32) × (Nat → Int64) × (Nat → Int64) × Nat × (Nat → Int32) × (Nat → Int32) × (Nat → Int32) × (Nat → Int32) => none) (fun jj : Nat × (Nat → Int32) × (Nat → Int32) × (Nat → Int64) × (Nat → Int64) × Nat × (Nat → Int32) × (Nat → Int32) × (Nat → Int32) × (Nat → Int32) => (jj.2.2.2.2.2.1 ≤ 768 ∧ jj.1 ≤ 32) ∧ isB jj.2.2.2.2.2.2.2.1 ∧ isB jj.2.2.2.2.2.2.2.2.1 ∧ isB jj.2.2.2.2.2.2.2.2.2 ∧ jj.2.2.2.2.2.2.2.2.2 = putL tf nt (pth fm nn sd ly tr kd ku lfn jl hg) ∧ slice jj.2.2.2.2.2.2.2.2.1 0 nn = NG fm nn sd ly tr kd ku lfn hg (jl / 2 ^ hg)) (fun jj : Nat × (Nat → Int32) × (Nat → Int32) × (Nat → Int64) × (Nat → Int64) × Nat × (Nat → Int32) × (Nat → Int32) × (Nat → Int32) × (Nat → Int32) => [oB te 9 [.ref lvl, .ref sp, .ref hh, .ref ch], oB hh 5 [.ref inr, .ref outr, .ref zo, .ref on, .ref sp, .ref sdr, .int (nI ly), .int (nI tr)], oB sp 8 [.int (nI fm), .int (nI nn), .int (nI ht), .int (nI lys), .int (nI fa), .int (nI mk)], oB sdr 7 [.ref sda, .int (nI 48)], bA g sda 48 sd, oB inr 7 [.ref ina, .int (nI jj.2.2.2.2.2.1)], bA g ina 768 jj.2.2.2.2.2.2.1, oB outr 7 [.ref outa, .int (nI jj.1)], bA g outa 32 jj.2.2.2.2.2.2.2.1, oB zo 4 [.ref sa, .ref wa], iA g sa 8 jj.2.1, iA g wa 64 jj.2.2.1, oB on 3 [.ref aa, .ref ba], lA g aa 25 jj.2.2.2.1, lA g ba 25 jj.2.2.2.2.1, oB lvl 7 [.ref lvla, .int (nI nlv)], bA g lvla 256 jj.2.2.2.2.2.2.2.2.1, oB tor 7 [.ref toa, .int (nI (nt + hg * nn))], bA g toa tcap jj.2.2.2.2.2.2.2.2.2]) := by
  refine jC.of (cc := cX9_writePath) (own := RX9) (maxL := 9) (ret := none) (by decide +kernel) rfl rfl (Nat.le_of_ble_eq_true rfl) (fun u hu => rfl) ?_
  intro p e s m below meth c A Q hX hret
  have in8 : ∀ w ∈ wsX80, w ∈ wsX9_writePath := (fun w h => List.mem_cons_of_mem _ (List.mem_append_left _ (List.mem_append_left _ (List.mem_append_left _ (List.mem_append_left _ (List.mem_append_right _ h))))))
  have in9 : ∀ w ∈ wsX90, w ∈ wsX9_writePath := (fun w h => List.mem_cons_of_mem _ (List.mem_append_left _ (List.mem_append_left _ (List.mem_append_left _ (List.mem_append_left _ (List.mem_append_left _ (List.mem_append_right _ h)))))))
  refine j_iconst hX (0) dX9_writePath_0 (by decide) ?_
  refine j_st [.int (nI 0)] rfl ?_
  refine j_istore hX [(6, .int (nI 0)), (0, .ref te), (1, .int (nI kd)), (2, .int (nI ku)), (3, .int (nI hg)), (4, .int (nI jl)), (5, .ref tor)] dX9_writePath_1 (by decide) rfl ?_
  have lp_1 : ∀ (n_2 : Nat) (z : Nat) (no1 : Nat) (S1 : Nat → Int32) (w1 : Nat → Int32) (A1 : Nat → Int64) (B1 : Nat → Int64) (nl : Nat) (G : Nat → Int32) (FO : Nat → Int32) (L1 : Nat → Int32) (nt1 : Nat) (TO : Nat → Int32), (hg - z < n_2) → (z ≤ hg) → (nl ≤ 768 ∧ no1 ≤ 32) → (isB FO) → (isB L1) → (isB TO) → (nt1 = nt + z * nn) → (TO = putL tf nt (pth fm nn sd ly tr kd ku lfn jl z)) → (∀ i, i < 2 ^ (hg - z) → slice L1 (i * nn) nn = NG fm nn sd ly tr kd ku lfn z (jl / 2 ^ hg * 2 ^ (hg - z) + i)) → J p l e ({ frames := 4, cells := 0, slots := 0, locals := 116 } : Room) s m ([.ref te, .int (nI kd), .int (nI ku), .int (nI hg), .int (nI jl), .ref tor] : List Value).toArray below meth c g A 9 Q 0 0 [oB te 9 [.ref lvl, .ref sp, .ref hh, .ref ch], oB hh 5 [.ref inr, .ref outr, .ref zo, .ref on, .ref sp, .ref sdr, .int (nI ly), .int (nI tr)], oB sp 8 [.int (nI fm), .int (nI nn), .int (nI ht), .int (nI lys), .int (nI fa), .int (nI mk)], oB sdr 7 [.ref sda, .int (nI 48)], bA g sda 48 sd, oB inr 7 [.ref ina, .int (nI nl)], bA g ina 768 G, oB outr 7 [.ref outa, .int (nI no1)], bA g outa 32 FO, oB zo 4 [.ref sa, .ref wa], iA g sa 8 S1, iA g wa 64 w1, oB on 3 [.ref aa, .ref ba], lA g aa 25 A1, lA g ba 25 B1, oB lvl 7 [.ref lvla, .int (nI nlv)], bA g lvla 256 L1, oB tor 7 [.ref toa, .int (nI nt1)], bA g toa tcap TO] [(0, .ref te), (1, .int (nI kd)), (2, .int (nI ku)), (3, .int (nI hg)), (4, .int (nI jl)), (5, .ref tor), (6, .int (nI z))] 3 [] := by
    intro n_2
    induction n_2 with
    | zero => intro z no1 S1 w1 A1 B1 nl G FO L1 nt1 TO hm; exact absurd hm (Nat.not_lt_zero _)
    | succ n_2 ih_3 =>
      intro z no1 S1 w1 A1 B1 nl G FO L1 nt1 TO hm hz hnl hFO hB2 hTO hnt1 hO hL
      refine j_iload hX 6 dX9_writePath_3 rfl ?_
      refine j_iload_n hX 3 dX9_writePath_5 rfl ?_
      refine j_icmp_geN hX z hg 86 dX9_writePath_6 (by decide) (by omega) (by omega) (fun b_6 => ?_) (fun b_6 => ?_)
      · skip
        have hzg : z = hg := by omega
        rw [hzg] at hO hnt1 hL
        have h9 := hL 0 (Nat.two_pow_pos _)
        rw [Nat.zero_mul, Nat.sub_self, Nat.pow_zero, Nat.mul_one, Nat.add_zero] at h9
        refine j_w [oB te 9 [.ref lvl, .ref sp, .ref hh, .ref ch], oB hh 5 [.ref inr, .ref outr, .ref zo, .ref on, .ref sp, .ref sdr, .int (nI ly), .int (nI tr)], oB sp 8 [.int (nI fm), .int (nI nn), .int (nI ht), .int (nI lys), .int (nI fa), .int (nI mk)], oB sdr 7 [.ref sda, .int (nI 48)], bA g sda 48 sd, oB inr 7 [.ref ina, .int (nI nl)], bA g ina 768 G, oB outr 7 [.ref outa, .int (nI no1)], bA g outa 32 FO, oB zo 4 [.ref sa, .ref wa], iA g sa 8 S1, iA g wa 64 w1, oB on 3 [.ref aa, .ref ba], lA g aa 25 A1, lA g ba 25 B1, oB lvl 7 [.ref lvla, .int (nI nlv)], bA g lvla 256 L1, oB tor 7 [.ref toa, .int (nI (nt + hg * nn))], bA g toa tcap TO] (by rw [hnt1]) ?_
        exact hret (no1, S1, w1, A1, B1, nl, G, FO, L1, TO) (by dsimp only; exact ⟨hnl, hFO, hB2, hTO, hO, h9⟩) 86 _ .return_ dX9_writePath_86 rfl
      · skip
        have hzl : z < hg := by omega
        have hwd := pow_half hzl
        have hw16 : 2 ^ (hg - z) ≤ 16 := pow_le16 (by omega)
        have hwp := Nat.two_pow_pos (hg - (z + 1))
        have hjz : jl / 2 ^ z < 2 ^ 30 := Nat.lt_of_le_of_lt (Nat.div_le_self _ _) (by omega)
        have hsl : sib (jl / 2 ^ z) % 2 ^ (hg - z) < 2 ^ (hg - z) := Nat.mod_lt _ (Nat.two_pow_pos _)
        have hbd := path_bd hsl hcap
        have hzn := mul_step (n := nn) hzl
        refine j_iconst hX (1) dX9_writePath_9 (by decide) ?_
        refine j_pc 10 rfl ?_
        refine j_iload_n hX 3 dX9_writePath_10 rfl ?_
        refine j_iload hX 6 dX9_writePath_11 rfl ?_
        refine j_isubN hX hg z (by omega) dX9_writePath_13 ?_
        refine j_ishlN hX 1 (hg - z) (by omega) (by omega) dX9_writePath_14 ?_
        refine j_topeq _ (nI (2 ^ (hg - z))) (by rw [Nat.one_mul]) ?_
        refine j_istore hX [(7, .int (nI (2 ^ (hg - z)))), (0, .ref te), (1, .int (nI kd)), (2, .int (nI ku)), (3, .int (nI hg)), (4, .int (nI jl)), (5, .ref tor), (6, .int (nI z))] dX9_writePath_15 (by decide) rfl ?_
        refine j_iload hX 5 dX9_writePath_17 rfl ?_
        refine j_iload hX 7 dX9_writePath_19 rfl ?_
        refine j_ishrN hX jl z (by omega) (by omega) dX9_writePath_21 ?_
        refine j_pc 22 rfl ?_
        refine j_iconst hX (1) dX9_writePath_22 (by decide) ?_
        refine j_ixor hX dX9_writePath_23 ?_
        refine j_topeq _ (nI (sib (jl / 2 ^ z))) (sib_I (by omega)) ?_
        refine j_iload hX 0 dX9_writePath_24 rfl ?_
        refine j_iconst hX (1) dX9_writePath_26 (by decide) ?_
        refine j_isubN hX (2 ^ (hg - z)) 1 (by omega) dX9_writePath_27 ?_
        refine j_iand hX dX9_writePath_28 ?_
        refine j_topeq _ (nI (sib (jl / 2 ^ z) % 2 ^ (hg - z))) (pk_andN (by have := sib_lt hjz; omega) (hg - z) (two_pow_I (by omega))) ?_
        refine j_istore hX [(8, .int (nI (sib (jl / 2 ^ z) % 2 ^ (hg - z)))), (7, .int (nI (2 ^ (hg - z)))), (0, .ref te), (1, .int (nI kd)), (2, .int (nI ku)), (3, .int (nI hg)), (4, .int (nI jl)), (5, .ref tor), (6, .int (nI z))] dX9_writePath_29 (by decide) rfl ?_
        refine j_aload hX 7 dX9_writePath_31 rfl ?_
        refine j_pc 33 rfl ?_
        refine j_aload_n hX 2 dX9_writePath_33 rfl ?_
        refine j_get hX in9 9 0 0 (v := .ref lvl) rfl rfl (by decide) (List.mem_of_getElem? (i := 1) rfl) rfl rfl dX9_writePath_34 ?_
        refine j_iload hX 0 dX9_writePath_37 rfl ?_
        refine j_aload_n hX 2 dX9_writePath_39 rfl ?_
        refine j_get hX in9 9 0 1 (v := .ref sp) rfl rfl (by decide) (List.mem_of_getElem? (i := 2) rfl) rfl rfl dX9_writePath_40 ?_
        refine j_get hX in8 8 2 1 (v := .int (nI nn)) rfl rfl (by decide) (List.mem_of_getElem? (i := 3) rfl) rfl rfl dX9_writePath_43 ?_
        refine j_imulN hX (sib (jl / 2 ^ z) % 2 ^ (hg - z)) nn dX9_writePath_46 ?_
        refine j_aload_n hX 2 dX9_writePath_47 rfl ?_
        refine j_pc 48 rfl ?_
        refine j_get hX in9 9 0 1 (v := .ref sp) rfl rfl (by decide) (List.mem_of_getElem? (i := 2) rfl) rfl rfl dX9_writePath_48 ?_
        refine j_get hX in8 8 2 1 (v := .int (nI nn)) rfl rfl (by decide) (List.mem_of_getElem? (i := 3) rfl) rfl rfl dX9_writePath_51 ?_
        refine j_callV2 hX 3 (c_add l g tor toa nt1 tcap TO lvl lvla nlv 256 L1 ((sib (jl / 2 ^ z) % 2 ^ (hg - z)) * nn) nn (by omega) (by omega) (by omega) (by omega) hB2 (by omega) (by omega)) gX9_writePath_X7_add (by decide +kernel) rfl ⟨rfl, rfl⟩ ⟨Nat.le_of_ble_eq_true rfl, Nat.le_of_ble_eq_true rfl⟩ 7 17 rfl rfl [17, 18, 15, 16] [0, 1, 2, 3, 4, 5, 6, 7, 8, 9, 10, 11, 12, 13, 14] 19 rfl (by decide) (fun jj : (Nat → Int32) => [oB te 9 [.ref lvl, .ref sp, .ref hh, .ref ch], oB hh 5 [.ref inr, .ref outr, .ref zo, .ref on, .ref sp, .ref sdr, .int (nI ly), .int (nI tr)], oB sp 8 [.int (nI fm), .int (nI nn), .int (nI ht), .int (nI lys), .int (nI fa), .int (nI mk)], oB sdr 7 [.ref sda, .int (nI 48)], bA g sda 48 sd, oB inr 7 [.ref ina, .int (nI nl)], bA g ina 768 G, oB outr 7 [.ref outa, .int (nI no1)], bA g outa 32 FO, oB zo 4 [.ref sa, .ref wa], iA g sa 8 S1, iA g wa 64 w1, oB on 3 [.ref aa, .ref ba], lA g aa 25 A1, lA g ba 25 B1, oB lvl 7 [.ref lvla, .int (nI nlv)], bA g lvla 256 L1, oB tor 7 [.ref toa, .int (nI (nt1 + nn))], bA g toa tcap jj]) (fun _ => rfl) (by decide) [te, hh, sp, sdr, sda, inr, ina, outr, outa, zo, sa, wa, on, aa, ba, lvl, lvla, tor, toa] rfl (fun _ => rfl) (fun _ => rfl) [oB te 9 [.ref lvl, .ref sp, .ref hh, .ref ch], oB hh 5 [.ref inr, .ref outr, .ref zo, .ref on, .ref sp, .ref sdr, .int (nI ly), .int (nI tr)], oB sp 8 [.int (nI fm), .int (nI nn), .int (nI ht), .int (nI lys), .int (nI fa), .int (nI mk)], oB sdr 7 [.ref sda, .int (nI 48)], bA g sda 48 sd, oB inr 7 [.ref ina, .int (nI nl)], bA g ina 768 G, oB outr 7 [.ref outa, .int (nI no1)], bA g outa 32 FO, oB zo 4 [.ref sa, .ref wa], iA g sa 8 S1, iA g wa 64 w1, oB on 3 [.ref aa, .ref ba], lA g aa 25 A1, lA g ba 25 B1] rfl (fun _ => rfl) rfl [] rfl (Nat.le_of_ble_eq_true rfl) ⟨Nat.le_refl _, Nat.le_refl _⟩ dX9_writePath_54 ?_
        intro TO9 hT
        try dsimp only at hT
        refine j_w [oB te 9 [.ref lvl, .ref sp, .ref hh, .ref ch], oB hh 5 [.ref inr, .ref outr, .ref zo, .ref on, .ref sp, .ref sdr, .int (nI ly), .int (nI tr)], oB sp 8 [.int (nI fm), .int (nI nn), .int (nI ht), .int (nI lys), .int (nI fa), .int (nI mk)], oB sdr 7 [.ref sda, .int (nI 48)], bA g sda 48 sd, oB inr 7 [.ref ina, .int (nI nl)], bA g ina 768 G, oB outr 7 [.ref outa, .int (nI no1)], bA g outa 32 FO, oB zo 4 [.ref sa, .ref wa], iA g sa 8 S1, iA g wa 64 w1, oB on 3 [.ref aa, .ref ba], lA g aa 25 A1, lA g ba 25 B1, oB lvl 7 [.ref lvla, .int (nI nlv)], bA g lvla 256 L1, oB tor 7 [.ref toa, .int (nI (nt1 + nn))], bA g toa tcap TO9] rfl ?_
        refine j_st [] rfl ?_
        refine j_aload_n hX 2 dX9_writePath_57 rfl ?_
        refine j_iload_n hX 3 dX9_writePath_58 rfl ?_
        refine j_iload_n hX 4 dX9_writePath_59 rfl ?_
        refine j_iload hX 8 dX9_writePath_60 rfl ?_
        refine j_iconst hX (1) dX9_writePath_62 (by decide) ?_
        refine j_pc 63 rfl ?_
        refine j_iaddN hX z 1 dX9_writePath_63 ?_
        refine j_iload hX 6 dX9_writePath_64 rfl ?_
        refine j_iload_n hX 5 dX9_writePath_66 rfl ?_
        refine j_ishrN hX jl hg (by omega) (by omega) dX9_writePath_67 ?_
        refine j_iload hX 1 dX9_writePath_68 rfl ?_
        refine j_iconst hX (2) dX9_writePath_70 (by decide) ?_
        refine j_idivN hX (2 ^ (hg - z)) 2 (by omega) (by omega) (by omega) dX9_writePath_71 ?_
        refine j_topeq _ (nI (2 ^ (hg - (z + 1)))) (by rw [hwd, Nat.mul_div_cancel_left _ (by decide)]) ?_
        refine j_imulN hX (jl / 2 ^ hg) (2 ^ (hg - (z + 1))) dX9_writePath_72 ?_
        refine j_pc 73 rfl ?_
        refine j_iload hX 1 dX9_writePath_73 rfl ?_
        refine j_iconst hX (2) dX9_writePath_75 (by decide) ?_
        refine j_idivN hX (2 ^ (hg - z)) 2 (by omega) (by omega) (by omega) dX9_writePath_76 ?_
        refine j_topeq _ (nI (2 ^ (hg - (z + 1)))) (by rw [hwd, Nat.mul_div_cancel_left _ (by decide)]) ?_
        refine j_callV2 hX 5 (c_rise l g te lvl ch hh inr outr zo on sp fm nn ht lys fa mk sdr ly tr sda sd ina nl G outa no1 FO sa wa S1 w1 aa ba A1 B1 lvla nlv L1 kd ku (z + 1) ((jl / 2 ^ hg) * (2 ^ (hg - (z + 1)))) (2 ^ (hg - (z + 1))) (fun i => NG fm nn sd ly tr kd ku lfn z (jl / 2 ^ hg * 2 ^ (hg - z) + i)) (by omega) (by omega) hB hnl.2 hFO hnl.1 (by omega) (by rw [← hwd]; exact Nat.le_trans (pow_sub_le hg z nn) hcap) hB2 (by omega) (by rw [← hwd]; exact hL)) gX9_writePath_X9_rise (by decide +kernel) rfl ⟨rfl, rfl⟩ ⟨Nat.le_of_ble_eq_true rfl, Nat.le_of_ble_eq_true rfl⟩ 9 0 rfl rfl [0, 1, 2, 3, 4, 5, 6, 7, 8, 9, 10, 11, 12, 13, 14, 15, 16] [17, 18] 19 rfl (by decide) (fun jj : Nat × (Nat → Int32) × (Nat → Int32) × (Nat → Int64) × (Nat → Int64) × Nat × (Nat → Int32) × (Nat → Int32) × (Nat → Int32) => [oB te 9 [.ref lvl, .ref sp, .ref hh, .ref ch], oB hh 5 [.ref inr, .ref outr, .ref zo, .ref on, .ref sp, .ref sdr, .int (nI ly), .int (nI tr)], oB sp 8 [.int (nI fm), .int (nI nn), .int (nI ht), .int (nI lys), .int (nI fa), .int (nI mk)], oB sdr 7 [.ref sda, .int (nI 48)], bA g sda 48 sd, oB inr 7 [.ref ina, .int (nI jj.2.2.2.2.2.1)], bA g ina 768 jj.2.2.2.2.2.2.1, oB outr 7 [.ref outa, .int (nI jj.1)], bA g outa 32 jj.2.2.2.2.2.2.2.1, oB zo 4 [.ref sa, .ref wa], iA g sa 8 jj.2.1, iA g wa 64 jj.2.2.1, oB on 3 [.ref aa, .ref ba], lA g aa 25 jj.2.2.2.1, lA g ba 25 jj.2.2.2.2.1, oB lvl 7 [.ref lvla, .int (nI nlv)], bA g lvla 256 jj.2.2.2.2.2.2.2.2, oB tor 7 [.ref toa, .int (nI (nt1 + nn))], bA g toa tcap TO9]) (fun _ => rfl) (by decide) [te, hh, sp, sdr, sda, inr, ina, outr, outa, zo, sa, wa, on, aa, ba, lvl, lvla, tor, toa] rfl (fun _ => rfl) (fun _ => rfl) [oB tor 7 [.ref toa, .int (nI (nt1 + nn))], bA g toa tcap TO9] rfl (fun _ => rfl) rfl [] rfl (Nat.le_of_ble_eq_true rfl) ⟨Nat.le_refl _, Nat.le_refl _⟩ dX9_writePath_77 ?_
        rintro ⟨no8, S8, w8_, A8, B8, nl8, G8, FO8, L8⟩ hE
        try dsimp only at hE
        refine j_w [oB te 9 [.ref lvl, .ref sp, .ref hh, .ref ch], oB hh 5 [.ref inr, .ref outr, .ref zo, .ref on, .ref sp, .ref sdr, .int (nI ly), .int (nI tr)], oB sp 8 [.int (nI fm), .int (nI nn), .int (nI ht), .int (nI lys), .int (nI fa), .int (nI mk)], oB sdr 7 [.ref sda, .int (nI 48)], bA g sda 48 sd, oB inr 7 [.ref ina, .int (nI nl8)], bA g ina 768 G8, oB outr 7 [.ref outa, .int (nI no8)], bA g outa 32 FO8, oB zo 4 [.ref sa, .ref wa], iA g sa 8 S8, iA g wa 64 w8_, oB on 3 [.ref aa, .ref ba], lA g aa 25 A8, lA g ba 25 B8, oB lvl 7 [.ref lvla, .int (nI nlv)], bA g lvla 256 L8, oB tor 7 [.ref toa, .int (nI (nt1 + nn))], bA g toa tcap TO9] rfl ?_
        refine j_st [] rfl ?_
        refine j_iincN hX z (z + 1) [(6, .int (nI (z + 1))), (8, .int (nI (sib (jl / 2 ^ z) % 2 ^ (hg - z)))), (7, .int (nI (2 ^ (hg - z)))), (0, .ref te), (1, .int (nI kd)), (2, .int (nI ku)), (3, .int (nI hg)), (4, .int (nI jl)), (5, .ref tor)] 8 dX9_writePath_80 rfl (nI_1 _) (by decide) rfl ?_
        refine j_goto hX 3 dX9_writePath_83 (by decide) ?_
        refine j_perm [(0, .ref te), (1, .int (nI kd)), (2, .int (nI ku)), (3, .int (nI hg)), (4, .int (nI jl)), (5, .ref tor), (6, .int (nI (z + 1)))] [3, 4, 5, 6, 7, 8, 0] rfl ?_
        exact ih_3 (z + 1) no8 S8 w8_ A8 B8 nl8 G8 FO8 L8 (nt1 + nn) TO9 (by omega) (by omega) hE.1 hE.2.1 hE.2.2.1 (by rw [hT]; exact putL_B hTO (slice_B hB2 _ _)) (by rw [hnt1, Nat.succ_mul]; omega) (pth_step hnn hlf hzl hL hO hnt1 hT) (path_up hzl hE.2.2.2)
  refine j_perm [(0, .ref te), (1, .int (nI kd)), (2, .int (nI ku)), (3, .int (nI hg)), (4, .int (nI jl)), (5, .ref tor), (6, .int (nI 0))] [1, 2, 3, 4, 5, 6, 0] rfl ?_
  exact lp_1 _ 0 no S0 w0 A0 B0 ni fi fo lf nt tf (Nat.lt_succ_self _) (by omega) ⟨hni0, hno⟩ hBo hLB hTB (by rw [Nat.zero_mul]; rfl) (by rw [pth, putL_nil]) (fun i hi => hX0 i hi)

set_option maxHeartbeats 4000000 in
set_option maxRecDepth 100000 in
/-- Trees.leadPath -/
theorem c_leadPath (l : Launch) (g : jG) (te : Nat) (lvl : Nat) (ch : Nat) (hh : Nat) (inr : Nat) (outr : Nat) (zo : Nat) (on : Nat) (sp : Nat) (fm : Nat) (nn : Nat) (ht : Nat) (lys : Nat) (fa : Nat) (mk : Nat) (sdr : Nat) (ly : Nat) (tr : Nat) (sda : Nat) (sd : Nat → Int32) (ina : Nat) (ni : Nat) (fi : Nat → Int32) (outa : Nat) (no : Nat) (fo : Nat → Int32) (sa : Nat) (wa : Nat) (S0 : Nat → Int32) (w0 : Nat → Int32) (aa : Nat) (ba : Nat) (A0 : Nat → Int64) (B0 : Nat → Int64) (fr : Nat) (fra : Nat) (nf : Nat) (fcap : Nat) (ff : Nat → Int32) (rr : Nat) (rra : Nat) (n1 : Nat) (rcap : Nat) (rf : Nat → Int32) (t : Nat) (kd : Nat) (ku : Nat) (hg : Nat) (jl : Nat) (hfm : fm < 2) (hnn : nn ≤ 16) (hB : isB sd) (hno : no ≤ 32) (hBo : isB fo) (hni0 : ni ≤ 768) (hg4 : hg ≤ 4) (hjl : jl < 2 ^ 20) (hn1 : nn ≤ n1) (hn1c : n1 ≤ rcap) (hrc : rcap < 2 ^ 31) (hRB : isB rf) (hnf : nf ≤ fcap) (hfc : fcap < 2 ^ 31) (hFB : isB ff) (hcap : t + hg * nn ≤ nf) : jC l g yX9_leadPath wsX9_leadPath ({ frames := 3, cells := 0, slots := 0, locals := 90 } : Room) [.ref te, .int (nI kd), .int (nI ku), .int (nI hg), .int (nI jl), .ref fr, .int (nI t), .ref rr] [oB te 9 [.ref lvl, .ref sp, .ref hh, .ref ch], oB hh 5 [.ref inr, .ref outr, .ref zo, .ref on, .ref sp, .ref sdr, .int (nI ly), .int (nI tr)], oB sp 8 [.int (nI fm), .int (nI nn), .int (nI ht), .int (nI lys), .int (nI fa), .int (nI mk)], oB sdr 7 [.ref sda, .int (nI 48)], bA g sda 48 sd, oB inr 7 [.ref ina, .int (nI ni)], bA g ina 768 fi, oB outr 7 [.ref outa, .int (nI no)], bA g outa 32 fo, oB zo 4 [.ref sa, .ref wa], iA g sa 8 S0, iA g wa 64 w0, oB on 3 [.ref aa, .ref ba], lA g aa 25 A0, lA g ba 25 B0, oB fr 7 [.ref fra, .int (nI nf)], bA g fra fcap ff, oB rr 7 [.ref rra, .int (nI n1)], bA g rra rcap rf] (fun jj : Nat × (Nat → Int32) × (Nat → Int32) × (Nat → Int64) × (Nat → Int64) × Nat × (Nat → Int32) × (Nat → Int32) × (Nat → Int32) => none) (fun jj : Nat × (Nat → Int32) × (Nat → Int32) × (Nat → Int64) × (Nat → Int64) × Nat × (Nat → Int32) × (Nat → Int32) × (Nat → Int32) => (jj.2.2.2.2.2.1 ≤ 768 ∧ jj.1 ≤ 32) ∧ isB jj.2.2.2.2.2.2.2.1 ∧ isB jj.2.2.2.2.2.2.2.2 ∧ jj.2.2.2.2.2.2.2.2 = putL rf 0 (ldP fm nn sd ly tr kd ku (slice rf 0 nn) ff t jl hg)) (fun jj : Nat × (Nat → Int32) × (Nat → Int32) × (Nat → Int64) × (Nat → Int64) × Nat × (Nat → Int32) × (Nat → Int32) × (Nat → Int32) => [oB te 9 [.ref lvl, .ref sp, .ref hh, .ref ch], oB hh 5 [.ref inr, .ref outr, .ref zo, .ref on, .ref sp, .ref sdr, .int (nI ly), .int (nI tr)], oB sp 8 [.int (nI fm), .int (nI nn), .int (nI ht), .int (nI lys), .int (nI fa), .int (nI mk)], oB sdr 7 [.ref sda, .int (nI 48)], bA g sda 48 sd, oB inr 7 [.ref ina, .int (nI jj.2.2.2.2.2.1)], bA g ina 768 jj.2.2.2.2.2.2.1, oB outr 7 [.ref outa, .int (nI jj.1)], bA g outa 32 jj.2.2.2.2.2.2.2.1, oB zo 4 [.ref sa, .ref wa], iA g sa 8 jj.2.1, iA g wa 64 jj.2.2.1, oB on 3 [.ref aa, .ref ba], lA g aa 25 jj.2.2.2.1, lA g ba 25 jj.2.2.2.2.1, oB fr 7 [.ref fra, .int (nI nf)], bA g fra fcap ff, oB rr 7 [.ref rra, .int (nI n1)], bA g rra rcap jj.2.2.2.2.2.2.2.2]) := by
  refine jC.of (cc := cX9_leadPath) (own := RX9) (maxL := 11) (ret := none) (by decide +kernel) rfl rfl (Nat.le_of_ble_eq_true rfl) (fun u hu => rfl) ?_
  intro p e s m below meth c A Q hX hret
  have in5 : ∀ w ∈ wsX50, w ∈ wsX9_leadPath := (fun w h => List.mem_cons_of_mem _ (List.mem_append_left _ (List.mem_append_left _ (List.mem_append_left _ (List.mem_append_right _ h)))))
  have in8 : ∀ w ∈ wsX80, w ∈ wsX9_leadPath := (fun w h => List.mem_cons_of_mem _ (List.mem_append_left _ (List.mem_append_left _ (List.mem_append_left _ (List.mem_append_left _ (List.mem_append_right _ h))))))
  have in9 : ∀ w ∈ wsX90, w ∈ wsX9_leadPath := (fun w h => List.mem_cons_of_mem _ (List.mem_append_left _ (List.mem_append_left _ (List.mem_append_left _ (List.mem_append_left _ (List.mem_append_left _ (List.mem_append_right _ h)))))))
  have hh2 := hl_le (fm := fm) hnn
  refine j_iconst hX (0) dX9_leadPath_0 (by decide) ?_
  refine j_st [.int (nI 0)] rfl ?_
  refine j_istore hX [(8, .int (nI 0)), (0, .ref te), (1, .int (nI kd)), (2, .int (nI ku)), (3, .int (nI hg)), (4, .int (nI jl)), (5, .ref fr), (6, .int (nI t)), (7, .ref rr)] dX9_leadPath_1 (by decide) rfl ?_
  have lp_1 : ∀ (n_2 : Nat) (z : Nat) (no1 : Nat) (S1 : Nat → Int32) (w1 : Nat → Int32) (A1 : Nat → Int64) (B1 : Nat → Int64) (nl : Nat) (G : Nat → Int32) (FO : Nat → Int32) (R1 : Nat → Int32), (hg - z < n_2) → (z ≤ hg) → (nl ≤ 768 ∧ no1 ≤ 32) → (isB FO) → (isB R1) → (R1 = putL rf 0 (ldP fm nn sd ly tr kd ku (slice rf 0 nn) ff t jl z)) → J p l e ({ frames := 3, cells := 0, slots := 0, locals := 90 } : Room) s m ([.ref te, .int (nI kd), .int (nI ku), .int (nI hg), .int (nI jl), .ref fr, .int (nI t), .ref rr] : List Value).toArray below meth c g A 11 Q 0 0 [oB te 9 [.ref lvl, .ref sp, .ref hh, .ref ch], oB hh 5 [.ref inr, .ref outr, .ref zo, .ref on, .ref sp, .ref sdr, .int (nI ly), .int (nI tr)], oB sp 8 [.int (nI fm), .int (nI nn), .int (nI ht), .int (nI lys), .int (nI fa), .int (nI mk)], oB sdr 7 [.ref sda, .int (nI 48)], bA g sda 48 sd, oB inr 7 [.ref ina, .int (nI nl)], bA g ina 768 G, oB outr 7 [.ref outa, .int (nI no1)], bA g outa 32 FO, oB zo 4 [.ref sa, .ref wa], iA g sa 8 S1, iA g wa 64 w1, oB on 3 [.ref aa, .ref ba], lA g aa 25 A1, lA g ba 25 B1, oB fr 7 [.ref fra, .int (nI nf)], bA g fra fcap ff, oB rr 7 [.ref rra, .int (nI n1)], bA g rra rcap R1] [(0, .ref te), (1, .int (nI kd)), (2, .int (nI ku)), (3, .int (nI hg)), (4, .int (nI jl)), (5, .ref fr), (6, .int (nI t)), (7, .ref rr), (8, .int (nI z))] 3 [] := by
    intro n_2
    induction n_2 with
    | zero => intro z no1 S1 w1 A1 B1 nl G FO R1 hm; exact absurd hm (Nat.not_lt_zero _)
    | succ n_2 ih_3 =>
      intro z no1 S1 w1 A1 B1 nl G FO R1 hm hz hnl hFO hRB1 hO
      refine j_iload hX 8 dX9_leadPath_3 rfl ?_
      refine j_iload_n hX 3 dX9_leadPath_5 rfl ?_
      refine j_icmp_geN hX z hg 157 dX9_leadPath_6 (by decide) (by omega) (by omega) (fun b_6 => ?_) (fun b_6 => ?_)
      · skip
        exact hret (no1, S1, w1, A1, B1, nl, G, FO, R1) (by dsimp only; exact ⟨hnl, hFO, hRB1, by rw [hO, show z = hg by omega]⟩) 157 _ .return_ dX9_leadPath_157 rfl
      · skip
        have hzl : z < hg := by omega
        have hjz : jl / 2 ^ z < 2 ^ 30 := Nat.lt_of_le_of_lt (Nat.div_le_self _ _) (by omega)
        have hzn := mul_step (n := nn) hzl
        refine j_iload hX 4 dX9_leadPath_9 rfl ?_
        refine j_pc 11 rfl ?_
        refine j_iload hX 8 dX9_leadPath_11 rfl ?_
        by_cases hev : jl / 2 ^ z % 2 = 0
        · skip
          refine j_ishrN hX jl z (by omega) (by omega) dX9_leadPath_13 ?_
          refine j_iconst hX (2) dX9_leadPath_14 (by decide) ?_
          refine j_iremN hX (jl / 2 ^ z) 2 (by omega) (by omega) (by omega) dX9_leadPath_15 ?_
          refine j_if_neN hX ((jl / 2 ^ z) % 2) 23 dX9_leadPath_16 (by decide) (by omega) (fun b_16 => absurd b_16 (by omega)) (fun b_16 => ?_)
          refine j_iconst hX (1) dX9_leadPath_19 (by decide) ?_
          refine j_goto hX 24 dX9_leadPath_20 (by decide) ?_
          refine j_st [.int (nI 1)] rfl ?_
          refine j_istore hX [(9, .int (nI 1)), (0, .ref te), (1, .int (nI kd)), (2, .int (nI ku)), (3, .int (nI hg)), (4, .int (nI jl)), (5, .ref fr), (6, .int (nI t)), (7, .ref rr), (8, .int (nI z))] dX9_leadPath_24 (by decide) rfl ?_
          refine j_pc 26 rfl ?_
          refine j_iload hX 7 dX9_leadPath_26 rfl ?_
          refine j_iload hX 9 dX9_leadPath_28 rfl ?_
          refine j_aload_n hX 1 dX9_leadPath_30 rfl ?_
          refine j_get hX in9 9 0 1 (v := .ref sp) rfl rfl (by decide) (List.mem_of_getElem? (i := 1) rfl) rfl rfl dX9_leadPath_31 ?_
          refine j_get hX in8 8 2 1 (v := .int (nI nn)) rfl rfl (by decide) (List.mem_of_getElem? (i := 2) rfl) rfl rfl dX9_leadPath_34 ?_
          refine j_imulN hX z nn dX9_leadPath_37 ?_
          refine j_iaddN hX t (z * nn) dX9_leadPath_38 ?_
          refine j_istore hX [(10, .int (nI (t + (z * nn)))), (9, .int (nI 1)), (0, .ref te), (1, .int (nI kd)), (2, .int (nI ku)), (3, .int (nI hg)), (4, .int (nI jl)), (5, .ref fr), (6, .int (nI t)), (7, .ref rr), (8, .int (nI z))] dX9_leadPath_39 (by decide) rfl ?_
          refine j_pc 41 rfl ?_
          refine j_aload_n hX 2 dX9_leadPath_41 rfl ?_
          refine j_get hX in9 9 0 2 (v := .ref hh) rfl rfl (by decide) (List.mem_of_getElem? (i := 3) rfl) rfl rfl dX9_leadPath_42 ?_
          refine j_iload_n hX 3 dX9_leadPath_45 rfl ?_
          refine j_iload_n hX 4 dX9_leadPath_46 rfl ?_
          refine j_iload hX 10 dX9_leadPath_47 rfl ?_
          refine j_iconst hX (1) dX9_leadPath_49 (by decide) ?_
          refine j_iaddN hX z 1 dX9_leadPath_50 ?_
          refine j_iload hX 6 dX9_leadPath_51 rfl ?_
          refine j_pc 53 rfl ?_
          refine j_iload hX 10 dX9_leadPath_53 rfl ?_
          refine j_iconst hX (1) dX9_leadPath_55 (by decide) ?_
          refine j_iaddN hX z 1 dX9_leadPath_56 ?_
          refine j_ishrN hX jl (z + 1) (by omega) (by omega) dX9_leadPath_57 ?_
          refine j_callV2 hX 4 (c_start l g hh inr outr zo on sp fm nn ht lys fa mk sdr ly tr sda sd ina nl G kd ku (z + 1) (jl / 2 ^ (z + 1)) (by omega) (by omega) hB) gX9_leadPath_X5_start (by decide +kernel) rfl ⟨rfl, rfl⟩ ⟨Nat.le_of_ble_eq_true rfl, Nat.le_of_ble_eq_true rfl⟩ 5 1 rfl rfl [1, 2, 3, 4, 5, 6] [0, 7, 8, 9, 10, 11, 12, 13, 14, 15, 16, 17, 18] 19 rfl (by decide) (fun jj : (Nat → Int32) => [oB te 9 [.ref lvl, .ref sp, .ref hh, .ref ch], oB hh 5 [.ref inr, .ref outr, .ref zo, .ref on, .ref sp, .ref sdr, .int (nI ly), .int (nI tr)], oB sp 8 [.int (nI fm), .int (nI nn), .int (nI ht), .int (nI lys), .int (nI fa), .int (nI mk)], oB sdr 7 [.ref sda, .int (nI 48)], bA g sda 48 sd, oB inr 7 [.ref ina, .int (nI (hl fm nn))], bA g ina 768 jj, oB outr 7 [.ref outa, .int (nI no1)], bA g outa 32 FO, oB zo 4 [.ref sa, .ref wa], iA g sa 8 S1, iA g wa 64 w1, oB on 3 [.ref aa, .ref ba], lA g aa 25 A1, lA g ba 25 B1, oB fr 7 [.ref fra, .int (nI nf)], bA g fra fcap ff, oB rr 7 [.ref rra, .int (nI n1)], bA g rra rcap R1]) (fun _ => rfl) (by decide) [te, hh, sp, sdr, sda, inr, ina, outr, outa, zo, sa, wa, on, aa, ba, fr, fra, rr, rra] rfl (fun _ => rfl) (fun _ => rfl) [oB te 9 [.ref lvl, .ref sp, .ref hh, .ref ch], oB outr 7 [.ref outa, .int (nI no1)], bA g outa 32 FO, oB zo 4 [.ref sa, .ref wa], iA g sa 8 S1, iA g wa 64 w1, oB on 3 [.ref aa, .ref ba], lA g aa 25 A1, lA g ba 25 B1, oB fr 7 [.ref fra, .int (nI nf)], bA g fra fcap ff, oB rr 7 [.ref rra, .int (nI n1)], bA g rra rcap R1] rfl (fun _ => rfl) rfl [] rfl (Nat.le_of_ble_eq_true rfl) ⟨Nat.le_refl _, Nat.le_refl _⟩ dX9_leadPath_58 ?_
          intro F1 hF1
          try dsimp only at hF1
          refine j_w [oB te 9 [.ref lvl, .ref sp, .ref hh, .ref ch], oB hh 5 [.ref inr, .ref outr, .ref zo, .ref on, .ref sp, .ref sdr, .int (nI ly), .int (nI tr)], oB sp 8 [.int (nI fm), .int (nI nn), .int (nI ht), .int (nI lys), .int (nI fa), .int (nI mk)], oB sdr 7 [.ref sda, .int (nI 48)], bA g sda 48 sd, oB inr 7 [.ref ina, .int (nI (hl fm nn))], bA g ina 768 F1, oB outr 7 [.ref outa, .int (nI no1)], bA g outa 32 FO, oB zo 4 [.ref sa, .ref wa], iA g sa 8 S1, iA g wa 64 w1, oB on 3 [.ref aa, .ref ba], lA g aa 25 A1, lA g ba 25 B1, oB fr 7 [.ref fra, .int (nI nf)], bA g fra fcap ff, oB rr 7 [.ref rra, .int (nI n1)], bA g rra rcap R1] rfl ?_
          refine j_st [] rfl ?_
          refine j_aload_n hX 2 dX9_leadPath_61 rfl ?_
          refine j_get hX in9 9 0 2 (v := .ref hh) rfl rfl (by decide) (List.mem_of_getElem? (i := 3) rfl) rfl rfl dX9_leadPath_62 ?_
          refine j_get hX in5 5 1 0 (v := .ref inr) rfl rfl (by decide) (List.mem_of_getElem? (i := 4) rfl) rfl rfl dX9_leadPath_65 ?_
          refine j_pc 68 rfl ?_
          refine j_iload hX 1 dX9_leadPath_68 rfl ?_
          refine j_if_eqN hX 1 78 dX9_leadPath_70 (by decide) (by omega) (fun b_70 => absurd b_70 (by omega)) (fun b_70 => ?_)
          refine j_aload hX 9 dX9_leadPath_73 rfl ?_
          refine j_goto hX 80 dX9_leadPath_75 (by decide) ?_
          refine j_iload hX 1 dX9_leadPath_80 rfl ?_
          refine j_if_eqN hX 1 89 dX9_leadPath_82 (by decide) (by omega) (fun b_82 => absurd b_82 (by omega)) (fun b_82 => ?_)
          refine j_iconst hX (0) dX9_leadPath_85 (by decide) ?_
          refine j_goto hX 91 dX9_leadPath_86 (by decide) ?_
          refine j_pc 91 rfl ?_
          refine j_aload_n hX 2 dX9_leadPath_91 rfl ?_
          refine j_get hX in9 9 0 1 (v := .ref sp) rfl rfl (by decide) (List.mem_of_getElem? (i := 1) rfl) rfl rfl dX9_leadPath_92 ?_
          refine j_get hX in8 8 2 1 (v := .int (nI nn)) rfl rfl (by decide) (List.mem_of_getElem? (i := 2) rfl) rfl rfl dX9_leadPath_95 ?_
          refine j_callV2 hX 3 (c_add l g inr ina (hl fm nn) 768 F1 rr rra n1 rcap R1 0 nn (by omega) (by omega) (by omega) (by omega) hRB1 (by omega) (by omega)) gX9_leadPath_X7_add (by decide +kernel) rfl ⟨rfl, rfl⟩ ⟨Nat.le_of_ble_eq_true rfl, Nat.le_of_ble_eq_true rfl⟩ 7 5 rfl rfl [5, 6, 17, 18] [0, 1, 2, 3, 4, 7, 8, 9, 10, 11, 12, 13, 14, 15, 16] 19 rfl (by decide) (fun jj : (Nat → Int32) => [oB te 9 [.ref lvl, .ref sp, .ref hh, .ref ch], oB hh 5 [.ref inr, .ref outr, .ref zo, .ref on, .ref sp, .ref sdr, .int (nI ly), .int (nI tr)], oB sp 8 [.int (nI fm), .int (nI nn), .int (nI ht), .int (nI lys), .int (nI fa), .int (nI mk)], oB sdr 7 [.ref sda, .int (nI 48)], bA g sda 48 sd, oB inr 7 [.ref ina, .int (nI ((hl fm nn) + nn))], bA g ina 768 jj, oB outr 7 [.ref outa, .int (nI no1)], bA g outa 32 FO, oB zo 4 [.ref sa, .ref wa], iA g sa 8 S1, iA g wa 64 w1, oB on 3 [.ref aa, .ref ba], lA g aa 25 A1, lA g ba 25 B1, oB fr 7 [.ref fra, .int (nI nf)], bA g fra fcap ff, oB rr 7 [.ref rra, .int (nI n1)], bA g rra rcap R1]) (fun _ => rfl) (by decide) [te, hh, sp, sdr, sda, inr, ina, outr, outa, zo, sa, wa, on, aa, ba, fr, fra, rr, rra] rfl (fun _ => rfl) (fun _ => rfl) [oB te 9 [.ref lvl, .ref sp, .ref hh, .ref ch], oB hh 5 [.ref inr, .ref outr, .ref zo, .ref on, .ref sp, .ref sdr, .int (nI ly), .int (nI tr)], oB sp 8 [.int (nI fm), .int (nI nn), .int (nI ht), .int (nI lys), .int (nI fa), .int (nI mk)], oB sdr 7 [.ref sda, .int (nI 48)], bA g sda 48 sd, oB outr 7 [.ref outa, .int (nI no1)], bA g outa 32 FO, oB zo 4 [.ref sa, .ref wa], iA g sa 8 S1, iA g wa 64 w1, oB on 3 [.ref aa, .ref ba], lA g aa 25 A1, lA g ba 25 B1, oB fr 7 [.ref fra, .int (nI nf)], bA g fra fcap ff] rfl (fun _ => rfl) rfl [] rfl (Nat.le_of_ble_eq_true rfl) ⟨Nat.le_refl _, Nat.le_refl _⟩ dX9_leadPath_98 ?_
          intro F2 hF2
          try dsimp only at hF2
          refine j_w [oB te 9 [.ref lvl, .ref sp, .ref hh, .ref ch], oB hh 5 [.ref inr, .ref outr, .ref zo, .ref on, .ref sp, .ref sdr, .int (nI ly), .int (nI tr)], oB sp 8 [.int (nI fm), .int (nI nn), .int (nI ht), .int (nI lys), .int (nI fa), .int (nI mk)], oB sdr 7 [.ref sda, .int (nI 48)], bA g sda 48 sd, oB inr 7 [.ref ina, .int (nI ((hl fm nn) + nn))], bA g ina 768 F2, oB outr 7 [.ref outa, .int (nI no1)], bA g outa 32 FO, oB zo 4 [.ref sa, .ref wa], iA g sa 8 S1, iA g wa 64 w1, oB on 3 [.ref aa, .ref ba], lA g aa 25 A1, lA g ba 25 B1, oB fr 7 [.ref fra, .int (nI nf)], bA g fra fcap ff, oB rr 7 [.ref rra, .int (nI n1)], bA g rra rcap R1] rfl ?_
          refine j_st [] rfl ?_
          refine j_aload_n hX 2 dX9_leadPath_101 rfl ?_
          refine j_get hX in9 9 0 2 (v := .ref hh) rfl rfl (by decide) (List.mem_of_getElem? (i := 3) rfl) rfl rfl dX9_leadPath_102 ?_
          refine j_get hX in5 5 1 0 (v := .ref inr) rfl rfl (by decide) (List.mem_of_getElem? (i := 4) rfl) rfl rfl dX9_leadPath_105 ?_
          refine j_iload hX 1 dX9_leadPath_108 rfl ?_
          refine j_pc 110 rfl ?_
          refine j_if_eqN hX 1 118 dX9_leadPath_110 (by decide) (by omega) (fun b_110 => absurd b_110 (by omega)) (fun b_110 => ?_)
          refine j_aload hX 7 dX9_leadPath_113 rfl ?_
          refine j_goto hX 120 dX9_leadPath_115 (by decide) ?_
          refine j_iload hX 1 dX9_leadPath_120 rfl ?_
          refine j_if_eqN hX 1 130 dX9_leadPath_122 (by decide) (by omega) (fun b_122 => absurd b_122 (by omega)) (fun b_122 => ?_)
          refine j_iload hX 0 dX9_leadPath_125 rfl ?_
          refine j_goto hX 131 dX9_leadPath_127 (by decide) ?_
          refine j_aload_n hX 2 dX9_leadPath_131 rfl ?_
          refine j_pc 132 rfl ?_
          refine j_get hX in9 9 0 1 (v := .ref sp) rfl rfl (by decide) (List.mem_of_getElem? (i := 1) rfl) rfl rfl dX9_leadPath_132 ?_
          refine j_get hX in8 8 2 1 (v := .int (nI nn)) rfl rfl (by decide) (List.mem_of_getElem? (i := 2) rfl) rfl rfl dX9_leadPath_135 ?_
          refine j_callV2 hX 3 (c_add l g inr ina ((hl fm nn) + nn) 768 F2 fr fra nf fcap ff (t + (z * nn)) nn (by omega) (by omega) (by omega) (by omega) hFB (by omega) (by omega)) gX9_leadPath_X7_add (by decide +kernel) rfl ⟨rfl, rfl⟩ ⟨Nat.le_of_ble_eq_true rfl, Nat.le_of_ble_eq_true rfl⟩ 7 5 rfl rfl [5, 6, 15, 16] [0, 1, 2, 3, 4, 7, 8, 9, 10, 11, 12, 13, 14, 17, 18] 19 rfl (by decide) (fun jj : (Nat → Int32) => [oB te 9 [.ref lvl, .ref sp, .ref hh, .ref ch], oB hh 5 [.ref inr, .ref outr, .ref zo, .ref on, .ref sp, .ref sdr, .int (nI ly), .int (nI tr)], oB sp 8 [.int (nI fm), .int (nI nn), .int (nI ht), .int (nI lys), .int (nI fa), .int (nI mk)], oB sdr 7 [.ref sda, .int (nI 48)], bA g sda 48 sd, oB inr 7 [.ref ina, .int (nI (((hl fm nn) + nn) + nn))], bA g ina 768 jj, oB outr 7 [.ref outa, .int (nI no1)], bA g outa 32 FO, oB zo 4 [.ref sa, .ref wa], iA g sa 8 S1, iA g wa 64 w1, oB on 3 [.ref aa, .ref ba], lA g aa 25 A1, lA g ba 25 B1, oB fr 7 [.ref fra, .int (nI nf)], bA g fra fcap ff, oB rr 7 [.ref rra, .int (nI n1)], bA g rra rcap R1]) (fun _ => rfl) (by decide) [te, hh, sp, sdr, sda, inr, ina, outr, outa, zo, sa, wa, on, aa, ba, fr, fra, rr, rra] rfl (fun _ => rfl) (fun _ => rfl) [oB te 9 [.ref lvl, .ref sp, .ref hh, .ref ch], oB hh 5 [.ref inr, .ref outr, .ref zo, .ref on, .ref sp, .ref sdr, .int (nI ly), .int (nI tr)], oB sp 8 [.int (nI fm), .int (nI nn), .int (nI ht), .int (nI lys), .int (nI fa), .int (nI mk)], oB sdr 7 [.ref sda, .int (nI 48)], bA g sda 48 sd, oB outr 7 [.ref outa, .int (nI no1)], bA g outa 32 FO, oB zo 4 [.ref sa, .ref wa], iA g sa 8 S1, iA g wa 64 w1, oB on 3 [.ref aa, .ref ba], lA g aa 25 A1, lA g ba 25 B1, oB rr 7 [.ref rra, .int (nI n1)], bA g rra rcap R1] rfl (fun _ => rfl) rfl [] rfl (Nat.le_of_ble_eq_true rfl) ⟨Nat.le_refl _, Nat.le_refl _⟩ dX9_leadPath_138 ?_
          intro F3 hF3
          try dsimp only at hF3
          refine j_w [oB te 9 [.ref lvl, .ref sp, .ref hh, .ref ch], oB hh 5 [.ref inr, .ref outr, .ref zo, .ref on, .ref sp, .ref sdr, .int (nI ly), .int (nI tr)], oB sp 8 [.int (nI fm), .int (nI nn), .int (nI ht), .int (nI lys), .int (nI fa), .int (nI mk)], oB sdr 7 [.ref sda, .int (nI 48)], bA g sda 48 sd, oB inr 7 [.ref ina, .int (nI (((hl fm nn) + nn) + nn))], bA g ina 768 F3, oB outr 7 [.ref outa, .int (nI no1)], bA g outa 32 FO, oB zo 4 [.ref sa, .ref wa], iA g sa 8 S1, iA g wa 64 w1, oB on 3 [.ref aa, .ref ba], lA g aa 25 A1, lA g ba 25 B1, oB fr 7 [.ref fra, .int (nI nf)], bA g fra fcap ff, oB rr 7 [.ref rra, .int (nI n1)], bA g rra rcap R1] rfl ?_
          refine j_st [] rfl ?_
          refine j_aload_n hX 2 dX9_leadPath_141 rfl ?_
          refine j_get hX in9 9 0 2 (v := .ref hh) rfl rfl (by decide) (List.mem_of_getElem? (i := 3) rfl) rfl rfl dX9_leadPath_142 ?_
          refine j_aload hX 9 dX9_leadPath_145 rfl ?_
          refine j_iconst hX (0) dX9_leadPath_147 (by decide) ?_
          refine j_callV2 hX 2 (c_finish l g hh inr outr zo on sp fm nn ht lys fa mk sdr ly tr ina (((hl fm nn) + nn) + nn) F3 outa no1 FO sa wa S1 w1 aa ba A1 B1 rr rra n1 rcap R1 0 (by omega) (by omega) (by omega) (by omega) hnl.2 hFO (by omega) (by omega) (by omega) (by omega)) gX9_leadPath_X5_finish (by decide +kernel) rfl ⟨rfl, rfl⟩ ⟨Nat.le_of_ble_eq_true rfl, Nat.le_of_ble_eq_true rfl⟩ 5 1 rfl rfl [1, 2, 5, 6, 7, 8, 9, 10, 11, 12, 13, 14, 17, 18] [0, 3, 4, 15, 16] 19 rfl (by decide) (fun jj : (Nat → Int32) × (Nat → Int32) × (Nat → Int64) × (Nat → Int64) × Nat × (Nat → Int32) × (Nat → Int32) × (Nat → Int32) => [oB te 9 [.ref lvl, .ref sp, .ref hh, .ref ch], oB hh 5 [.ref inr, .ref outr, .ref zo, .ref on, .ref sp, .ref sdr, .int (nI ly), .int (nI tr)], oB sp 8 [.int (nI fm), .int (nI nn), .int (nI ht), .int (nI lys), .int (nI fa), .int (nI mk)], oB sdr 7 [.ref sda, .int (nI 48)], bA g sda 48 sd, oB inr 7 [.ref ina, .int (nI jj.2.2.2.2.1)], bA g ina 768 jj.2.2.2.2.2.1, oB outr 7 [.ref outa, .int (nI 32)], bA g outa 32 jj.2.2.2.2.2.2.1, oB zo 4 [.ref sa, .ref wa], iA g sa 8 jj.1, iA g wa 64 jj.2.1, oB on 3 [.ref aa, .ref ba], lA g aa 25 jj.2.2.1, lA g ba 25 jj.2.2.2.1, oB fr 7 [.ref fra, .int (nI nf)], bA g fra fcap ff, oB rr 7 [.ref rra, .int (nI (max n1 (0 + nn)))], bA g rra rcap jj.2.2.2.2.2.2.2]) (fun _ => rfl) (by decide) [te, hh, sp, sdr, sda, inr, ina, outr, outa, zo, sa, wa, on, aa, ba, fr, fra, rr, rra] rfl (fun _ => rfl) (fun _ => rfl) [oB te 9 [.ref lvl, .ref sp, .ref hh, .ref ch], oB sdr 7 [.ref sda, .int (nI 48)], bA g sda 48 sd, oB fr 7 [.ref fra, .int (nI nf)], bA g fra fcap ff] rfl (fun _ => rfl) rfl [] rfl (Nat.le_of_ble_eq_true rfl) ⟨Nat.le_refl _, Nat.le_refl _⟩ dX9_leadPath_148 ?_
          rintro ⟨S7, w7, A7, B7, nl7, G7, FO7, TO7⟩ hE
          try dsimp only at hE
          refine j_w [oB te 9 [.ref lvl, .ref sp, .ref hh, .ref ch], oB hh 5 [.ref inr, .ref outr, .ref zo, .ref on, .ref sp, .ref sdr, .int (nI ly), .int (nI tr)], oB sp 8 [.int (nI fm), .int (nI nn), .int (nI ht), .int (nI lys), .int (nI fa), .int (nI mk)], oB sdr 7 [.ref sda, .int (nI 48)], bA g sda 48 sd, oB inr 7 [.ref ina, .int (nI nl7)], bA g ina 768 G7, oB outr 7 [.ref outa, .int (nI 32)], bA g outa 32 FO7, oB zo 4 [.ref sa, .ref wa], iA g sa 8 S7, iA g wa 64 w7, oB on 3 [.ref aa, .ref ba], lA g aa 25 A7, lA g ba 25 B7, oB fr 7 [.ref fra, .int (nI nf)], bA g fra fcap ff, oB rr 7 [.ref rra, .int (nI (max n1 (0 + nn)))], bA g rra rcap TO7] rfl ?_
          refine j_st [] rfl ?_
          have hdl := hd_length (fm := fm) (n := nn) (by omega) sd ly tr kd ku (z + 1) (jl / 2 ^ (z + 1))
          rw [hF3, hF2, hF1, putL_app' (by first | (simp only [List.length_append, slice_length, hdl]; omega) | simp only [List.length_append, slice_length, hdl]), putL_app' (by first | (simp only [List.length_append, slice_length, hdl]; omega) | simp only [List.length_append, slice_length, hdl]), slice_put (by first | (simp only [List.length_append, slice_length, hdl]; omega) | simp only [List.length_append, slice_length, hdl])] at hE
          have hO2 := ldP_even hnn (slice_length rf 0 nn) hev hO hE.2.2
          refine j_w [oB te 9 [.ref lvl, .ref sp, .ref hh, .ref ch], oB hh 5 [.ref inr, .ref outr, .ref zo, .ref on, .ref sp, .ref sdr, .int (nI ly), .int (nI tr)], oB sp 8 [.int (nI fm), .int (nI nn), .int (nI ht), .int (nI lys), .int (nI fa), .int (nI mk)], oB sdr 7 [.ref sda, .int (nI 48)], bA g sda 48 sd, oB inr 7 [.ref ina, .int (nI nl7)], bA g ina 768 G7, oB outr 7 [.ref outa, .int (nI 32)], bA g outa 32 FO7, oB zo 4 [.ref sa, .ref wa], iA g sa 8 S7, iA g wa 64 w7, oB on 3 [.ref aa, .ref ba], lA g aa 25 A7, lA g ba 25 B7, oB fr 7 [.ref fra, .int (nI nf)], bA g fra fcap ff, oB rr 7 [.ref rra, .int (nI n1)], bA g rra rcap TO7] (by rw [show max n1 (0 + nn) = n1 by omega]) ?_
          refine j_pc 151 rfl ?_
          refine j_iincN hX z (z + 1) [(8, .int (nI (z + 1))), (10, .int (nI (t + (z * nn)))), (9, .int (nI 1)), (0, .ref te), (1, .int (nI kd)), (2, .int (nI ku)), (3, .int (nI hg)), (4, .int (nI jl)), (5, .ref fr), (6, .int (nI t)), (7, .ref rr)] 10 dX9_leadPath_151 rfl (nI_1 _) (by decide) rfl ?_
          refine j_goto hX 3 dX9_leadPath_154 (by decide) ?_
          refine j_perm [(0, .ref te), (1, .int (nI kd)), (2, .int (nI ku)), (3, .int (nI hg)), (4, .int (nI jl)), (5, .ref fr), (6, .int (nI t)), (7, .ref rr), (8, .int (nI (z + 1)))] [3, 4, 5, 6, 7, 8, 9, 10, 0] rfl ?_
          exact ih_3 (z + 1) 32 S7 w7 A7 B7 nl7 G7 FO7 TO7 (by omega) (by omega) ⟨hE.1, Nat.le_refl _⟩ hE.2.1 (by rw [hE.2.2]; exact putL_B hRB1 (TT_B _ _ _ _ _ _ _ _ _ _)) hO2
        · skip
          refine j_ishrN hX jl z (by omega) (by omega) dX9_leadPath_13 ?_
          refine j_iconst hX (2) dX9_leadPath_14 (by decide) ?_
          refine j_iremN hX (jl / 2 ^ z) 2 (by omega) (by omega) (by omega) dX9_leadPath_15 ?_
          refine j_if_neN hX ((jl / 2 ^ z) % 2) 23 dX9_leadPath_16 (by decide) (by omega) (fun b_16 => ?_) (fun b_16 => absurd b_16 (by omega))
          refine j_iconst hX (0) dX9_leadPath_23 (by decide) ?_
          refine j_st [.int (nI 0)] rfl ?_
          refine j_istore hX [(9, .int (nI 0)), (0, .ref te), (1, .int (nI kd)), (2, .int (nI ku)), (3, .int (nI hg)), (4, .int (nI jl)), (5, .ref fr), (6, .int (nI t)), (7, .ref rr), (8, .int (nI z))] dX9_leadPath_24 (by decide) rfl ?_
          refine j_pc 26 rfl ?_
          refine j_iload hX 7 dX9_leadPath_26 rfl ?_
          refine j_iload hX 9 dX9_leadPath_28 rfl ?_
          refine j_aload_n hX 1 dX9_leadPath_30 rfl ?_
          refine j_get hX in9 9 0 1 (v := .ref sp) rfl rfl (by decide) (List.mem_of_getElem? (i := 1) rfl) rfl rfl dX9_leadPath_31 ?_
          refine j_get hX in8 8 2 1 (v := .int (nI nn)) rfl rfl (by decide) (List.mem_of_getElem? (i := 2) rfl) rfl rfl dX9_leadPath_34 ?_
          refine j_imulN hX z nn dX9_leadPath_37 ?_
          refine j_iaddN hX t (z * nn) dX9_leadPath_38 ?_
          refine j_istore hX [(10, .int (nI (t + (z * nn)))), (9, .int (nI 0)), (0, .ref te), (1, .int (nI kd)), (2, .int (nI ku)), (3, .int (nI hg)), (4, .int (nI jl)), (5, .ref fr), (6, .int (nI t)), (7, .ref rr), (8, .int (nI z))] dX9_leadPath_39 (by decide) rfl ?_
          refine j_pc 41 rfl ?_
          refine j_aload_n hX 2 dX9_leadPath_41 rfl ?_
          refine j_get hX in9 9 0 2 (v := .ref hh) rfl rfl (by decide) (List.mem_of_getElem? (i := 3) rfl) rfl rfl dX9_leadPath_42 ?_
          refine j_iload_n hX 3 dX9_leadPath_45 rfl ?_
          refine j_iload_n hX 4 dX9_leadPath_46 rfl ?_
          refine j_iload hX 10 dX9_leadPath_47 rfl ?_
          refine j_iconst hX (1) dX9_leadPath_49 (by decide) ?_
          refine j_iaddN hX z 1 dX9_leadPath_50 ?_
          refine j_iload hX 6 dX9_leadPath_51 rfl ?_
          refine j_pc 53 rfl ?_
          refine j_iload hX 10 dX9_leadPath_53 rfl ?_
          refine j_iconst hX (1) dX9_leadPath_55 (by decide) ?_
          refine j_iaddN hX z 1 dX9_leadPath_56 ?_
          refine j_ishrN hX jl (z + 1) (by omega) (by omega) dX9_leadPath_57 ?_
          refine j_callV2 hX 4 (c_start l g hh inr outr zo on sp fm nn ht lys fa mk sdr ly tr sda sd ina nl G kd ku (z + 1) (jl / 2 ^ (z + 1)) (by omega) (by omega) hB) gX9_leadPath_X5_start (by decide +kernel) rfl ⟨rfl, rfl⟩ ⟨Nat.le_of_ble_eq_true rfl, Nat.le_of_ble_eq_true rfl⟩ 5 1 rfl rfl [1, 2, 3, 4, 5, 6] [0, 7, 8, 9, 10, 11, 12, 13, 14, 15, 16, 17, 18] 19 rfl (by decide) (fun jj : (Nat → Int32) => [oB te 9 [.ref lvl, .ref sp, .ref hh, .ref ch], oB hh 5 [.ref inr, .ref outr, .ref zo, .ref on, .ref sp, .ref sdr, .int (nI ly), .int (nI tr)], oB sp 8 [.int (nI fm), .int (nI nn), .int (nI ht), .int (nI lys), .int (nI fa), .int (nI mk)], oB sdr 7 [.ref sda, .int (nI 48)], bA g sda 48 sd, oB inr 7 [.ref ina, .int (nI (hl fm nn))], bA g ina 768 jj, oB outr 7 [.ref outa, .int (nI no1)], bA g outa 32 FO, oB zo 4 [.ref sa, .ref wa], iA g sa 8 S1, iA g wa 64 w1, oB on 3 [.ref aa, .ref ba], lA g aa 25 A1, lA g ba 25 B1, oB fr 7 [.ref fra, .int (nI nf)], bA g fra fcap ff, oB rr 7 [.ref rra, .int (nI n1)], bA g rra rcap R1]) (fun _ => rfl) (by decide) [te, hh, sp, sdr, sda, inr, ina, outr, outa, zo, sa, wa, on, aa, ba, fr, fra, rr, rra] rfl (fun _ => rfl) (fun _ => rfl) [oB te 9 [.ref lvl, .ref sp, .ref hh, .ref ch], oB outr 7 [.ref outa, .int (nI no1)], bA g outa 32 FO, oB zo 4 [.ref sa, .ref wa], iA g sa 8 S1, iA g wa 64 w1, oB on 3 [.ref aa, .ref ba], lA g aa 25 A1, lA g ba 25 B1, oB fr 7 [.ref fra, .int (nI nf)], bA g fra fcap ff, oB rr 7 [.ref rra, .int (nI n1)], bA g rra rcap R1] rfl (fun _ => rfl) rfl [] rfl (Nat.le_of_ble_eq_true rfl) ⟨Nat.le_refl _, Nat.le_refl _⟩ dX9_leadPath_58 ?_
          intro F1 hF1
          try dsimp only at hF1
          refine j_w [oB te 9 [.ref lvl, .ref sp, .ref hh, .ref ch], oB hh 5 [.ref inr, .ref outr, .ref zo, .ref on, .ref sp, .ref sdr, .int (nI ly), .int (nI tr)], oB sp 8 [.int (nI fm), .int (nI nn), .int (nI ht), .int (nI lys), .int (nI fa), .int (nI mk)], oB sdr 7 [.ref sda, .int (nI 48)], bA g sda 48 sd, oB inr 7 [.ref ina, .int (nI (hl fm nn))], bA g ina 768 F1, oB outr 7 [.ref outa, .int (nI no1)], bA g outa 32 FO, oB zo 4 [.ref sa, .ref wa], iA g sa 8 S1, iA g wa 64 w1, oB on 3 [.ref aa, .ref ba], lA g aa 25 A1, lA g ba 25 B1, oB fr 7 [.ref fra, .int (nI nf)], bA g fra fcap ff, oB rr 7 [.ref rra, .int (nI n1)], bA g rra rcap R1] rfl ?_
          refine j_st [] rfl ?_
          refine j_aload_n hX 2 dX9_leadPath_61 rfl ?_
          refine j_get hX in9 9 0 2 (v := .ref hh) rfl rfl (by decide) (List.mem_of_getElem? (i := 3) rfl) rfl rfl dX9_leadPath_62 ?_
          refine j_get hX in5 5 1 0 (v := .ref inr) rfl rfl (by decide) (List.mem_of_getElem? (i := 4) rfl) rfl rfl dX9_leadPath_65 ?_
          refine j_pc 68 rfl ?_
          refine j_iload hX 1 dX9_leadPath_68 rfl ?_
          refine j_if_eqN hX 0 78 dX9_leadPath_70 (by decide) (by omega) (fun b_70 => ?_) (fun b_70 => absurd b_70 (by omega))
          refine j_aload hX 7 dX9_leadPath_78 rfl ?_
          refine j_iload hX 1 dX9_leadPath_80 rfl ?_
          refine j_if_eqN hX 0 89 dX9_leadPath_82 (by decide) (by omega) (fun b_82 => ?_) (fun b_82 => absurd b_82 (by omega))
          refine j_iload hX 0 dX9_leadPath_89 rfl ?_
          refine j_aload_n hX 2 dX9_leadPath_91 rfl ?_
          refine j_get hX in9 9 0 1 (v := .ref sp) rfl rfl (by decide) (List.mem_of_getElem? (i := 1) rfl) rfl rfl dX9_leadPath_92 ?_
          refine j_pc 95 rfl ?_
          refine j_get hX in8 8 2 1 (v := .int (nI nn)) rfl rfl (by decide) (List.mem_of_getElem? (i := 2) rfl) rfl rfl dX9_leadPath_95 ?_
          refine j_callV2 hX 3 (c_add l g inr ina (hl fm nn) 768 F1 fr fra nf fcap ff (t + (z * nn)) nn (by omega) (by omega) (by omega) (by omega) hFB (by omega) (by omega)) gX9_leadPath_X7_add (by decide +kernel) rfl ⟨rfl, rfl⟩ ⟨Nat.le_of_ble_eq_true rfl, Nat.le_of_ble_eq_true rfl⟩ 7 5 rfl rfl [5, 6, 15, 16] [0, 1, 2, 3, 4, 7, 8, 9, 10, 11, 12, 13, 14, 17, 18] 19 rfl (by decide) (fun jj : (Nat → Int32) => [oB te 9 [.ref lvl, .ref sp, .ref hh, .ref ch], oB hh 5 [.ref inr, .ref outr, .ref zo, .ref on, .ref sp, .ref sdr, .int (nI ly), .int (nI tr)], oB sp 8 [.int (nI fm), .int (nI nn), .int (nI ht), .int (nI lys), .int (nI fa), .int (nI mk)], oB sdr 7 [.ref sda, .int (nI 48)], bA g sda 48 sd, oB inr 7 [.ref ina, .int (nI ((hl fm nn) + nn))], bA g ina 768 jj, oB outr 7 [.ref outa, .int (nI no1)], bA g outa 32 FO, oB zo 4 [.ref sa, .ref wa], iA g sa 8 S1, iA g wa 64 w1, oB on 3 [.ref aa, .ref ba], lA g aa 25 A1, lA g ba 25 B1, oB fr 7 [.ref fra, .int (nI nf)], bA g fra fcap ff, oB rr 7 [.ref rra, .int (nI n1)], bA g rra rcap R1]) (fun _ => rfl) (by decide) [te, hh, sp, sdr, sda, inr, ina, outr, outa, zo, sa, wa, on, aa, ba, fr, fra, rr, rra] rfl (fun _ => rfl) (fun _ => rfl) [oB te 9 [.ref lvl, .ref sp, .ref hh, .ref ch], oB hh 5 [.ref inr, .ref outr, .ref zo, .ref on, .ref sp, .ref sdr, .int (nI ly), .int (nI tr)], oB sp 8 [.int (nI fm), .int (nI nn), .int (nI ht), .int (nI lys), .int (nI fa), .int (nI mk)], oB sdr 7 [.ref sda, .int (nI 48)], bA g sda 48 sd, oB outr 7 [.ref outa, .int (nI no1)], bA g outa 32 FO, oB zo 4 [.ref sa, .ref wa], iA g sa 8 S1, iA g wa 64 w1, oB on 3 [.ref aa, .ref ba], lA g aa 25 A1, lA g ba 25 B1, oB rr 7 [.ref rra, .int (nI n1)], bA g rra rcap R1] rfl (fun _ => rfl) rfl [] rfl (Nat.le_of_ble_eq_true rfl) ⟨Nat.le_refl _, Nat.le_refl _⟩ dX9_leadPath_98 ?_
          intro F2 hF2
          try dsimp only at hF2
          refine j_w [oB te 9 [.ref lvl, .ref sp, .ref hh, .ref ch], oB hh 5 [.ref inr, .ref outr, .ref zo, .ref on, .ref sp, .ref sdr, .int (nI ly), .int (nI tr)], oB sp 8 [.int (nI fm), .int (nI nn), .int (nI ht), .int (nI lys), .int (nI fa), .int (nI mk)], oB sdr 7 [.ref sda, .int (nI 48)], bA g sda 48 sd, oB inr 7 [.ref ina, .int (nI ((hl fm nn) + nn))], bA g ina 768 F2, oB outr 7 [.ref outa, .int (nI no1)], bA g outa 32 FO, oB zo 4 [.ref sa, .ref wa], iA g sa 8 S1, iA g wa 64 w1, oB on 3 [.ref aa, .ref ba], lA g aa 25 A1, lA g ba 25 B1, oB fr 7 [.ref fra, .int (nI nf)], bA g fra fcap ff, oB rr 7 [.ref rra, .int (nI n1)], bA g rra rcap R1] rfl ?_
          refine j_st [] rfl ?_
          refine j_aload_n hX 2 dX9_leadPath_101 rfl ?_
          refine j_get hX in9 9 0 2 (v := .ref hh) rfl rfl (by decide) (List.mem_of_getElem? (i := 3) rfl) rfl rfl dX9_leadPath_102 ?_
          refine j_get hX in5 5 1 0 (v := .ref inr) rfl rfl (by decide) (List.mem_of_getElem? (i := 4) rfl) rfl rfl dX9_leadPath_105 ?_
          refine j_iload hX 1 dX9_leadPath_108 rfl ?_
          refine j_if_eqN hX 0 118 dX9_leadPath_110 (by decide) (by omega) (fun b_110 => ?_) (fun b_110 => absurd b_110 (by omega))
          refine j_aload hX 9 dX9_leadPath_118 rfl ?_
          refine j_pc 120 rfl ?_
          refine j_iload hX 1 dX9_leadPath_120 rfl ?_
          refine j_if_eqN hX 0 130 dX9_leadPath_122 (by decide) (by omega) (fun b_122 => ?_) (fun b_122 => absurd b_122 (by omega))
          refine j_iconst hX (0) dX9_leadPath_130 (by decide) ?_
          refine j_aload_n hX 2 dX9_leadPath_131 rfl ?_
          refine j_get hX in9 9 0 1 (v := .ref sp) rfl rfl (by decide) (List.mem_of_getElem? (i := 1) rfl) rfl rfl dX9_leadPath_132 ?_
          refine j_get hX in8 8 2 1 (v := .int (nI nn)) rfl rfl (by decide) (List.mem_of_getElem? (i := 2) rfl) rfl rfl dX9_leadPath_135 ?_
          refine j_callV2 hX 3 (c_add l g inr ina ((hl fm nn) + nn) 768 F2 rr rra n1 rcap R1 0 nn (by omega) (by omega) (by omega) (by omega) hRB1 (by omega) (by omega)) gX9_leadPath_X7_add (by decide +kernel) rfl ⟨rfl, rfl⟩ ⟨Nat.le_of_ble_eq_true rfl, Nat.le_of_ble_eq_true rfl⟩ 7 5 rfl rfl [5, 6, 17, 18] [0, 1, 2, 3, 4, 7, 8, 9, 10, 11, 12, 13, 14, 15, 16] 19 rfl (by decide) (fun jj : (Nat → Int32) => [oB te 9 [.ref lvl, .ref sp, .ref hh, .ref ch], oB hh 5 [.ref inr, .ref outr, .ref zo, .ref on, .ref sp, .ref sdr, .int (nI ly), .int (nI tr)], oB sp 8 [.int (nI fm), .int (nI nn), .int (nI ht), .int (nI lys), .int (nI fa), .int (nI mk)], oB sdr 7 [.ref sda, .int (nI 48)], bA g sda 48 sd, oB inr 7 [.ref ina, .int (nI (((hl fm nn) + nn) + nn))], bA g ina 768 jj, oB outr 7 [.ref outa, .int (nI no1)], bA g outa 32 FO, oB zo 4 [.ref sa, .ref wa], iA g sa 8 S1, iA g wa 64 w1, oB on 3 [.ref aa, .ref ba], lA g aa 25 A1, lA g ba 25 B1, oB fr 7 [.ref fra, .int (nI nf)], bA g fra fcap ff, oB rr 7 [.ref rra, .int (nI n1)], bA g rra rcap R1]) (fun _ => rfl) (by decide) [te, hh, sp, sdr, sda, inr, ina, outr, outa, zo, sa, wa, on, aa, ba, fr, fra, rr, rra] rfl (fun _ => rfl) (fun _ => rfl) [oB te 9 [.ref lvl, .ref sp, .ref hh, .ref ch], oB hh 5 [.ref inr, .ref outr, .ref zo, .ref on, .ref sp, .ref sdr, .int (nI ly), .int (nI tr)], oB sp 8 [.int (nI fm), .int (nI nn), .int (nI ht), .int (nI lys), .int (nI fa), .int (nI mk)], oB sdr 7 [.ref sda, .int (nI 48)], bA g sda 48 sd, oB outr 7 [.ref outa, .int (nI no1)], bA g outa 32 FO, oB zo 4 [.ref sa, .ref wa], iA g sa 8 S1, iA g wa 64 w1, oB on 3 [.ref aa, .ref ba], lA g aa 25 A1, lA g ba 25 B1, oB fr 7 [.ref fra, .int (nI nf)], bA g fra fcap ff] rfl (fun _ => rfl) rfl [] rfl (Nat.le_of_ble_eq_true rfl) ⟨Nat.le_refl _, Nat.le_refl _⟩ dX9_leadPath_138 ?_
          intro F3 hF3
          try dsimp only at hF3
          refine j_w [oB te 9 [.ref lvl, .ref sp, .ref hh, .ref ch], oB hh 5 [.ref inr, .ref outr, .ref zo, .ref on, .ref sp, .ref sdr, .int (nI ly), .int (nI tr)], oB sp 8 [.int (nI fm), .int (nI nn), .int (nI ht), .int (nI lys), .int (nI fa), .int (nI mk)], oB sdr 7 [.ref sda, .int (nI 48)], bA g sda 48 sd, oB inr 7 [.ref ina, .int (nI (((hl fm nn) + nn) + nn))], bA g ina 768 F3, oB outr 7 [.ref outa, .int (nI no1)], bA g outa 32 FO, oB zo 4 [.ref sa, .ref wa], iA g sa 8 S1, iA g wa 64 w1, oB on 3 [.ref aa, .ref ba], lA g aa 25 A1, lA g ba 25 B1, oB fr 7 [.ref fra, .int (nI nf)], bA g fra fcap ff, oB rr 7 [.ref rra, .int (nI n1)], bA g rra rcap R1] rfl ?_
          refine j_st [] rfl ?_
          refine j_aload_n hX 2 dX9_leadPath_141 rfl ?_
          refine j_pc 142 rfl ?_
          refine j_get hX in9 9 0 2 (v := .ref hh) rfl rfl (by decide) (List.mem_of_getElem? (i := 3) rfl) rfl rfl dX9_leadPath_142 ?_
          refine j_aload hX 9 dX9_leadPath_145 rfl ?_
          refine j_iconst hX (0) dX9_leadPath_147 (by decide) ?_
          refine j_callV2 hX 2 (c_finish l g hh inr outr zo on sp fm nn ht lys fa mk sdr ly tr ina (((hl fm nn) + nn) + nn) F3 outa no1 FO sa wa S1 w1 aa ba A1 B1 rr rra n1 rcap R1 0 (by omega) (by omega) (by omega) (by omega) hnl.2 hFO (by omega) (by omega) (by omega) (by omega)) gX9_leadPath_X5_finish (by decide +kernel) rfl ⟨rfl, rfl⟩ ⟨Nat.le_of_ble_eq_true rfl, Nat.le_of_ble_eq_true rfl⟩ 5 1 rfl rfl [1, 2, 5, 6, 7, 8, 9, 10, 11, 12, 13, 14, 17, 18] [0, 3, 4, 15, 16] 19 rfl (by decide) (fun jj : (Nat → Int32) × (Nat → Int32) × (Nat → Int64) × (Nat → Int64) × Nat × (Nat → Int32) × (Nat → Int32) × (Nat → Int32) => [oB te 9 [.ref lvl, .ref sp, .ref hh, .ref ch], oB hh 5 [.ref inr, .ref outr, .ref zo, .ref on, .ref sp, .ref sdr, .int (nI ly), .int (nI tr)], oB sp 8 [.int (nI fm), .int (nI nn), .int (nI ht), .int (nI lys), .int (nI fa), .int (nI mk)], oB sdr 7 [.ref sda, .int (nI 48)], bA g sda 48 sd, oB inr 7 [.ref ina, .int (nI jj.2.2.2.2.1)], bA g ina 768 jj.2.2.2.2.2.1, oB outr 7 [.ref outa, .int (nI 32)], bA g outa 32 jj.2.2.2.2.2.2.1, oB zo 4 [.ref sa, .ref wa], iA g sa 8 jj.1, iA g wa 64 jj.2.1, oB on 3 [.ref aa, .ref ba], lA g aa 25 jj.2.2.1, lA g ba 25 jj.2.2.2.1, oB fr 7 [.ref fra, .int (nI nf)], bA g fra fcap ff, oB rr 7 [.ref rra, .int (nI (max n1 (0 + nn)))], bA g rra rcap jj.2.2.2.2.2.2.2]) (fun _ => rfl) (by decide) [te, hh, sp, sdr, sda, inr, ina, outr, outa, zo, sa, wa, on, aa, ba, fr, fra, rr, rra] rfl (fun _ => rfl) (fun _ => rfl) [oB te 9 [.ref lvl, .ref sp, .ref hh, .ref ch], oB sdr 7 [.ref sda, .int (nI 48)], bA g sda 48 sd, oB fr 7 [.ref fra, .int (nI nf)], bA g fra fcap ff] rfl (fun _ => rfl) rfl [] rfl (Nat.le_of_ble_eq_true rfl) ⟨Nat.le_refl _, Nat.le_refl _⟩ dX9_leadPath_148 ?_
          rintro ⟨S7, w7, A7, B7, nl7, G7, FO7, TO7⟩ hE
          try dsimp only at hE
          refine j_w [oB te 9 [.ref lvl, .ref sp, .ref hh, .ref ch], oB hh 5 [.ref inr, .ref outr, .ref zo, .ref on, .ref sp, .ref sdr, .int (nI ly), .int (nI tr)], oB sp 8 [.int (nI fm), .int (nI nn), .int (nI ht), .int (nI lys), .int (nI fa), .int (nI mk)], oB sdr 7 [.ref sda, .int (nI 48)], bA g sda 48 sd, oB inr 7 [.ref ina, .int (nI nl7)], bA g ina 768 G7, oB outr 7 [.ref outa, .int (nI 32)], bA g outa 32 FO7, oB zo 4 [.ref sa, .ref wa], iA g sa 8 S7, iA g wa 64 w7, oB on 3 [.ref aa, .ref ba], lA g aa 25 A7, lA g ba 25 B7, oB fr 7 [.ref fra, .int (nI nf)], bA g fra fcap ff, oB rr 7 [.ref rra, .int (nI (max n1 (0 + nn)))], bA g rra rcap TO7] rfl ?_
          refine j_st [] rfl ?_
          have hdl := hd_length (fm := fm) (n := nn) (by omega) sd ly tr kd ku (z + 1) (jl / 2 ^ (z + 1))
          rw [hF3, hF2, hF1, putL_app' (by first | (simp only [List.length_append, slice_length, hdl]; omega) | simp only [List.length_append, slice_length, hdl]), putL_app' (by first | (simp only [List.length_append, slice_length, hdl]; omega) | simp only [List.length_append, slice_length, hdl]), slice_put (by first | (simp only [List.length_append, slice_length, hdl]; omega) | simp only [List.length_append, slice_length, hdl])] at hE
          have hO2 := ldP_odd hnn (slice_length rf 0 nn) hev hO hE.2.2
          refine j_w [oB te 9 [.ref lvl, .ref sp, .ref hh, .ref ch], oB hh 5 [.ref inr, .ref outr, .ref zo, .ref on, .ref sp, .ref sdr, .int (nI ly), .int (nI tr)], oB sp 8 [.int (nI fm), .int (nI nn), .int (nI ht), .int (nI lys), .int (nI fa), .int (nI mk)], oB sdr 7 [.ref sda, .int (nI 48)], bA g sda 48 sd, oB inr 7 [.ref ina, .int (nI nl7)], bA g ina 768 G7, oB outr 7 [.ref outa, .int (nI 32)], bA g outa 32 FO7, oB zo 4 [.ref sa, .ref wa], iA g sa 8 S7, iA g wa 64 w7, oB on 3 [.ref aa, .ref ba], lA g aa 25 A7, lA g ba 25 B7, oB fr 7 [.ref fra, .int (nI nf)], bA g fra fcap ff, oB rr 7 [.ref rra, .int (nI n1)], bA g rra rcap TO7] (by rw [show max n1 (0 + nn) = n1 by omega]) ?_
          refine j_iincN hX z (z + 1) [(8, .int (nI (z + 1))), (10, .int (nI (t + (z * nn)))), (9, .int (nI 0)), (0, .ref te), (1, .int (nI kd)), (2, .int (nI ku)), (3, .int (nI hg)), (4, .int (nI jl)), (5, .ref fr), (6, .int (nI t)), (7, .ref rr)] 10 dX9_leadPath_151 rfl (nI_1 _) (by decide) rfl ?_
          refine j_goto hX 3 dX9_leadPath_154 (by decide) ?_
          refine j_perm [(0, .ref te), (1, .int (nI kd)), (2, .int (nI ku)), (3, .int (nI hg)), (4, .int (nI jl)), (5, .ref fr), (6, .int (nI t)), (7, .ref rr), (8, .int (nI (z + 1)))] [3, 4, 5, 6, 7, 8, 9, 10, 0] rfl ?_
          exact ih_3 (z + 1) 32 S7 w7 A7 B7 nl7 G7 FO7 TO7 (by omega) (by omega) ⟨hE.1, Nat.le_refl _⟩ hE.2.1 (by rw [hE.2.2]; exact putL_B hRB1 (TT_B _ _ _ _ _ _ _ _ _ _)) hO2
  refine j_perm [(0, .ref te), (1, .int (nI kd)), (2, .int (nI ku)), (3, .int (nI hg)), (4, .int (nI jl)), (5, .ref fr), (6, .int (nI t)), (7, .ref rr), (8, .int (nI 0))] [1, 2, 3, 4, 5, 6, 7, 8, 0] rfl ?_
  exact lp_1 _ 0 no S0 w0 A0 B0 ni fi fo rf (Nat.lt_succ_self _) (by omega) ⟨hni0, hno⟩ hBo hRB (by rw [ldP, put_slice])

