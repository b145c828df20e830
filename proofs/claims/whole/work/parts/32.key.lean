/-! SIGN, VERIFY, said plainly -/
def tL (ix : Nat → Nat) : Nat → Nat
  | 0 => ix 0
  | _ + 1 => 0
def uL (ix : Nat → Nat) : Nat → Nat
  | 0 => ix 1
  | k + 1 => tL ix k
/-- the row that a layer signs -/
def rowL (fm n : Nat) (sd : Nat → Int32) (ht fa mk : Nat) (ix : Nat → Nat) : Nat → List Int32
  | 0 => FROOT fm n sd 0 (ix 0) (ix 1) fa mk
  | k + 1 => ND fm n sd k (tL ix k) ht 0
def sigL (fm n : Nat) (sd : Nat → Int32) (ht fa mk : Nat) (ix : Nat → Nat) : Nat → List Int32
  | 0 => []
  | k + 1 => sigL fm n sd ht fa mk ix k ++ (oneC fm n sd k (tL ix k) (uL ix k) (lF (rowL fm n sd ht fa mk ix k)) (ln n) ++ pth fm n sd k (tL ix k) 2 0 (fun i => LF fm n sd k (tL ix k) i) (uL ix k) ht)
theorem sigL_length {fm n : Nat} (hn : n ≤ 16) (sd : Nat → Int32) (ht fa mk : Nat) (ix : Nat → Nat) : ∀ k, (sigL fm n sd ht fa mk ix k).length = k * ((ln n + ht) * n)
  | 0 => by rw [Nat.zero_mul]; rfl
  | k + 1 => by rw [sigL, List.length_append, List.length_append, sigL_length hn, oneC_length (by omega), pth_length (by omega) _ _ _ _ _ (fun j => LF_length (by omega) _ _ _ _), Nat.succ_mul k, Nat.add_mul]
def IXS (fm n : Nat) (sd : Nat → Int32) (ht lys fa mk : Nat) (r rt msg : List Int32) : Nat → Nat := ixN (lF (PNTS fm n sd r rt msg)) ht lys fa mk
def SIGI (fm n : Nat) (sd : Nat → Int32) (ht lys fa mk : Nat) (mx : List Int32) (ix : Nat → Nat) : List Int32 := (mx ++ fewS fm n sd 0 (ix 0) (ix 1) fa (fun i => ix (2 + i)) mk) ++ sigL fm n sd ht fa mk ix lys
/-- what sign puts into THE SIGNATURE -/
def SIG (fm n : Nat) (sd : Nat → Int32) (ht lys fa mk : Nat) (rnd rt msg : List Int32) : List Int32 := SIGI fm n sd ht lys fa mk (MIXED fm n sd rnd msg) (IXS fm n sd ht lys fa mk (MIXED fm n sd rnd msg) rt msg)
theorem ix_facts (d : Nat → Int32) {ht lys fa mk : Nat} (h1 : 1 ≤ ht ∧ ht ≤ 2) (h2 : 1 ≤ lys ∧ lys ≤ 2) (h3 : 1 ≤ fa ∧ fa ≤ 4) (h4 : 1 ≤ mk ∧ mk ≤ 6) {ix : Nat → Nat} (e : ix = ixN d ht lys fa mk) : (∀ i, ix i < 16) ∧ (∀ i, i < mk → ix (2 + i) < 2 ^ fa) ∧ ix 0 < 4 ∧ ∀ k, k < lys → tL ix k < 4 ∧ uL ix k < 2 ^ ht := by
  subst e
  have p2 : ∀ k, k ≤ 2 → 2 ^ k ≤ 4 := fun k hk => Nat.pow_le_pow_right (n := 2) (by decide) hk
  obtain ⟨b1, -⟩ := teN_bd h1.2 h2 h3 h4
  have h0 : ixN d ht lys fa mk 0 < 2 ^ (ht * (lys - 1)) := Nat.mod_lt _ (Nat.two_pow_pos _)
  have h04 := p2 _ b1
  refine ⟨ixN_lt d h1.2 h2 h3 h4, fun i _ => ?_, by omega, fun k hk => ?_⟩
  · rw [Nat.add_comm]
    exact bts_lt _ _ _
  · rcases k with _ | _ | k
    · exact ⟨by show ixN d ht lys fa mk 0 < 4; omega, Nat.mod_lt _ (Nat.two_pow_pos _)⟩
    · refine ⟨by show 0 < 4; decide, ?_⟩
      show ixN d ht lys fa mk 0 < 2 ^ ht
      rw [show lys - 1 = 1 by omega, Nat.mul_one] at h0
      exact h0
    · omega
theorem sig_cap {nn ht lys fa mk : Nat} (hn : nn ≤ 16) (h1 : ht ≤ 2) (h2 : lys ≤ 2) (h3 : fa ≤ 4) (h4 : mk ≤ 6) : nn + mk * ((fa + 1) * nn) + lys * ((ln nn + ht) * nn) ≤ 1680 := by
  have hl := ln_le nn
  have a1 : (fa + 1) * nn ≤ 5 * 16 := Nat.mul_le_mul (by omega) hn
  have a2 : mk * ((fa + 1) * nn) ≤ 6 * (5 * 16) := Nat.mul_le_mul h4 a1
  have a3 : (ln nn + ht) * nn ≤ 37 * 16 := Nat.mul_le_mul (by omega) hn
  have a4 : lys * ((ln nn + ht) * nn) ≤ 2 * (37 * 16) := Nat.mul_le_mul h2 a3
  omega
theorem sgS_eq (nn ht lys fa mk : Nat) : nn + mk * ((fa + 1) * nn) + lys * ((ln nn + ht) * nn) = sgS nn ht lys fa mk := by
  unfold sgS
  rw [Nat.mul_assoc, Nat.mul_assoc]
theorem SIGI_length {fm n : Nat} (hn : n ≤ 16) (sd : Nat → Int32) (ht lys fa mk : Nat) {mx : List Int32} (hm : mx.length = n) (ix : Nat → Nat) : (SIGI fm n sd ht lys fa mk mx ix).length = sgS n ht lys fa mk := by
  rw [SIGI, List.length_append, List.length_append, hm, fewS_length (by omega), sigL_length hn, sgS_eq]
theorem lF_of {f : Nat → Int32} {n : Nat} {X : List Int32} (h : slice f 0 n = X) : ∀ j, j < n → f j = lF X j := by
  intro j hj
  have := slice_getD (f := f) (s := 0) hj
  rw [Nat.zero_add] at this
  rw [← this, h]
  rfl
/-- what THE SIGNATURE leads to, layer by layer -/
def ldL (fm n : Nat) (sd : Nat → Int32) (ht fa mk : Nat) (ix : Nat → Nat) (f : Nat → Int32) : Nat → List Int32
  | 0 => FLEAD fm n sd 0 (ix 0) (ix 1) fa mk (fun i => ix (2 + i)) f n
  | k + 1 => ldP fm n sd k (tL ix k) 2 0 (TT fm n sd k (tL ix k) 1 (uL ix k) 0 0 (ldE fm n sd k (tL ix k) (uL ix k) (lF (ldL fm n sd ht fa mk ix f k)) f (n + mk * ((fa + 1) * n) + k * ((ln n + ht) * n)) (ln n))) f (n + mk * ((fa + 1) * n) + k * ((ln n + ht) * n) + ln n * n) (uL ix k) ht
theorem ldL_length {fm n : Nat} (hn : n ≤ 16) (sd : Nat → Int32) (ht fa mk : Nat) (ix : Nat → Nat) (f : Nat → Int32) : ∀ k, (ldL fm n sd ht fa mk ix f k).length = n
  | 0 => TT_length (by omega) _ _ _ _ _ _ _ _
  | k + 1 => ldP_length (by omega) _ _ _ _ _ (TT_length (by omega) _ _ _ _ _ _ _ _) _ _ _ _
theorem byte_eq {x y : Int32} (hx : i8 x = x) (hy : i8 y = y) (h : x &&& 255 = y &&& 255) : x = y := by
  have e : ∀ z : Int32, i8 (z &&& 255) = i8 z := fun z => by
    have := i8_and255 z 0
    rw [show (z &&& 255) ^^^ 0 = z &&& 255 by simp, show z ^^^ 0 = z by simp] at this
    exact this
  rw [← hx, ← hy, ← e x, ← e y, h]
theorem same_slice {f h : Nat → Int32} {n : Nat} (hf : isB f) (hh : isB h) : rSame f h n n ↔ slice f 0 n = slice h 0 n := by
  constructor
  · intro ⟨_, e⟩
    apply slice_congr
    intro j hj
    rw [Nat.zero_add]
    exact byte_eq (hf j) (hh j) (e j hj)
  · intro e
    refine ⟨rfl, fun j hj => ?_⟩
    have a := slice_getD (f := f) (s := 0) hj
    have b := slice_getD (f := h) (s := 0) hj
    rw [Nat.zero_add] at a b
    rw [← a, ← b, e]

set_option maxRecDepth 20000 in
theorem ggX10_sign_X10_hasKey : GoodIn wsX10_sign wsX10_hasKey := goodIn_r _ [6, 7, 8, 317, 318, 319, 320, 321, 322, 323, 324, 325, 326, 327, 328, 329, 330, 331, 332] rfl (by decide +kernel)
set_option maxRecDepth 20000 in
theorem gX10_sign_X10_hasKey : GoodIn wsX10_sign (wsV RX10 169 RX10 yX10_hasKey wsX10_hasKey) := goodIn_app (goodIn_of _ (by decide +kernel)) ggX10_sign_X10_hasKey
set_option maxRecDepth 20000 in
theorem ggX10_sign_X10_signFrom : GoodIn wsX10_sign wsX10_signFrom := goodIn_r _ [12, 13, 14, 15, 7, 16, 17, 18, 19, 20, 21, 22, 23, 24, 8, 25, 26, 27, 28, 29, 30, 31, 32, 33, 34, 35, 36, 37, 38, 39, 40, 41, 42, 43, 44, 45, 46, 47, 48, 49, 50, 51, 52, 53, 54, 55, 56, 57, 58, 59, 60, 61, 62, 63, 64, 65, 66, 67, 68, 69, 70, 71, 72, 73, 74, 75, 76, 77, 78, 79, 80, 81, 82, 83, 84, 85, 86, 87, 88, 89, 90, 91, 92, 93, 94, 95, 96, 97, 98, 99, 100, 101, 102, 103, 104, 105, 106, 107, 108, 109, 110, 111, 112, 113, 114, 115, 116, 117, 118, 119, 120, 121, 122, 123, 124, 125, 126, 127, 128, 129, 130, 131, 132, 133, 134, 135, 136, 137, 138, 139, 140, 141, 142, 143, 144, 145, 146, 147, 148, 149, 150, 151, 152, 153, 154, 155, 156, 157, 158, 159, 160, 161, 162, 163, 164, 165, 166, 167, 168, 169, 170, 171, 172, 173, 174, 175, 176, 177, 178, 179, 180, 181, 182, 183, 184, 185, 186, 187, 188, 189, 190, 191, 192, 193, 194, 195, 196, 197, 198, 199, 200, 201, 202, 203, 204, 205, 206, 207, 208, 209, 210, 211, 212, 213, 214, 215, 216, 217, 218, 219, 220, 221, 222, 223, 224, 225, 226, 227, 228, 229, 230, 231, 232, 233, 234, 235, 236, 237, 238, 239, 240, 241, 242, 243, 244, 245, 246, 247, 248, 249, 250, 251, 252, 253, 254, 255, 256, 257, 258, 259, 260, 261, 262, 263, 264, 265, 266, 267, 268, 269, 270, 271, 272, 273, 274, 275, 276, 277, 278, 279, 280, 281, 282, 283, 284, 285, 286, 287, 288, 289, 290, 291, 292, 293, 294, 295, 296, 297, 298, 299, 300, 301, 302, 303, 304, 305, 306, 307, 308, 309, 310, 311, 312, 313, 314, 315, 316, 317, 318, 319, 320, 321, 322, 323, 324, 325, 326, 327, 328, 329, 330, 333, 334, 335, 336, 337, 338, 339, 340, 341, 342, 331, 332, 343, 344, 345, 346, 347, 348, 349, 350, 351, 352, 353, 354, 355, 356, 357, 358, 359, 360, 361, 362, 363, 364, 365, 366, 367, 368, 369, 370] rfl (by decide +kernel)
set_option maxRecDepth 20000 in
theorem gX10_sign_X10_signFrom : GoodIn wsX10_sign (wsV RX10 173 RX10 yX10_signFrom wsX10_signFrom) := goodIn_app (goodIn_of _ (by decide +kernel)) ggX10_sign_X10_signFrom
theorem dX10_sign_0 : decode cX10_sign 0 = .ok (.aload_n 0, 1) := by decide +kernel
theorem dX10_sign_1 : decode cX10_sign 1 = .ok (.invokevirtual 169, 3) := by decide +kernel
theorem dX10_sign_4 : decode cX10_sign 4 = .ok (.ifCond .eq 16, 3) := by decide +kernel
theorem dX10_sign_7 : decode cX10_sign 7 = .ok (.aload_n 0, 1) := by decide +kernel
theorem dX10_sign_8 : decode cX10_sign 8 = .ok (.aload_n 0, 1) := by decide +kernel
theorem dX10_sign_9 : decode cX10_sign 9 = .ok (.getfield 21, 3) := by decide +kernel
theorem dX10_sign_12 : decode cX10_sign 12 = .ok (.bipush 32, 2) := by decide +kernel
theorem dX10_sign_14 : decode cX10_sign 14 = .ok (.invokevirtual 173, 3) := by decide +kernel
theorem dX10_sign_17 : decode cX10_sign 17 = .ok (.goto 5, 3) := by decide +kernel
theorem dX10_sign_20 : decode cX10_sign 20 = .ok (.bipush (-3), 2) := by decide +kernel
theorem dX10_sign_22 : decode cX10_sign 22 = .ok (.ireturn, 1) := by decide +kernel
set_option maxRecDepth 20000 in
theorem ggX10_signWith_X10_hasKey : GoodIn wsX10_signWith wsX10_hasKey := goodIn_r _ [6, 7, 8, 322, 323, 324, 325, 326, 327, 328, 329, 330, 331, 332, 333, 334, 335, 336, 337] rfl (by decide +kernel)
set_option maxRecDepth 20000 in
theorem gX10_signWith_X10_hasKey : GoodIn wsX10_signWith (wsV RX10 169 RX10 yX10_hasKey wsX10_hasKey) := goodIn_app (goodIn_of _ (by decide +kernel)) ggX10_signWith_X10_hasKey
set_option maxRecDepth 20000 in
theorem ggX10_signWith_X10_holdTold : GoodIn wsX10_signWith wsX10_holdTold := goodIn_r _ [12, 1, 13, 14, 15, 16, 17, 18, 19, 20, 21, 22, 23, 322, 323, 324, 325, 326, 327, 328, 329, 330, 331, 332, 333, 334, 335, 336, 337] rfl (by decide +kernel)
set_option maxRecDepth 20000 in
theorem gX10_signWith_X10_holdTold : GoodIn wsX10_signWith (wsV RX10 141 RX10 yX10_holdTold wsX10_holdTold) := goodIn_app (goodIn_of _ (by decide +kernel)) ggX10_signWith_X10_holdTold
set_option maxRecDepth 20000 in
theorem ggX10_signWith_X10_signFrom : GoodIn wsX10_signWith wsX10_signFrom := goodIn_r _ [27, 28, 29, 30, 7, 31, 32, 33, 34, 35, 36, 37, 38, 39, 8, 13, 14, 15, 16, 17, 18, 40, 41, 42, 43, 44, 45, 46, 47, 48, 49, 50, 51, 52, 53, 54, 55, 56, 57, 58, 59, 60, 61, 62, 63, 64, 65, 66, 67, 68, 23, 69, 20, 21, 22, 70, 71, 72, 73, 74, 75, 76, 77, 78, 79, 80, 81, 82, 83, 84, 85, 86, 87, 88, 89, 90, 91, 92, 93, 94, 95, 96, 97, 98, 99, 100, 101, 102, 103, 104, 105, 106, 107, 108, 109, 110, 111, 112, 113, 114, 115, 116, 117, 118, 119, 120, 121, 122, 123, 124, 125, 126, 127, 128, 129, 130, 131, 132, 133, 134, 135, 136, 137, 138, 139, 140, 141, 142, 143, 144, 145, 146, 147, 148, 149, 150, 151, 152, 153, 154, 155, 156, 157, 158, 159, 160, 161, 162, 163, 164, 165, 166, 167, 168, 169, 170, 171, 172, 173, 174, 175, 176, 177, 178, 179, 180, 181, 182, 183, 184, 185, 186, 187, 188, 189, 190, 191, 192, 193, 194, 195, 196, 197, 198, 199, 200, 201, 202, 203, 204, 205, 206, 207, 208, 209, 210, 211, 212, 213, 214, 215, 216, 217, 218, 219, 220, 221, 222, 223, 224, 225, 226, 227, 228, 229, 230, 231, 232, 233, 234, 235, 236, 237, 238, 239, 240, 241, 242, 243, 244, 245, 246, 247, 248, 249, 250, 251, 252, 253, 254, 255, 256, 257, 258, 259, 260, 261, 262, 263, 264, 265, 266, 267, 268, 269, 270, 271, 272, 273, 274, 275, 276, 277, 278, 279, 280, 281, 282, 283, 284, 285, 286, 287, 288, 289, 290, 291, 292, 293, 294, 295, 296, 297, 298, 299, 300, 301, 302, 303, 304, 305, 306, 307, 308, 309, 310, 311, 312, 313, 314, 315, 316, 317, 318, 319, 320, 321, 322, 323, 324, 325, 326, 327, 328, 329, 330, 331, 332, 333, 334, 335, 338, 339, 340, 341, 342, 343, 344, 345, 346, 347, 336, 337, 348, 349, 350, 351, 352, 353, 354, 355, 356, 357, 358, 359, 360, 361, 362, 363, 364, 365, 366, 367, 368, 369, 370, 371, 372, 373, 374, 375] rfl (by decide +kernel)
set_option maxRecDepth 20000 in
theorem gX10_signWith_X10_signFrom : GoodIn wsX10_signWith (wsV RX10 173 RX10 yX10_signFrom wsX10_signFrom) := goodIn_app (goodIn_of _ (by decide +kernel)) ggX10_signWith_X10_signFrom
theorem dX10_signWith_0 : decode cX10_signWith 0 = .ok (.aload_n 0, 1) := by decide +kernel
theorem dX10_signWith_1 : decode cX10_signWith 1 = .ok (.invokevirtual 169, 3) := by decide +kernel
theorem dX10_signWith_4 : decode cX10_signWith 4 = .ok (.ifCond .ne 6, 3) := by decide +kernel
theorem dX10_signWith_7 : decode cX10_signWith 7 = .ok (.bipush (-3), 2) := by decide +kernel
theorem dX10_signWith_9 : decode cX10_signWith 9 = .ok (.ireturn, 1) := by decide +kernel
theorem dX10_signWith_10 : decode cX10_signWith 10 = .ok (.aload_n 0, 1) := by decide +kernel
theorem dX10_signWith_11 : decode cX10_signWith 11 = .ok (.lload_n 1, 1) := by decide +kernel
theorem dX10_signWith_12 : decode cX10_signWith 12 = .ok (.lload_n 3, 1) := by decide +kernel
theorem dX10_signWith_13 : decode cX10_signWith 13 = .ok (.invokevirtual 141, 3) := by decide +kernel
theorem dX10_signWith_16 : decode cX10_signWith 16 = .ok (.aload_n 0, 1) := by decide +kernel
theorem dX10_signWith_17 : decode cX10_signWith 17 = .ok (.aload_n 0, 1) := by decide +kernel
theorem dX10_signWith_18 : decode cX10_signWith 18 = .ok (.getfield 24, 3) := by decide +kernel
theorem dX10_signWith_21 : decode cX10_signWith 21 = .ok (.iconst 0, 1) := by decide +kernel
theorem dX10_signWith_22 : decode cX10_signWith 22 = .ok (.invokevirtual 173, 3) := by decide +kernel
theorem dX10_signWith_25 : decode cX10_signWith 25 = .ok (.ireturn, 1) := by decide +kernel
set_option maxRecDepth 20000 in
theorem ggX10_signFrom_X7_clear : GoodIn wsX10_signFrom wsX7_clear := goodIn_r _ [19, 20, 331, 332] rfl (by decide +kernel)
set_option maxRecDepth 20000 in
theorem gX10_signFrom_X7_clear : GoodIn wsX10_signFrom (wsV RX10 102 RX7 yX7_clear wsX7_clear) := goodIn_app (goodIn_of _ (by decide +kernel)) ggX10_signFrom_X7_clear
set_option maxRecDepth 20000 in
theorem ggX10_signFrom_X6_mix : GoodIn wsX10_signFrom wsX6_mix := goodIn_r _ [25, 26, 27, 28, 29, 30, 31, 32, 33, 34, 35, 36, 37, 38, 39, 40, 41, 16, 17, 18, 19, 20, 42, 43, 44, 24, 45, 46, 47, 48, 49, 50, 51, 52, 53, 54, 55, 56, 57, 58, 59, 60, 61, 62, 63, 64, 65, 66, 67, 68, 69, 70, 71, 72, 73, 74, 75, 76, 77, 78, 79, 80, 81, 82, 83, 84, 85, 86, 87, 88, 89, 90, 91, 92, 93, 94, 95, 96, 97, 98, 99, 100, 101, 102, 103, 104, 105, 106, 107, 108, 109, 110, 111, 112, 113, 114, 115, 116, 117, 118, 119, 120, 121, 122, 123, 124, 125, 126, 127, 128, 129, 130, 131, 132, 333, 334, 335, 336, 337, 338, 339, 340, 341, 342, 343, 344, 345, 321, 322, 323, 324, 325, 326, 331, 332, 346, 347, 348, 349] rfl (by decide +kernel)
set_option maxRecDepth 20000 in
theorem gX10_signFrom_X6_mix : GoodIn wsX10_signFrom (wsV RX10 211 RX6 yX6_mix wsX6_mix) := goodIn_app (goodIn_of _ (by decide +kernel)) ggX10_signFrom_X6_mix
set_option maxRecDepth 20000 in
theorem ggX10_signFrom_X6_find : GoodIn wsX10_signFrom wsX6_find := goodIn_r _ [136, 26, 27, 28, 29, 32, 33, 34, 35, 36, 37, 38, 39, 40, 137, 138, 139, 24, 140, 31, 30, 41, 16, 17, 18, 19, 20, 55, 56, 57, 58, 59, 60, 61, 62, 50, 63, 64, 65, 66, 67, 68, 69, 70, 71, 72, 73, 74, 75, 76, 77, 78, 79, 80, 81, 82, 83, 84, 85, 86, 52, 53, 54, 87, 47, 48, 49, 88, 89, 90, 91, 92, 93, 94, 95, 96, 97, 98, 99, 100, 101, 102, 103, 104, 105, 106, 107, 108, 109, 110, 111, 112, 113, 114, 115, 116, 117, 118, 119, 120, 121, 122, 123, 124, 125, 126, 127, 128, 129, 130, 131, 132, 51, 141, 142, 143, 144, 145, 146, 147, 148, 149, 150, 151, 152, 46, 153, 154, 155, 333, 334, 335, 336, 337, 338, 339, 340, 341, 342, 343, 344, 345, 321, 322, 323, 324, 325, 326, 331, 332, 346, 347, 348, 349] rfl (by decide +kernel)
set_option maxRecDepth 20000 in
theorem gX10_signFrom_X6_find : GoodIn wsX10_signFrom (wsV RX10 180 RX6 yX6_find wsX6_find) := goodIn_app (goodIn_of _ (by decide +kernel)) ggX10_signFrom_X6_find
set_option maxRecDepth 20000 in
theorem ggX10_signFrom_X6_treeNumber : GoodIn wsX10_signFrom wsX6_treeNumber := goodIn_r _ [159, 149, 160, 68, 69, 70, 46, 47, 48, 18, 49, 20, 50, 333, 334, 335, 336, 337, 331, 332] rfl (by decide +kernel)
set_option maxRecDepth 20000 in
theorem gX10_signFrom_X6_treeNumber : GoodIn wsX10_signFrom (wsV RX10 215 RX6 yX6_treeNumber wsX6_treeNumber) := goodIn_app (goodIn_of _ (by decide +kernel)) ggX10_signFrom_X6_treeNumber
set_option maxRecDepth 20000 in
theorem ggX10_signFrom_X6_leafNumber : GoodIn wsX10_signFrom wsX6_leafNumber := goodIn_r _ [164, 149, 160, 68, 69, 70, 46, 47, 48, 18, 49, 20, 50, 333, 334, 335, 336, 337, 331, 332] rfl (by decide +kernel)
set_option maxRecDepth 20000 in
theorem gX10_signFrom_X6_leafNumber : GoodIn wsX10_signFrom (wsV RX10 218 RX6 yX6_leafNumber wsX6_leafNumber) := goodIn_app (goodIn_of _ (by decide +kernel)) ggX10_signFrom_X6_leafNumber
set_option maxRecDepth 20000 in
theorem ggX10_signFrom_X1_write : GoodIn wsX10_signFrom wsX1_write := goodIn_r _ [169, 170, 171, 172, 173, 174, 175, 176, 177, 178, 162, 163, 24, 164, 149, 160, 68, 69, 70, 46, 47, 48, 18, 49, 20, 50, 179, 157, 158, 159, 180, 181, 182, 37, 183, 184, 185, 186, 16, 17, 19, 187, 188, 189, 190, 191, 192, 193, 168, 194, 195, 196, 197, 198, 199, 200, 201, 202, 203, 204, 205, 206, 207, 208, 209, 210, 211, 212, 213, 60, 61, 62, 63, 64, 65, 66, 67, 214, 52, 53, 54, 215, 56, 57, 58, 59, 216, 217, 218, 219, 220, 221, 35, 36, 38, 39, 40, 222, 76, 77, 78, 79, 80, 81, 82, 83, 84, 85, 86, 87, 88, 89, 90, 91, 92, 93, 94, 95, 96, 97, 98, 99, 100, 101, 102, 103, 104, 105, 106, 107, 108, 109, 110, 111, 112, 113, 114, 115, 116, 117, 118, 119, 120, 121, 122, 123, 124, 125, 126, 127, 128, 129, 130, 131, 223, 224, 72, 73, 74, 225, 226, 227, 228, 229, 230, 231, 232, 233, 234, 235, 236, 237, 238, 239, 240, 241, 242, 243, 244, 245, 246, 247, 350, 351, 352, 353, 354, 321, 322, 323, 324, 325, 326, 327, 328, 329, 330, 333, 334, 335, 336, 337, 331, 332, 338, 339, 340, 341, 342, 343, 344, 345, 346, 347, 348, 349] rfl (by decide +kernel)
set_option maxRecDepth 20000 in
theorem gX10_signFrom_X1_write : GoodIn wsX10_signFrom (wsV RX10 221 RX1 yX1_write wsX1_write) := goodIn_app (goodIn_of _ (by decide +kernel)) ggX10_signFrom_X1_write
set_option maxRecDepth 20000 in
theorem ggX10_signFrom_X9_gatherLeaves : GoodIn wsX10_signFrom wsX9_gatherLeaves := goodIn_r _ [251, 231, 232, 252, 253, 233, 254, 16, 17, 18, 19, 20, 255, 256, 257, 258, 259, 260, 261, 262, 263, 264, 265, 266, 267, 268, 269, 270, 271, 272, 273, 181, 182, 37, 183, 184, 185, 274, 275, 276, 277, 278, 279, 280, 281, 282, 283, 199, 200, 201, 202, 203, 204, 205, 206, 207, 208, 209, 210, 211, 212, 213, 60, 61, 62, 50, 63, 64, 65, 66, 67, 68, 69, 70, 214, 52, 53, 54, 215, 56, 57, 58, 59, 216, 217, 218, 219, 220, 221, 35, 36, 38, 39, 40, 222, 76, 77, 78, 79, 80, 81, 82, 83, 84, 85, 86, 87, 47, 48, 49, 88, 89, 90, 91, 92, 93, 94, 95, 96, 97, 98, 99, 100, 101, 102, 103, 104, 105, 106, 107, 108, 109, 110, 111, 112, 113, 114, 115, 116, 117, 118, 119, 120, 121, 122, 123, 124, 125, 126, 127, 128, 129, 130, 131, 284, 285, 286, 287, 288, 289, 72, 73, 74, 290, 291, 292, 293, 234, 327, 328, 329, 330, 355, 356, 357, 358, 359, 360, 321, 322, 323, 324, 325, 326, 331, 332, 338, 339, 340, 341, 342, 343, 344, 345, 346, 347, 348, 349] rfl (by decide +kernel)
set_option maxRecDepth 20000 in
theorem gX10_signFrom_X9_gatherLeaves : GoodIn wsX10_signFrom (wsV RX10 152 RX9 yX9_gatherLeaves wsX9_gatherLeaves) := goodIn_app (goodIn_of _ (by decide +kernel)) ggX10_signFrom_X9_gatherLeaves
set_option maxRecDepth 20000 in
theorem ggX10_signFrom_X0_write : GoodIn wsX10_signFrom wsX0_write := goodIn_r _ [297, 269, 298, 266, 299, 300, 301, 302, 264, 303, 270, 304, 47, 48, 18, 49, 20, 50, 278, 279, 280, 258, 281, 282, 283, 199, 200, 37, 201, 202, 203, 204, 205, 206, 207, 208, 209, 210, 211, 184, 185, 212, 16, 17, 19, 213, 60, 61, 62, 63, 64, 65, 66, 67, 68, 69, 70, 214, 52, 53, 54, 215, 56, 57, 58, 59, 216, 217, 218, 219, 220, 221, 35, 36, 38, 39, 40, 222, 76, 77, 78, 79, 80, 81, 82, 83, 84, 85, 86, 87, 88, 89, 90, 91, 92, 93, 94, 95, 96, 97, 98, 99, 100, 101, 102, 103, 104, 105, 106, 107, 108, 109, 110, 111, 112, 113, 114, 115, 116, 117, 118, 119, 120, 121, 122, 123, 124, 125, 126, 127, 128, 129, 130, 131, 284, 285, 286, 287, 355, 356, 357, 358, 359, 360, 331, 332, 321, 322, 323, 324, 325, 326, 338, 339, 340, 341, 342, 343, 344, 345, 346, 347, 348, 349] rfl (by decide +kernel)
set_option maxRecDepth 20000 in
theorem gX10_signFrom_X0_write : GoodIn wsX10_signFrom (wsV RX10 225 RX0 yX0_write wsX0_write) := goodIn_app (goodIn_of _ (by decide +kernel)) ggX10_signFrom_X0_write
set_option maxRecDepth 20000 in
theorem ggX10_signFrom_X9_writePath : GoodIn wsX10_signFrom wsX9_writePath := goodIn_r _ [230, 231, 232, 233, 234, 56, 57, 18, 58, 20, 59, 60, 61, 62, 50, 63, 64, 65, 66, 67, 68, 69, 70, 235, 236, 237, 229, 238, 239, 240, 241, 208, 209, 37, 210, 204, 211, 202, 203, 205, 184, 185, 212, 16, 17, 19, 213, 214, 52, 53, 54, 242, 217, 218, 219, 220, 221, 35, 36, 38, 39, 40, 222, 76, 77, 78, 79, 80, 81, 82, 83, 84, 85, 86, 87, 47, 48, 49, 88, 89, 90, 91, 92, 93, 94, 95, 96, 97, 98, 99, 100, 101, 102, 103, 104, 105, 106, 107, 108, 109, 110, 111, 112, 113, 114, 115, 116, 117, 118, 119, 120, 121, 122, 123, 124, 125, 126, 127, 128, 129, 130, 131, 327, 328, 329, 330, 321, 322, 323, 324, 325, 326, 331, 332, 338, 339, 340, 341, 342, 343, 344, 345, 346, 347, 348, 349] rfl (by decide +kernel)
set_option maxRecDepth 20000 in
theorem gX10_signFrom_X9_writePath : GoodIn wsX10_signFrom (wsV RX10 231 RX9 yX9_writePath wsX9_writePath) := goodIn_app (goodIn_of _ (by decide +kernel)) ggX10_signFrom_X9_writePath
set_option maxRecDepth 20000 in
theorem ggX10_signFrom_X7_lay : GoodIn wsX10_signFrom wsX7_lay := goodIn_r _ [62, 20, 50, 63, 64, 65, 66, 67, 68, 69, 70, 331, 332] rfl (by decide +kernel)
set_option maxRecDepth 20000 in
theorem gX10_signFrom_X7_lay : GoodIn wsX10_signFrom (wsV RX10 145 RX7 yX7_lay wsX7_lay) := goodIn_app (goodIn_of _ (by decide +kernel)) ggX10_signFrom_X7_lay
theorem dX10_signFrom_0 : decode cX10_signFrom 0 = .ok (.aload_n 0, 1) := by decide +kernel
theorem dX10_signFrom_1 : decode cX10_signFrom 1 = .ok (.getfield 30, 3) := by decide +kernel
theorem dX10_signFrom_4 : decode cX10_signFrom 4 = .ok (.invokevirtual 102, 3) := by decide +kernel
theorem dX10_signFrom_7 : decode cX10_signFrom 7 = .ok (.aload_n 0, 1) := by decide +kernel
theorem dX10_signFrom_8 : decode cX10_signFrom 8 = .ok (.getfield 87, 3) := by decide +kernel
theorem dX10_signFrom_11 : decode cX10_signFrom 11 = .ok (.aload_n 1, 1) := by decide +kernel
theorem dX10_signFrom_12 : decode cX10_signFrom 12 = .ok (.iload_n 2, 1) := by decide +kernel
theorem dX10_signFrom_13 : decode cX10_signFrom 13 = .ok (.aload_n 0, 1) := by decide +kernel
theorem dX10_signFrom_14 : decode cX10_signFrom 14 = .ok (.getfield 14, 3) := by decide +kernel
theorem dX10_signFrom_17 : decode cX10_signFrom 17 = .ok (.aload_n 0, 1) := by decide +kernel
theorem dX10_signFrom_18 : decode cX10_signFrom 18 = .ok (.getfield 30, 3) := by decide +kernel
theorem dX10_signFrom_21 : decode cX10_signFrom 21 = .ok (.invokevirtual 211, 3) := by decide +kernel
theorem dX10_signFrom_24 : decode cX10_signFrom 24 = .ok (.aload_n 0, 1) := by decide +kernel
theorem dX10_signFrom_25 : decode cX10_signFrom 25 = .ok (.getfield 87, 3) := by decide +kernel
theorem dX10_signFrom_28 : decode cX10_signFrom 28 = .ok (.aload_n 0, 1) := by decide +kernel
theorem dX10_signFrom_29 : decode cX10_signFrom 29 = .ok (.getfield 30, 3) := by decide +kernel
theorem dX10_signFrom_32 : decode cX10_signFrom 32 = .ok (.aload_n 0, 1) := by decide +kernel
theorem dX10_signFrom_33 : decode cX10_signFrom 33 = .ok (.getfield 27, 3) := by decide +kernel
theorem dX10_signFrom_36 : decode cX10_signFrom 36 = .ok (.aload_n 0, 1) := by decide +kernel
theorem dX10_signFrom_37 : decode cX10_signFrom 37 = .ok (.getfield 14, 3) := by decide +kernel
theorem dX10_signFrom_40 : decode cX10_signFrom 40 = .ok (.invokevirtual 180, 3) := by decide +kernel
theorem dX10_signFrom_43 : decode cX10_signFrom 43 = .ok (.aload_n 0, 1) := by decide +kernel
theorem dX10_signFrom_44 : decode cX10_signFrom 44 = .ok (.getfield 87, 3) := by decide +kernel
theorem dX10_signFrom_47 : decode cX10_signFrom 47 = .ok (.invokevirtual 215, 3) := by decide +kernel
theorem dX10_signFrom_50 : decode cX10_signFrom 50 = .ok (.istore_n 3, 1) := by decide +kernel
theorem dX10_signFrom_51 : decode cX10_signFrom 51 = .ok (.aload_n 0, 1) := by decide +kernel
theorem dX10_signFrom_52 : decode cX10_signFrom 52 = .ok (.getfield 87, 3) := by decide +kernel
theorem dX10_signFrom_55 : decode cX10_signFrom 55 = .ok (.invokevirtual 218, 3) := by decide +kernel
theorem dX10_signFrom_58 : decode cX10_signFrom 58 = .ok (.istore 4, 2) := by decide +kernel
theorem dX10_signFrom_60 : decode cX10_signFrom 60 = .ok (.aload_n 0, 1) := by decide +kernel
theorem dX10_signFrom_61 : decode cX10_signFrom 61 = .ok (.getfield 78, 3) := by decide +kernel
theorem dX10_signFrom_64 : decode cX10_signFrom 64 = .ok (.aload_n 0, 1) := by decide +kernel
theorem dX10_signFrom_65 : decode cX10_signFrom 65 = .ok (.getfield 87, 3) := by decide +kernel
theorem dX10_signFrom_68 : decode cX10_signFrom 68 = .ok (.aload_n 0, 1) := by decide +kernel
theorem dX10_signFrom_69 : decode cX10_signFrom 69 = .ok (.getfield 30, 3) := by decide +kernel
theorem dX10_signFrom_72 : decode cX10_signFrom 72 = .ok (.aload_n 0, 1) := by decide +kernel
theorem dX10_signFrom_73 : decode cX10_signFrom 73 = .ok (.getfield 33, 3) := by decide +kernel
theorem dX10_signFrom_76 : decode cX10_signFrom 76 = .ok (.invokevirtual 221, 3) := by decide +kernel
theorem dX10_signFrom_79 : decode cX10_signFrom 79 = .ok (.iconst 0, 1) := by decide +kernel
theorem dX10_signFrom_80 : decode cX10_signFrom 80 = .ok (.istore 5, 2) := by decide +kernel
theorem dX10_signFrom_82 : decode cX10_signFrom 82 = .ok (.iload 5, 2) := by decide +kernel
theorem dX10_signFrom_84 : decode cX10_signFrom 84 = .ok (.aload_n 0, 1) := by decide +kernel
theorem dX10_signFrom_85 : decode cX10_signFrom 85 = .ok (.getfield 42, 3) := by decide +kernel
theorem dX10_signFrom_88 : decode cX10_signFrom 88 = .ok (.getfield 149, 3) := by decide +kernel
theorem dX10_signFrom_91 : decode cX10_signFrom 91 = .ok (.if_icmp .ge 86, 3) := by decide +kernel
theorem dX10_signFrom_94 : decode cX10_signFrom 94 = .ok (.aload_n 0, 1) := by decide +kernel
theorem dX10_signFrom_95 : decode cX10_signFrom 95 = .ok (.getfield 69, 3) := by decide +kernel
theorem dX10_signFrom_98 : decode cX10_signFrom 98 = .ok (.iload 5, 2) := by decide +kernel
theorem dX10_signFrom_100 : decode cX10_signFrom 100 = .ok (.iload_n 3, 1) := by decide +kernel
theorem dX10_signFrom_101 : decode cX10_signFrom 101 = .ok (.invokevirtual 152, 3) := by decide +kernel
theorem dX10_signFrom_104 : decode cX10_signFrom 104 = .ok (.aload_n 0, 1) := by decide +kernel
theorem dX10_signFrom_105 : decode cX10_signFrom 105 = .ok (.getfield 60, 3) := by decide +kernel
theorem dX10_signFrom_108 : decode cX10_signFrom 108 = .ok (.aload_n 0, 1) := by decide +kernel
theorem dX10_signFrom_109 : decode cX10_signFrom 109 = .ok (.getfield 33, 3) := by decide +kernel
theorem dX10_signFrom_112 : decode cX10_signFrom 112 = .ok (.iload 4, 2) := by decide +kernel
theorem dX10_signFrom_114 : decode cX10_signFrom 114 = .ok (.aload_n 0, 1) := by decide +kernel
theorem dX10_signFrom_115 : decode cX10_signFrom 115 = .ok (.getfield 30, 3) := by decide +kernel
theorem dX10_signFrom_118 : decode cX10_signFrom 118 = .ok (.invokevirtual 225, 3) := by decide +kernel
theorem dX10_signFrom_121 : decode cX10_signFrom 121 = .ok (.aload_n 0, 1) := by decide +kernel
theorem dX10_signFrom_122 : decode cX10_signFrom 122 = .ok (.getfield 69, 3) := by decide +kernel
theorem dX10_signFrom_125 : decode cX10_signFrom 125 = .ok (.iconst 2, 1) := by decide +kernel
theorem dX10_signFrom_126 : decode cX10_signFrom 126 = .ok (.iconst 0, 1) := by decide +kernel
theorem dX10_signFrom_127 : decode cX10_signFrom 127 = .ok (.aload_n 0, 1) := by decide +kernel
theorem dX10_signFrom_128 : decode cX10_signFrom 128 = .ok (.getfield 42, 3) := by decide +kernel
theorem dX10_signFrom_131 : decode cX10_signFrom 131 = .ok (.getfield 228, 3) := by decide +kernel
theorem dX10_signFrom_134 : decode cX10_signFrom 134 = .ok (.iload 4, 2) := by decide +kernel
theorem dX10_signFrom_136 : decode cX10_signFrom 136 = .ok (.aload_n 0, 1) := by decide +kernel
theorem dX10_signFrom_137 : decode cX10_signFrom 137 = .ok (.getfield 30, 3) := by decide +kernel
theorem dX10_signFrom_140 : decode cX10_signFrom 140 = .ok (.invokevirtual 231, 3) := by decide +kernel
theorem dX10_signFrom_143 : decode cX10_signFrom 143 = .ok (.aload_n 0, 1) := by decide +kernel
theorem dX10_signFrom_144 : decode cX10_signFrom 144 = .ok (.getfield 33, 3) := by decide +kernel
theorem dX10_signFrom_147 : decode cX10_signFrom 147 = .ok (.iconst 0, 1) := by decide +kernel
theorem dX10_signFrom_148 : decode cX10_signFrom 148 = .ok (.aload_n 0, 1) := by decide +kernel
theorem dX10_signFrom_149 : decode cX10_signFrom 149 = .ok (.getfield 69, 3) := by decide +kernel
theorem dX10_signFrom_152 : decode cX10_signFrom 152 = .ok (.getfield 159, 3) := by decide +kernel
theorem dX10_signFrom_155 : decode cX10_signFrom 155 = .ok (.iconst 0, 1) := by decide +kernel
theorem dX10_signFrom_156 : decode cX10_signFrom 156 = .ok (.aload_n 0, 1) := by decide +kernel
theorem dX10_signFrom_157 : decode cX10_signFrom 157 = .ok (.getfield 42, 3) := by decide +kernel
theorem dX10_signFrom_160 : decode cX10_signFrom 160 = .ok (.getfield 162, 3) := by decide +kernel
theorem dX10_signFrom_163 : decode cX10_signFrom 163 = .ok (.invokevirtual 145, 3) := by decide +kernel
theorem dX10_signFrom_166 : decode cX10_signFrom 166 = .ok (.iload_n 3, 1) := by decide +kernel
theorem dX10_signFrom_167 : decode cX10_signFrom 167 = .ok (.istore 4, 2) := by decide +kernel
theorem dX10_signFrom_169 : decode cX10_signFrom 169 = .ok (.iconst 0, 1) := by decide +kernel
theorem dX10_signFrom_170 : decode cX10_signFrom 170 = .ok (.istore_n 3, 1) := by decide +kernel
theorem dX10_signFrom_171 : decode cX10_signFrom 171 = .ok (.iinc 5 1, 3) := by decide +kernel
theorem dX10_signFrom_174 : decode cX10_signFrom 174 = .ok (.goto (-92), 3) := by decide +kernel
theorem dX10_signFrom_177 : decode cX10_signFrom 177 = .ok (.aload_n 0, 1) := by decide +kernel
theorem dX10_signFrom_178 : decode cX10_signFrom 178 = .ok (.getfield 30, 3) := by decide +kernel
theorem dX10_signFrom_181 : decode cX10_signFrom 181 = .ok (.getfield 95, 3) := by decide +kernel
theorem dX10_signFrom_184 : decode cX10_signFrom 184 = .ok (.ireturn, 1) := by decide +kernel
set_option maxRecDepth 20000 in
theorem ggX10_verify_X10_hasKey : GoodIn wsX10_verify wsX10_hasKey := goodIn_r _ [12, 5, 2, 284, 285, 286, 287, 288, 289, 290, 291, 292, 293, 294, 295, 296, 297, 298, 299] rfl (by decide +kernel)
set_option maxRecDepth 20000 in
theorem gX10_verify_X10_hasKey : GoodIn wsX10_verify (wsV RX10 169 RX10 yX10_hasKey wsX10_hasKey) := goodIn_app (goodIn_of _ (by decide +kernel)) ggX10_verify_X10_hasKey
set_option maxRecDepth 20000 in
theorem ggX10_verify_X8_size : GoodIn wsX10_verify wsX8_size := goodIn_r _ [17, 18, 19, 20, 21, 22, 23, 16, 24, 25, 26, 27, 28, 29, 30, 300, 301, 302, 303, 304, 305] rfl (by decide +kernel)
set_option maxRecDepth 20000 in
theorem gX10_verify_X8_size : GoodIn wsX10_verify (wsV RX10 137 RX8 yX8_size wsX8_size) := goodIn_app (goodIn_of _ (by decide +kernel)) ggX10_verify_X8_size
set_option maxRecDepth 20000 in
theorem ggX10_verify_X6_find : GoodIn wsX10_verify wsX6_find := goodIn_r _ [35, 36, 37, 38, 39, 40, 41, 42, 43, 44, 45, 46, 47, 48, 49, 50, 51, 34, 52, 53, 54, 55, 56, 57, 58, 59, 60, 61, 62, 63, 64, 65, 66, 67, 68, 69, 70, 71, 72, 73, 74, 75, 76, 77, 78, 79, 80, 81, 82, 83, 84, 85, 86, 87, 88, 89, 90, 91, 92, 93, 94, 95, 96, 97, 98, 99, 100, 101, 102, 103, 104, 105, 106, 107, 108, 109, 110, 111, 112, 113, 114, 115, 116, 117, 118, 119, 120, 121, 122, 123, 124, 125, 126, 127, 128, 129, 130, 131, 132, 133, 134, 135, 136, 137, 138, 139, 140, 141, 142, 143, 144, 145, 146, 147, 148, 149, 150, 151, 152, 153, 154, 155, 156, 157, 158, 159, 160, 161, 162, 306, 307, 308, 309, 310, 311, 312, 313, 314, 315, 316, 317, 318, 300, 301, 302, 303, 304, 305, 298, 299, 319, 320, 321, 322] rfl (by decide +kernel)
set_option maxRecDepth 20000 in
theorem gX10_verify_X6_find : GoodIn wsX10_verify (wsV RX10 180 RX6 yX6_find wsX6_find) := goodIn_app (goodIn_of _ (by decide +kernel)) ggX10_verify_X6_find
set_option maxRecDepth 20000 in
theorem ggX10_verify_X10_follow : GoodIn wsX10_verify wsX10_follow := goodIn_r _ [166, 4, 3, 167, 168, 1, 7, 169, 170, 171, 172, 173, 174, 175, 176, 34, 177, 155, 178, 75, 76, 77, 159, 98, 99, 58, 100, 60, 69, 179, 180, 181, 182, 183, 184, 185, 186, 187, 188, 189, 190, 191, 192, 193, 194, 195, 196, 197, 198, 199, 200, 45, 201, 202, 203, 204, 56, 57, 59, 205, 206, 207, 208, 209, 210, 211, 212, 213, 214, 215, 216, 217, 218, 219, 66, 67, 68, 70, 71, 72, 73, 74, 220, 94, 95, 96, 221, 62, 63, 64, 65, 222, 223, 224, 225, 226, 227, 43, 44, 46, 47, 48, 228, 83, 84, 85, 86, 87, 88, 89, 90, 91, 92, 93, 97, 101, 102, 103, 104, 105, 106, 107, 108, 109, 110, 111, 112, 113, 114, 115, 116, 117, 118, 119, 120, 121, 122, 123, 124, 125, 126, 127, 128, 129, 130, 131, 132, 133, 134, 135, 136, 137, 138, 139, 140, 141, 142, 143, 144, 229, 230, 231, 232, 233, 234, 235, 236, 237, 238, 239, 240, 241, 242, 243, 244, 245, 79, 80, 81, 246, 22, 23, 16, 24, 25, 26, 18, 247, 248, 249, 250, 251, 252, 253, 254, 255, 256, 257, 258, 259, 260, 261, 262, 263, 264, 28, 29, 30, 265, 266, 267, 268, 269, 270, 271, 272, 273, 274, 275, 276, 277, 278, 284, 285, 286, 287, 288, 289, 290, 291, 292, 293, 294, 295, 296, 297, 300, 301, 302, 303, 304, 305, 306, 307, 308, 309, 310, 298, 299, 323, 324, 325, 326, 327, 311, 312, 313, 314, 315, 316, 317, 318, 319, 320, 321, 322, 328, 329, 330, 331, 332, 333, 334, 335, 336, 337] rfl (by decide +kernel)
set_option maxRecDepth 20000 in
theorem gX10_verify_X10_follow : GoodIn wsX10_verify (wsV RX10 184 RX10 yX10_follow wsX10_follow) := goodIn_app (goodIn_of _ (by decide +kernel)) ggX10_verify_X10_follow
set_option maxRecDepth 20000 in
theorem ggX10_verify_X7_sameAs : GoodIn wsX10_verify wsX7_sameAs := goodIn_r _ [282, 60, 283, 98, 99, 58, 100, 69, 298, 299] rfl (by decide +kernel)
set_option maxRecDepth 20000 in
theorem gX10_verify_X7_sameAs : GoodIn wsX10_verify (wsV RX10 187 RX7 yX7_sameAs wsX7_sameAs) := goodIn_app (goodIn_of _ (by decide +kernel)) ggX10_verify_X7_sameAs
theorem dX10_verify_0 : decode cX10_verify 0 = .ok (.aload_n 0, 1) := by decide +kernel
theorem dX10_verify_1 : decode cX10_verify 1 = .ok (.invokevirtual 169, 3) := by decide +kernel
theorem dX10_verify_4 : decode cX10_verify 4 = .ok (.ifCond .ne 6, 3) := by decide +kernel
theorem dX10_verify_7 : decode cX10_verify 7 = .ok (.bipush (-3), 2) := by decide +kernel
theorem dX10_verify_9 : decode cX10_verify 9 = .ok (.ireturn, 1) := by decide +kernel
theorem dX10_verify_10 : decode cX10_verify 10 = .ok (.aload_n 0, 1) := by decide +kernel
theorem dX10_verify_11 : decode cX10_verify 11 = .ok (.getfield 30, 3) := by decide +kernel
theorem dX10_verify_14 : decode cX10_verify 14 = .ok (.getfield 95, 3) := by decide +kernel
theorem dX10_verify_17 : decode cX10_verify 17 = .ok (.aload_n 0, 1) := by decide +kernel
theorem dX10_verify_18 : decode cX10_verify 18 = .ok (.getfield 42, 3) := by decide +kernel
theorem dX10_verify_21 : decode cX10_verify 21 = .ok (.invokevirtual 137, 3) := by decide +kernel
theorem dX10_verify_24 : decode cX10_verify 24 = .ok (.if_icmp .eq 5, 3) := by decide +kernel
theorem dX10_verify_27 : decode cX10_verify 27 = .ok (.iconst 0, 1) := by decide +kernel
theorem dX10_verify_28 : decode cX10_verify 28 = .ok (.ireturn, 1) := by decide +kernel
theorem dX10_verify_29 : decode cX10_verify 29 = .ok (.aload_n 0, 1) := by decide +kernel
theorem dX10_verify_30 : decode cX10_verify 30 = .ok (.getfield 87, 3) := by decide +kernel
theorem dX10_verify_33 : decode cX10_verify 33 = .ok (.aload_n 0, 1) := by decide +kernel
theorem dX10_verify_34 : decode cX10_verify 34 = .ok (.getfield 30, 3) := by decide +kernel
theorem dX10_verify_37 : decode cX10_verify 37 = .ok (.aload_n 0, 1) := by decide +kernel
theorem dX10_verify_38 : decode cX10_verify 38 = .ok (.getfield 27, 3) := by decide +kernel
theorem dX10_verify_41 : decode cX10_verify 41 = .ok (.aload_n 0, 1) := by decide +kernel
theorem dX10_verify_42 : decode cX10_verify 42 = .ok (.getfield 14, 3) := by decide +kernel
theorem dX10_verify_45 : decode cX10_verify 45 = .ok (.invokevirtual 180, 3) := by decide +kernel
theorem dX10_verify_48 : decode cX10_verify 48 = .ok (.aload_n 0, 1) := by decide +kernel
theorem dX10_verify_49 : decode cX10_verify 49 = .ok (.invokevirtual 184, 3) := by decide +kernel
theorem dX10_verify_52 : decode cX10_verify 52 = .ok (.aload_n 0, 1) := by decide +kernel
theorem dX10_verify_53 : decode cX10_verify 53 = .ok (.getfield 36, 3) := by decide +kernel
theorem dX10_verify_56 : decode cX10_verify 56 = .ok (.aload_n 0, 1) := by decide +kernel
theorem dX10_verify_57 : decode cX10_verify 57 = .ok (.getfield 27, 3) := by decide +kernel
theorem dX10_verify_60 : decode cX10_verify 60 = .ok (.invokevirtual 187, 3) := by decide +kernel
theorem dX10_verify_63 : decode cX10_verify 63 = .ok (.ifCond .eq 7, 3) := by decide +kernel
theorem dX10_verify_66 : decode cX10_verify 66 = .ok (.iconst 1, 1) := by decide +kernel
theorem dX10_verify_67 : decode cX10_verify 67 = .ok (.goto 4, 3) := by decide +kernel
theorem dX10_verify_70 : decode cX10_verify 70 = .ok (.iconst 0, 1) := by decide +kernel
theorem dX10_verify_71 : decode cX10_verify 71 = .ok (.ireturn, 1) := by decide +kernel
set_option maxRecDepth 20000 in
theorem ggX10_follow_X6_treeNumber : GoodIn wsX10_follow wsX6_treeNumber := goodIn_r _ [16, 17, 18, 19, 20, 21, 22, 23, 24, 25, 26, 27, 28, 242, 243, 244, 245, 246, 247, 248] rfl (by decide +kernel)
set_option maxRecDepth 20000 in
theorem gX10_follow_X6_treeNumber : GoodIn wsX10_follow (wsV RX10 215 RX6 yX6_treeNumber wsX6_treeNumber) := goodIn_app (goodIn_of _ (by decide +kernel)) ggX10_follow_X6_treeNumber
set_option maxRecDepth 20000 in
theorem ggX10_follow_X6_leafNumber : GoodIn wsX10_follow wsX6_leafNumber := goodIn_r _ [32, 17, 18, 19, 20, 21, 22, 23, 24, 25, 26, 27, 28, 242, 243, 244, 245, 246, 247, 248] rfl (by decide +kernel)
set_option maxRecDepth 20000 in
theorem gX10_follow_X6_leafNumber : GoodIn wsX10_follow (wsV RX10 218 RX6 yX6_leafNumber wsX6_leafNumber) := goodIn_app (goodIn_of _ (by decide +kernel)) ggX10_follow_X6_leafNumber
set_option maxRecDepth 20000 in
theorem ggX10_follow_X1_lead : GoodIn wsX10_follow wsX1_lead := goodIn_r _ [37, 38, 39, 40, 41, 42, 43, 44, 45, 46, 30, 31, 15, 32, 17, 18, 19, 20, 21, 22, 23, 24, 25, 26, 27, 28, 47, 13, 14, 16, 48, 49, 50, 51, 52, 53, 54, 55, 56, 57, 58, 59, 60, 61, 62, 63, 64, 65, 66, 67, 68, 69, 70, 71, 72, 73, 74, 75, 76, 77, 78, 79, 80, 81, 82, 83, 84, 85, 86, 87, 88, 89, 90, 91, 92, 93, 94, 95, 96, 97, 98, 99, 100, 101, 102, 103, 104, 105, 106, 107, 108, 109, 110, 111, 112, 113, 114, 115, 116, 117, 118, 119, 120, 121, 122, 123, 124, 125, 126, 127, 128, 129, 130, 131, 132, 133, 134, 135, 136, 137, 138, 139, 140, 141, 142, 143, 144, 145, 146, 147, 148, 149, 150, 151, 152, 153, 154, 155, 156, 157, 158, 159, 160, 161, 162, 163, 164, 165, 166, 167, 168, 169, 170, 171, 172, 173, 36, 174, 175, 176, 177, 178, 249, 250, 251, 252, 253, 236, 237, 238, 239, 240, 241, 254, 255, 256, 257, 258, 259, 260, 261, 242, 243, 244, 245, 246, 247, 248, 262, 263, 264, 265, 266, 267, 268, 269] rfl (by decide +kernel)
set_option maxRecDepth 20000 in
theorem gX10_follow_X1_lead : GoodIn wsX10_follow (wsV RX10 235 RX1 yX1_lead wsX1_lead) := goodIn_app (goodIn_of _ (by decide +kernel)) ggX10_follow_X1_lead
set_option maxRecDepth 20000 in
theorem ggX10_follow_X8_fewSize : GoodIn wsX10_follow wsX8_fewSize := goodIn_r _ [183, 184, 185, 186, 236, 237, 238, 239, 240, 241] rfl (by decide +kernel)
set_option maxRecDepth 20000 in
theorem gX10_follow_X8_fewSize : GoodIn wsX10_follow (wsV RX10 239 RX8 yX8_fewSize wsX8_fewSize) := goodIn_app (goodIn_of _ (by decide +kernel)) ggX10_follow_X8_fewSize
set_option maxRecDepth 20000 in
theorem ggX10_follow_X5_moveTo : GoodIn wsX10_follow wsX5_moveTo := goodIn_r _ [52, 53, 54, 254, 255, 256, 257, 258, 259, 260, 261] rfl (by decide +kernel)
set_option maxRecDepth 20000 in
theorem gX10_follow_X5_moveTo : GoodIn wsX10_follow (wsV RX10 242 RX5 yX5_moveTo wsX5_moveTo) := goodIn_app (goodIn_of _ (by decide +kernel)) ggX10_follow_X5_moveTo
set_option maxRecDepth 20000 in
theorem ggX10_follow_X0_lead : GoodIn wsX10_follow wsX0_lead := goodIn_r _ [192, 193, 194, 195, 196, 197, 198, 199, 200, 201, 191, 202, 203, 23, 24, 25, 26, 27, 28, 204, 205, 206, 182, 207, 186, 208, 56, 57, 58, 209, 87, 88, 89, 90, 74, 75, 76, 77, 78, 79, 80, 81, 19, 20, 21, 210, 211, 212, 51, 213, 69, 67, 71, 214, 64, 65, 66, 68, 70, 53, 54, 72, 73, 82, 83, 84, 85, 215, 216, 92, 93, 94, 95, 96, 97, 98, 99, 100, 101, 102, 103, 104, 105, 106, 107, 108, 109, 110, 111, 112, 113, 114, 115, 116, 117, 118, 119, 120, 121, 122, 123, 124, 125, 126, 127, 128, 129, 130, 131, 132, 133, 134, 135, 136, 137, 138, 139, 140, 141, 142, 143, 144, 145, 146, 147, 148, 149, 150, 151, 152, 153, 154, 155, 156, 157, 158, 217, 218, 176, 177, 178, 219, 270, 271, 272, 273, 274, 275, 236, 237, 238, 239, 240, 241, 254, 255, 256, 257, 258, 259, 260, 261, 247, 248, 262, 263, 264, 265] rfl (by decide +kernel)
set_option maxRecDepth 20000 in
theorem gX10_follow_X0_lead : GoodIn wsX10_follow (wsV RX10 245 RX0 yX0_lead wsX0_lead) := goodIn_app (goodIn_of _ (by decide +kernel)) ggX10_follow_X0_lead
set_option maxRecDepth 20000 in
theorem ggX10_follow_X8_len : GoodIn wsX10_follow wsX8_len := goodIn_r _ [207, 186, 236, 237, 238, 239, 240, 241] rfl (by decide +kernel)
set_option maxRecDepth 20000 in
theorem gX10_follow_X8_len : GoodIn wsX10_follow (wsV RX10 208 RX8 yX8_len wsX8_len) := goodIn_app (goodIn_of _ (by decide +kernel)) ggX10_follow_X8_len
set_option maxRecDepth 20000 in
theorem ggX10_follow_X9_leadPath : GoodIn wsX10_follow wsX9_leadPath := goodIn_r _ [163, 164, 165, 166, 167, 168, 64, 65, 51, 66, 67, 68, 69, 70, 71, 53, 54, 72, 56, 57, 25, 58, 27, 73, 74, 75, 76, 28, 77, 78, 79, 80, 81, 19, 20, 21, 82, 83, 84, 85, 169, 87, 88, 89, 90, 170, 92, 93, 94, 95, 96, 97, 98, 99, 100, 101, 102, 103, 104, 105, 106, 107, 108, 109, 110, 111, 112, 113, 114, 23, 24, 26, 115, 116, 117, 118, 119, 120, 121, 122, 123, 124, 125, 126, 127, 128, 129, 130, 131, 132, 133, 134, 135, 136, 137, 138, 139, 140, 141, 142, 143, 144, 145, 146, 147, 148, 149, 150, 151, 152, 153, 154, 155, 156, 157, 158, 266, 267, 268, 269, 236, 237, 238, 239, 240, 241, 254, 255, 256, 257, 258, 259, 260, 261, 247, 248, 262, 263, 264, 265] rfl (by decide +kernel)
set_option maxRecDepth 20000 in
theorem gX10_follow_X9_leadPath : GoodIn wsX10_follow (wsV RX10 248 RX9 yX9_leadPath wsX9_leadPath) := goodIn_app (goodIn_of _ (by decide +kernel)) ggX10_follow_X9_leadPath
theorem dX10_follow_0 : decode cX10_follow 0 = .ok (.aload_n 0, 1) := by decide +kernel
theorem dX10_follow_1 : decode cX10_follow 1 = .ok (.getfield 87, 3) := by decide +kernel
theorem dX10_follow_4 : decode cX10_follow 4 = .ok (.invokevirtual 215, 3) := by decide +kernel
theorem dX10_follow_7 : decode cX10_follow 7 = .ok (.istore_n 1, 1) := by decide +kernel
theorem dX10_follow_8 : decode cX10_follow 8 = .ok (.aload_n 0, 1) := by decide +kernel
theorem dX10_follow_9 : decode cX10_follow 9 = .ok (.getfield 87, 3) := by decide +kernel
theorem dX10_follow_12 : decode cX10_follow 12 = .ok (.invokevirtual 218, 3) := by decide +kernel
theorem dX10_follow_15 : decode cX10_follow 15 = .ok (.istore_n 2, 1) := by decide +kernel
theorem dX10_follow_16 : decode cX10_follow 16 = .ok (.aload_n 0, 1) := by decide +kernel
theorem dX10_follow_17 : decode cX10_follow 17 = .ok (.getfield 42, 3) := by decide +kernel
theorem dX10_follow_20 : decode cX10_follow 20 = .ok (.getfield 162, 3) := by decide +kernel
theorem dX10_follow_23 : decode cX10_follow 23 = .ok (.istore_n 3, 1) := by decide +kernel
theorem dX10_follow_24 : decode cX10_follow 24 = .ok (.aload_n 0, 1) := by decide +kernel
theorem dX10_follow_25 : decode cX10_follow 25 = .ok (.getfield 78, 3) := by decide +kernel
theorem dX10_follow_28 : decode cX10_follow 28 = .ok (.aload_n 0, 1) := by decide +kernel
theorem dX10_follow_29 : decode cX10_follow 29 = .ok (.getfield 87, 3) := by decide +kernel
theorem dX10_follow_32 : decode cX10_follow 32 = .ok (.aload_n 0, 1) := by decide +kernel
theorem dX10_follow_33 : decode cX10_follow 33 = .ok (.getfield 30, 3) := by decide +kernel
theorem dX10_follow_36 : decode cX10_follow 36 = .ok (.iload_n 3, 1) := by decide +kernel
theorem dX10_follow_37 : decode cX10_follow 37 = .ok (.aload_n 0, 1) := by decide +kernel
theorem dX10_follow_38 : decode cX10_follow 38 = .ok (.getfield 36, 3) := by decide +kernel
theorem dX10_follow_41 : decode cX10_follow 41 = .ok (.invokevirtual 235, 3) := by decide +kernel
theorem dX10_follow_44 : decode cX10_follow 44 = .ok (.iload_n 3, 1) := by decide +kernel
theorem dX10_follow_45 : decode cX10_follow 45 = .ok (.aload_n 0, 1) := by decide +kernel
theorem dX10_follow_46 : decode cX10_follow 46 = .ok (.getfield 42, 3) := by decide +kernel
theorem dX10_follow_49 : decode cX10_follow 49 = .ok (.invokevirtual 239, 3) := by decide +kernel
theorem dX10_follow_52 : decode cX10_follow 52 = .ok (.iadd, 1) := by decide +kernel
theorem dX10_follow_53 : decode cX10_follow 53 = .ok (.istore_n 3, 1) := by decide +kernel
theorem dX10_follow_54 : decode cX10_follow 54 = .ok (.iconst 0, 1) := by decide +kernel
theorem dX10_follow_55 : decode cX10_follow 55 = .ok (.istore 4, 2) := by decide +kernel
theorem dX10_follow_57 : decode cX10_follow 57 = .ok (.iload 4, 2) := by decide +kernel
theorem dX10_follow_59 : decode cX10_follow 59 = .ok (.aload_n 0, 1) := by decide +kernel
theorem dX10_follow_60 : decode cX10_follow 60 = .ok (.getfield 42, 3) := by decide +kernel
theorem dX10_follow_63 : decode cX10_follow 63 = .ok (.getfield 149, 3) := by decide +kernel
theorem dX10_follow_66 : decode cX10_follow 66 = .ok (.if_icmp .ge 102, 3) := by decide +kernel
theorem dX10_follow_69 : decode cX10_follow 69 = .ok (.aload_n 0, 1) := by decide +kernel
theorem dX10_follow_70 : decode cX10_follow 70 = .ok (.getfield 51, 3) := by decide +kernel
theorem dX10_follow_73 : decode cX10_follow 73 = .ok (.iload 4, 2) := by decide +kernel
theorem dX10_follow_75 : decode cX10_follow 75 = .ok (.iload_n 1, 1) := by decide +kernel
theorem dX10_follow_76 : decode cX10_follow 76 = .ok (.invokevirtual 242, 3) := by decide +kernel
theorem dX10_follow_79 : decode cX10_follow 79 = .ok (.aload_n 0, 1) := by decide +kernel
theorem dX10_follow_80 : decode cX10_follow 80 = .ok (.getfield 60, 3) := by decide +kernel
theorem dX10_follow_83 : decode cX10_follow 83 = .ok (.aload_n 0, 1) := by decide +kernel
theorem dX10_follow_84 : decode cX10_follow 84 = .ok (.getfield 30, 3) := by decide +kernel
theorem dX10_follow_87 : decode cX10_follow 87 = .ok (.iload_n 3, 1) := by decide +kernel
theorem dX10_follow_88 : decode cX10_follow 88 = .ok (.iload_n 2, 1) := by decide +kernel
theorem dX10_follow_89 : decode cX10_follow 89 = .ok (.aload_n 0, 1) := by decide +kernel
theorem dX10_follow_90 : decode cX10_follow 90 = .ok (.getfield 36, 3) := by decide +kernel
theorem dX10_follow_93 : decode cX10_follow 93 = .ok (.invokevirtual 245, 3) := by decide +kernel
theorem dX10_follow_96 : decode cX10_follow 96 = .ok (.iload_n 3, 1) := by decide +kernel
theorem dX10_follow_97 : decode cX10_follow 97 = .ok (.aload_n 0, 1) := by decide +kernel
theorem dX10_follow_98 : decode cX10_follow 98 = .ok (.getfield 42, 3) := by decide +kernel
theorem dX10_follow_101 : decode cX10_follow 101 = .ok (.invokevirtual 208, 3) := by decide +kernel
theorem dX10_follow_104 : decode cX10_follow 104 = .ok (.aload_n 0, 1) := by decide +kernel
theorem dX10_follow_105 : decode cX10_follow 105 = .ok (.getfield 42, 3) := by decide +kernel
theorem dX10_follow_108 : decode cX10_follow 108 = .ok (.getfield 162, 3) := by decide +kernel
theorem dX10_follow_111 : decode cX10_follow 111 = .ok (.imul, 1) := by decide +kernel
theorem dX10_follow_112 : decode cX10_follow 112 = .ok (.iadd, 1) := by decide +kernel
theorem dX10_follow_113 : decode cX10_follow 113 = .ok (.istore_n 3, 1) := by decide +kernel
theorem dX10_follow_114 : decode cX10_follow 114 = .ok (.aload_n 0, 1) := by decide +kernel
theorem dX10_follow_115 : decode cX10_follow 115 = .ok (.getfield 69, 3) := by decide +kernel
theorem dX10_follow_118 : decode cX10_follow 118 = .ok (.iconst 2, 1) := by decide +kernel
theorem dX10_follow_119 : decode cX10_follow 119 = .ok (.iconst 0, 1) := by decide +kernel
theorem dX10_follow_120 : decode cX10_follow 120 = .ok (.aload_n 0, 1) := by decide +kernel
theorem dX10_follow_121 : decode cX10_follow 121 = .ok (.getfield 42, 3) := by decide +kernel
theorem dX10_follow_124 : decode cX10_follow 124 = .ok (.getfield 228, 3) := by decide +kernel
theorem dX10_follow_127 : decode cX10_follow 127 = .ok (.iload_n 2, 1) := by decide +kernel
theorem dX10_follow_128 : decode cX10_follow 128 = .ok (.aload_n 0, 1) := by decide +kernel
theorem dX10_follow_129 : decode cX10_follow 129 = .ok (.getfield 30, 3) := by decide +kernel
theorem dX10_follow_132 : decode cX10_follow 132 = .ok (.iload_n 3, 1) := by decide +kernel
theorem dX10_follow_133 : decode cX10_follow 133 = .ok (.aload_n 0, 1) := by decide +kernel
theorem dX10_follow_134 : decode cX10_follow 134 = .ok (.getfield 36, 3) := by decide +kernel
theorem dX10_follow_137 : decode cX10_follow 137 = .ok (.invokevirtual 248, 3) := by decide +kernel
theorem dX10_follow_140 : decode cX10_follow 140 = .ok (.iload_n 3, 1) := by decide +kernel
theorem dX10_follow_141 : decode cX10_follow 141 = .ok (.aload_n 0, 1) := by decide +kernel
theorem dX10_follow_142 : decode cX10_follow 142 = .ok (.getfield 42, 3) := by decide +kernel
theorem dX10_follow_145 : decode cX10_follow 145 = .ok (.getfield 228, 3) := by decide +kernel
theorem dX10_follow_148 : decode cX10_follow 148 = .ok (.aload_n 0, 1) := by decide +kernel
theorem dX10_follow_149 : decode cX10_follow 149 = .ok (.getfield 42, 3) := by decide +kernel
theorem dX10_follow_152 : decode cX10_follow 152 = .ok (.getfield 162, 3) := by decide +kernel
theorem dX10_follow_155 : decode cX10_follow 155 = .ok (.imul, 1) := by decide +kernel
theorem dX10_follow_156 : decode cX10_follow 156 = .ok (.iadd, 1) := by decide +kernel
theorem dX10_follow_157 : decode cX10_follow 157 = .ok (.istore_n 3, 1) := by decide +kernel
theorem dX10_follow_158 : decode cX10_follow 158 = .ok (.iload_n 1, 1) := by decide +kernel
theorem dX10_follow_159 : decode cX10_follow 159 = .ok (.istore_n 2, 1) := by decide +kernel
theorem dX10_follow_160 : decode cX10_follow 160 = .ok (.iconst 0, 1) := by decide +kernel
theorem dX10_follow_161 : decode cX10_follow 161 = .ok (.istore_n 1, 1) := by decide +kernel
theorem dX10_follow_162 : decode cX10_follow 162 = .ok (.iinc 4 1, 3) := by decide +kernel
theorem dX10_follow_165 : decode cX10_follow 165 = .ok (.goto (-108), 3) := by decide +kernel
theorem dX10_follow_168 : decode cX10_follow 168 = .ok (.return_, 1) := by decide +kernel
set_option maxHeartbeats 4000000 in
set_option maxRecDepth 100000 in
/-- key -/
theorem c_key (l : Launch) (g : jG) (so : Nat) (tpr : Nat) (khr : Nat) (sdr : Nat) (tdr : Nat) (kr : Nat) (sgr : Nat) (srr : Nat) (ldr : Nat) (sp : Nat) (hh : Nat) (ch : Nat) (te : Nat) (ft : Nat) (pt : Nat) (fm : Nat) (nn : Nat) (ht : Nat) (lys : Nat) (fa : Nat) (mk : Nat) (inr : Nat) (outr : Nat) (zo : Nat) (on : Nat) (oly : Int32) (otr : Int32) (sda : Nat) (sd : Nat → Int32) (ina : Nat) (ni : Nat) (fi : Nat → Int32) (outa : Nat) (no : Nat) (fo : Nat → Int32) (sa : Nat) (wa : Nat) (S0 : Nat → Int32) (w0 : Nat → Int32) (aa : Nat) (ba : Nat) (A0 : Nat → Int64) (B0 : Nat → Int64) (lvr : Nat) (kna : Nat) (dga : Nat) (enr : Nat) (lva : Nat) (lvs : Nat → Int32) (kn : Nat → Int32) (ena : Nat) (ne : Nat) (ef : Nat → Int32) (lvl : Nat) (lvla : Nat) (nlv : Nat) (lf : Nat → Int32) (kra : Nat) (nk : Nat) (kf : Nat → Int32) (hfm : fm < 2) (hnn4 : nn = 4 ∨ nn = 8 ∨ nn = 12 ∨ nn = 16) (hht : 1 ≤ ht ∧ ht ≤ 2) (hlys : 1 ≤ lys ∧ lys ≤ 2) (hfa : 1 ≤ fa ∧ fa ≤ 4) (hmk : 1 ≤ mk ∧ mk ≤ 6) (hB : isB sd) (hno : no ≤ 32) (hBo : isB fo) (hni0 : ni ≤ 768) (hLvB : isB lvs) (hCa : cache fm nn sd lvs kn) (hne : ne ≤ 560) (hEB : isB ef) (hnlv : nlv ≤ 256) (hLB : isB lf) (hnk : nk ≤ 16) (hKB : isB kf) : jC l g yX10_key wsX10_key ({ frames := 6, cells := 0, slots := 0, locals := 165 } : Room) [.ref so] [oB so 10 [.ref tpr, .ref khr, .ref sdr, .ref tdr, .ref kr, .ref sgr, .ref srr, .ref ldr, .ref sp, .ref hh, .ref ch, .ref te, .ref ft, .ref pt], oB sp 8 [.int (nI fm), .int (nI nn), .int (nI ht), .int (nI lys), .int (nI fa), .int (nI mk)], oB hh 5 [.ref inr, .ref outr, .ref zo, .ref on, .ref sp, .ref sdr, .int oly, .int otr], oB sdr 7 [.ref sda, .int (nI 48)], bA g sda 48 sd, oB inr 7 [.ref ina, .int (nI ni)], bA g ina 768 fi, oB outr 7 [.ref outa, .int (nI no)], bA g outa 32 fo, oB zo 4 [.ref sa, .ref wa], iA g sa 8 S0, iA g wa 64 w0, oB on 3 [.ref aa, .ref ba], lA g aa 25 A0, lA g ba 25 B0, oB ch 0 [.ref lvr, .ref kna, .ref dga, .ref enr, .ref sp, .ref hh], oB lvr 7 [.ref lva, .int (nI 512)], bA g lva 512 lvs, zA g kna 32 kn, oB enr 7 [.ref ena, .int (nI ne)], bA g ena 560 ef, oB te 9 [.ref lvl, .ref sp, .ref hh, .ref ch], oB lvl 7 [.ref lvla, .int (nI nlv)], bA g lvla 256 lf, oB kr 7 [.ref kra, .int (nI nk)], bA g kra 16 kf] (fun jj : Nat × (Nat → Int32) × (Nat → Int32) × (Nat → Int64) × (Nat → Int64) × Nat × (Nat → Int32) × (Nat → Int32) × (Nat → Int32) × (Nat → Int32) × Nat × (Nat → Int32) × Nat × (Nat → Int32) × (Nat → Int32) => some (.int (nI 1))) (fun jj : Nat × (Nat → Int32) × (Nat → Int32) × (Nat → Int64) × (Nat → Int64) × Nat × (Nat → Int32) × (Nat → Int32) × (Nat → Int32) × (Nat → Int32) × Nat × (Nat → Int32) × Nat × (Nat → Int32) × (Nat → Int32) => (jj.2.2.2.2.2.1 ≤ 768 ∧ jj.1 ≤ 32 ∧ jj.2.2.2.2.2.2.2.2.2.2.1 ≤ 560 ∧ jj.2.2.2.2.2.2.2.2.2.2.2.2.1 ≤ 256) ∧ isB jj.2.2.2.2.2.2.2.1 ∧ isB jj.2.2.2.2.2.2.2.2.1 ∧ isB jj.2.2.2.2.2.2.2.2.2.2.2.1 ∧ cache fm nn sd jj.2.2.2.2.2.2.2.2.1 jj.2.2.2.2.2.2.2.2.2.1 ∧ isB jj.2.2.2.2.2.2.2.2.2.2.2.2.2.1 ∧ jj.2.2.2.2.2.2.2.2.2.2.2.2.2.2 = putL kf 0 (ND fm nn sd (lys - 1) 0 ht 0)) (fun jj : Nat × (Nat → Int32) × (Nat → Int32) × (Nat → Int64) × (Nat → Int64) × Nat × (Nat → Int32) × (Nat → Int32) × (Nat → Int32) × (Nat → Int32) × Nat × (Nat → Int32) × Nat × (Nat → Int32) × (Nat → Int32) => [oB so 10 [.ref tpr, .ref khr, .ref sdr, .ref tdr, .ref kr, .ref sgr, .ref srr, .ref ldr, .ref sp, .ref hh, .ref ch, .ref te, .ref ft, .ref pt], oB sp 8 [.int (nI fm), .int (nI nn), .int (nI ht), .int (nI lys), .int (nI fa), .int (nI mk)], oB hh 5 [.ref inr, .ref outr, .ref zo, .ref on, .ref sp, .ref sdr, .int (nI (lys - 1)), .int (nI 0)], oB sdr 7 [.ref sda, .int (nI 48)], bA g sda 48 sd, oB inr 7 [.ref ina, .int (nI jj.2.2.2.2.2.1)], bA g ina 768 jj.2.2.2.2.2.2.1, oB outr 7 [.ref outa, .int (nI jj.1)], bA g outa 32 jj.2.2.2.2.2.2.2.1, oB zo 4 [.ref sa, .ref wa], iA g sa 8 jj.2.1, iA g wa 64 jj.2.2.1, oB on 3 [.ref aa, .ref ba], lA g aa 25 jj.2.2.2.1, lA g ba 25 jj.2.2.2.2.1, oB ch 0 [.ref lvr, .ref kna, .ref dga, .ref enr, .ref sp, .ref hh], oB lvr 7 [.ref lva, .int (nI 512)], bA g lva 512 jj.2.2.2.2.2.2.2.2.1, zA g kna 32 jj.2.2.2.2.2.2.2.2.2.1, oB enr 7 [.ref ena, .int (nI jj.2.2.2.2.2.2.2.2.2.2.1)], bA g ena 560 jj.2.2.2.2.2.2.2.2.2.2.2.1, oB te 9 [.ref lvl, .ref sp, .ref hh, .ref ch], oB lvl 7 [.ref lvla, .int (nI jj.2.2.2.2.2.2.2.2.2.2.2.2.1)], bA g lvla 256 jj.2.2.2.2.2.2.2.2.2.2.2.2.2.1, oB kr 7 [.ref kra, .int (nI nn)], bA g kra 16 jj.2.2.2.2.2.2.2.2.2.2.2.2.2.2]) := by
  refine jC.of (cc := cX10_key) (own := RX10) (maxL := 1) (ret := (some .int)) (by decide +kernel) rfl rfl (Nat.le_of_ble_eq_true rfl) (fun u hu => ⟨_, rfl, rfl⟩) ?_
  intro p e s m below meth c A Q hX hret
  have in8 : ∀ w ∈ wsX80, w ∈ wsX10_key := (fun w h => List.mem_cons_of_mem _ (List.mem_append_left _ (List.mem_append_left _ (List.mem_append_left _ (List.mem_append_left _ (List.mem_append_left _ (List.mem_append_left _ (List.mem_append_right _ h))))))))
  have in9 : ∀ w ∈ wsX90, w ∈ wsX10_key := (fun w h => List.mem_cons_of_mem _ (List.mem_append_left _ (List.mem_append_left _ (List.mem_append_left _ (List.mem_append_left _ (List.mem_append_left _ (List.mem_append_right _ h)))))))
  have in10 : ∀ w ∈ wsX100, w ∈ wsX10_key := (fun w h => List.mem_cons_of_mem _ (List.mem_append_left _ (List.mem_append_left _ (List.mem_append_left _ (List.mem_append_left _ (List.mem_append_left _ (List.mem_append_left _ (List.mem_append_left _ (List.mem_append_right _ h)))))))))
  have hp4 : 2 ^ ht ≤ 2 ^ 2 := Nat.pow_le_pow_right (by decide) hht.2
  have hnn : nn ≤ 16 := by omega
  have h64 : 2 ^ ht * nn ≤ 4 * 16 := Nat.mul_le_mul hp4 hnn
  have h1n : nn ≤ 2 ^ ht * nn := Nat.le_mul_of_pos_left nn (Nat.two_pow_pos ht)
  refine j_aload_n hX 0 dX10_key_0 rfl ?_
  refine j_get hX in10 10 0 11 (v := .ref te) rfl rfl (by decide) (List.mem_of_getElem? (i := 1) rfl) rfl rfl dX10_key_1 ?_
  refine j_aload_n hX 0 dX10_key_4 rfl ?_
  refine j_get hX in10 10 0 8 (v := .ref sp) rfl rfl (by decide) (List.mem_of_getElem? (i := 2) rfl) rfl rfl dX10_key_5 ?_
  refine j_get hX in8 8 1 3 (v := .int (nI lys)) rfl rfl (by decide) (List.mem_of_getElem? (i := 3) rfl) rfl rfl dX10_key_8 ?_
  refine j_iconst hX (1) dX10_key_11 (by decide) ?_
  refine j_isubN hX lys 1 (by omega) dX10_key_12 ?_
  refine j_pc 13 rfl ?_
  refine j_iconst hX (0) dX10_key_13 (by decide) ?_
  refine j_callV2 hX 2 (c_gather l g te lvl ch lvr kna dga enr hh inr outr zo on sp fm nn ht lys fa mk sdr oly otr sda sd ina ni fi outa no fo sa wa S0 w0 aa ba A0 B0 lva lvs kn ena ne ef lvla nlv lf (lys - 1) 0 (by omega) (by omega) hB (by omega) hBo (by omega) (by omega) (by omega) (by omega) hEB hLvB hCa (by omega) hLB) gX10_key_X9_gatherLeaves (by decide +kernel) rfl ⟨rfl, rfl⟩ ⟨Nat.le_of_ble_eq_true rfl, Nat.le_of_ble_eq_true rfl⟩ 9 21 rfl rfl [21, 15, 2, 1, 3, 4, 5, 6, 7, 8, 9, 10, 11, 12, 13, 14, 16, 17, 18, 19, 20, 22, 23] [0, 24, 25] 26 rfl (by decide) (fun jj : Nat × (Nat → Int32) × (Nat → Int32) × (Nat → Int64) × (Nat → Int64) × Nat × (Nat → Int32) × (Nat → Int32) × (Nat → Int32) × (Nat → Int32) × Nat × (Nat → Int32) × (Nat → Int32) => [oB so 10 [.ref tpr, .ref khr, .ref sdr, .ref tdr, .ref kr, .ref sgr, .ref srr, .ref ldr, .ref sp, .ref hh, .ref ch, .ref te, .ref ft, .ref pt], oB sp 8 [.int (nI fm), .int (nI nn), .int (nI ht), .int (nI lys), .int (nI fa), .int (nI mk)], oB hh 5 [.ref inr, .ref outr, .ref zo, .ref on, .ref sp, .ref sdr, .int (nI (lys - 1)), .int (nI 0)], oB sdr 7 [.ref sda, .int (nI 48)], bA g sda 48 sd, oB inr 7 [.ref ina, .int (nI jj.2.2.2.2.2.1)], bA g ina 768 jj.2.2.2.2.2.2.1, oB outr 7 [.ref outa, .int (nI jj.1)], bA g outa 32 jj.2.2.2.2.2.2.2.1, oB zo 4 [.ref sa, .ref wa], iA g sa 8 jj.2.1, iA g wa 64 jj.2.2.1, oB on 3 [.ref aa, .ref ba], lA g aa 25 jj.2.2.2.1, lA g ba 25 jj.2.2.2.2.1, oB ch 0 [.ref lvr, .ref kna, .ref dga, .ref enr, .ref sp, .ref hh], oB lvr 7 [.ref lva, .int (nI 512)], bA g lva 512 jj.2.2.2.2.2.2.2.2.1, zA g kna 32 jj.2.2.2.2.2.2.2.2.2.1, oB enr 7 [.ref ena, .int (nI jj.2.2.2.2.2.2.2.2.2.2.1)], bA g ena 560 jj.2.2.2.2.2.2.2.2.2.2.2.1, oB te 9 [.ref lvl, .ref sp, .ref hh, .ref ch], oB lvl 7 [.ref lvla, .int (nI (2 ^ ht * nn))], bA g lvla 256 jj.2.2.2.2.2.2.2.2.2.2.2.2, oB kr 7 [.ref kra, .int (nI nk)], bA g kra 16 kf]) (fun _ => rfl) (by decide) [so, sp, hh, sdr, sda, inr, ina, outr, outa, zo, sa, wa, on, aa, ba, ch, lvr, lva, kna, enr, ena, te, lvl, lvla, kr, kra] rfl (fun _ => rfl) (fun _ => rfl) [oB so 10 [.ref tpr, .ref khr, .ref sdr, .ref tdr, .ref kr, .ref sgr, .ref srr, .ref ldr, .ref sp, .ref hh, .ref ch, .ref te, .ref ft, .ref pt], oB kr 7 [.ref kra, .int (nI nk)], bA g kra 16 kf] rfl (fun _ => rfl) rfl [] rfl (Nat.le_of_ble_eq_true rfl) ⟨Nat.le_refl _, Nat.le_refl _⟩ dX10_key_14 ?_
  rintro ⟨no9, S9, w9, A9, B9, nl9, G9, FO9, L9, K9, ne9, E9, LL9⟩ hG
  try dsimp only at hG
  refine j_w [oB so 10 [.ref tpr, .ref khr, .ref sdr, .ref tdr, .ref kr, .ref sgr, .ref srr, .ref ldr, .ref sp, .ref hh, .ref ch, .ref te, .ref ft, .ref pt], oB sp 8 [.int (nI fm), .int (nI nn), .int (nI ht), .int (nI lys), .int (nI fa), .int (nI mk)], oB hh 5 [.ref inr, .ref outr, .ref zo, .ref on, .ref sp, .ref sdr, .int (nI (lys - 1)), .int (nI 0)], oB sdr 7 [.ref sda, .int (nI 48)], bA g sda 48 sd, oB inr 7 [.ref ina, .int (nI nl9)], bA g ina 768 G9, oB outr 7 [.ref outa, .int (nI no9)], bA g outa 32 FO9, oB zo 4 [.ref sa, .ref wa], iA g sa 8 S9, iA g wa 64 w9, oB on 3 [.ref aa, .ref ba], lA g aa 25 A9, lA g ba 25 B9, oB ch 0 [.ref lvr, .ref kna, .ref dga, .ref enr, .ref sp, .ref hh], oB lvr 7 [.ref lva, .int (nI 512)], bA g lva 512 L9, zA g kna 32 K9, oB enr 7 [.ref ena, .int (nI ne9)], bA g ena 560 E9, oB te 9 [.ref lvl, .ref sp, .ref hh, .ref ch], oB lvl 7 [.ref lvla, .int (nI (2 ^ ht * nn))], bA g lvla 256 LL9, oB kr 7 [.ref kra, .int (nI nk)], bA g kra 16 kf] rfl ?_
  refine j_st [] rfl ?_
  refine j_aload_n hX 0 dX10_key_17 rfl ?_
  refine j_get hX in10 10 0 11 (v := .ref te) rfl rfl (by decide) (List.mem_of_getElem? (i := 1) rfl) rfl rfl dX10_key_18 ?_
  refine j_callV2 hX 0 (c_climb l g te lvl ch hh inr outr zo on sp fm nn ht lys fa mk sdr (lys - 1) 0 sda sd ina nl9 G9 outa no9 FO9 sa wa S9 w9 aa ba A9 B9 lvla (2 ^ ht * nn) LL9 (by omega) (by omega) hB hG.1.1.2.1 hG.1.2.1 hG.1.1.1 (by omega) (by omega) (Nat.le_refl _) hG.2.1 hG.2.2) gX10_key_X9_climb (by decide +kernel) rfl ⟨rfl, rfl⟩ ⟨Nat.le_of_ble_eq_true rfl, Nat.le_of_ble_eq_true rfl⟩ 9 21 rfl rfl [21, 2, 1, 3, 4, 5, 6, 7, 8, 9, 10, 11, 12, 13, 14, 22, 23] [0, 15, 16, 17, 18, 19, 20, 24, 25] 26 rfl (by decide) (fun jj : Nat × (Nat → Int32) × (Nat → Int32) × (Nat → Int64) × (Nat → Int64) × Nat × (Nat → Int32) × (Nat → Int32) × (Nat → Int32) => [oB so 10 [.ref tpr, .ref khr, .ref sdr, .ref tdr, .ref kr, .ref sgr, .ref srr, .ref ldr, .ref sp, .ref hh, .ref ch, .ref te, .ref ft, .ref pt], oB sp 8 [.int (nI fm), .int (nI nn), .int (nI ht), .int (nI lys), .int (nI fa), .int (nI mk)], oB hh 5 [.ref inr, .ref outr, .ref zo, .ref on, .ref sp, .ref sdr, .int (nI (lys - 1)), .int (nI 0)], oB sdr 7 [.ref sda, .int (nI 48)], bA g sda 48 sd, oB inr 7 [.ref ina, .int (nI jj.2.2.2.2.2.1)], bA g ina 768 jj.2.2.2.2.2.2.1, oB outr 7 [.ref outa, .int (nI jj.1)], bA g outa 32 jj.2.2.2.2.2.2.2.1, oB zo 4 [.ref sa, .ref wa], iA g sa 8 jj.2.1, iA g wa 64 jj.2.2.1, oB on 3 [.ref aa, .ref ba], lA g aa 25 jj.2.2.2.1, lA g ba 25 jj.2.2.2.2.1, oB ch 0 [.ref lvr, .ref kna, .ref dga, .ref enr, .ref sp, .ref hh], oB lvr 7 [.ref lva, .int (nI 512)], bA g lva 512 L9, zA g kna 32 K9, oB enr 7 [.ref ena, .int (nI ne9)], bA g ena 560 E9, oB te 9 [.ref lvl, .ref sp, .ref hh, .ref ch], oB lvl 7 [.ref lvla, .int (nI (2 ^ ht * nn))], bA g lvla 256 jj.2.2.2.2.2.2.2.2, oB kr 7 [.ref kra, .int (nI nk)], bA g kra 16 kf]) (fun _ => rfl) (by decide) [so, sp, hh, sdr, sda, inr, ina, outr, outa, zo, sa, wa, on, aa, ba, ch, lvr, lva, kna, enr, ena, te, lvl, lvla, kr, kra] rfl (fun _ => rfl) (fun _ => rfl) [oB so 10 [.ref tpr, .ref khr, .ref sdr, .ref tdr, .ref kr, .ref sgr, .ref srr, .ref ldr, .ref sp, .ref hh, .ref ch, .ref te, .ref ft, .ref pt], oB ch 0 [.ref lvr, .ref kna, .ref dga, .ref enr, .ref sp, .ref hh], oB lvr 7 [.ref lva, .int (nI 512)], bA g lva 512 L9, zA g kna 32 K9, oB enr 7 [.ref ena, .int (nI ne9)], bA g ena 560 E9, oB kr 7 [.ref kra, .int (nI nk)], bA g kra 16 kf] rfl (fun _ => rfl) rfl [] rfl (Nat.le_of_ble_eq_true rfl) ⟨Nat.le_refl _, Nat.le_refl _⟩ dX10_key_21 ?_
  rintro ⟨no8, S8, w8_, A8, B8, nl8, G8, FO8, L8⟩ hC
  try dsimp only at hC
  refine j_w [oB so 10 [.ref tpr, .ref khr, .ref sdr, .ref tdr, .ref kr, .ref sgr, .ref srr, .ref ldr, .ref sp, .ref hh, .ref ch, .ref te, .ref ft, .ref pt], oB sp 8 [.int (nI fm), .int (nI nn), .int (nI ht), .int (nI lys), .int (nI fa), .int (nI mk)], oB hh 5 [.ref inr, .ref outr, .ref zo, .ref on, .ref sp, .ref sdr, .int (nI (lys - 1)), .int (nI 0)], oB sdr 7 [.ref sda, .int (nI 48)], bA g sda 48 sd, oB inr 7 [.ref ina, .int (nI nl8)], bA g ina 768 G8, oB outr 7 [.ref outa, .int (nI no8)], bA g outa 32 FO8, oB zo 4 [.ref sa, .ref wa], iA g sa 8 S8, iA g wa 64 w8_, oB on 3 [.ref aa, .ref ba], lA g aa 25 A8, lA g ba 25 B8, oB ch 0 [.ref lvr, .ref kna, .ref dga, .ref enr, .ref sp, .ref hh], oB lvr 7 [.ref lva, .int (nI 512)], bA g lva 512 L9, zA g kna 32 K9, oB enr 7 [.ref ena, .int (nI ne9)], bA g ena 560 E9, oB te 9 [.ref lvl, .ref sp, .ref hh, .ref ch], oB lvl 7 [.ref lvla, .int (nI (2 ^ ht * nn))], bA g lvla 256 L8, oB kr 7 [.ref kra, .int (nI nk)], bA g kra 16 kf] rfl ?_
  refine j_st [] rfl ?_
  refine j_aload_n hX 0 dX10_key_24 rfl ?_
  refine j_get hX in10 10 0 4 (v := .ref kr) rfl rfl (by decide) (List.mem_of_getElem? (i := 4) rfl) rfl rfl dX10_key_25 ?_
  refine j_callV2 hX 0 (c_clear l g kr kra (nI nk) ) gX10_key_X7_clear (by decide +kernel) rfl ⟨rfl, rfl⟩ ⟨Nat.le_of_ble_eq_true rfl, Nat.le_of_ble_eq_true rfl⟩ 7 24 rfl rfl [24] [0, 1, 2, 3, 4, 5, 6, 7, 8, 9, 10, 11, 12, 13, 14, 15, 16, 17, 18, 19, 20, 21, 22, 23, 25] 26 rfl (by decide) (fun jj : Unit => [oB so 10 [.ref tpr, .ref khr, .ref sdr, .ref tdr, .ref kr, .ref sgr, .ref srr, .ref ldr, .ref sp, .ref hh, .ref ch, .ref te, .ref ft, .ref pt], oB sp 8 [.int (nI fm), .int (nI nn), .int (nI ht), .int (nI lys), .int (nI fa), .int (nI mk)], oB hh 5 [.ref inr, .ref outr, .ref zo, .ref on, .ref sp, .ref sdr, .int (nI (lys - 1)), .int (nI 0)], oB sdr 7 [.ref sda, .int (nI 48)], bA g sda 48 sd, oB inr 7 [.ref ina, .int (nI nl8)], bA g ina 768 G8, oB outr 7 [.ref outa, .int (nI no8)], bA g outa 32 FO8, oB zo 4 [.ref sa, .ref wa], iA g sa 8 S8, iA g wa 64 w8_, oB on 3 [.ref aa, .ref ba], lA g aa 25 A8, lA g ba 25 B8, oB ch 0 [.ref lvr, .ref kna, .ref dga, .ref enr, .ref sp, .ref hh], oB lvr 7 [.ref lva, .int (nI 512)], bA g lva 512 L9, zA g kna 32 K9, oB enr 7 [.ref ena, .int (nI ne9)], bA g ena 560 E9, oB te 9 [.ref lvl, .ref sp, .ref hh, .ref ch], oB lvl 7 [.ref lvla, .int (nI (2 ^ ht * nn))], bA g lvla 256 L8, oB kr 7 [.ref kra, .int (nI 0)], bA g kra 16 kf]) (fun _ => rfl) (by decide) [so, sp, hh, sdr, sda, inr, ina, outr, outa, zo, sa, wa, on, aa, ba, ch, lvr, lva, kna, enr, ena, te, lvl, lvla, kr, kra] rfl (fun _ => rfl) (fun _ => rfl) [oB so 10 [.ref tpr, .ref khr, .ref sdr, .ref tdr, .ref kr, .ref sgr, .ref srr, .ref ldr, .ref sp, .ref hh, .ref ch, .ref te, .ref ft, .ref pt], oB sp 8 [.int (nI fm), .int (nI nn), .int (nI ht), .int (nI lys), .int (nI fa), .int (nI mk)], oB hh 5 [.ref inr, .ref outr, .ref zo, .ref on, .ref sp, .ref sdr, .int (nI (lys - 1)), .int (nI 0)], oB sdr 7 [.ref sda, .int (nI 48)], bA g sda 48 sd, oB inr 7 [.ref ina, .int (nI nl8)], bA g ina 768 G8, oB outr 7 [.ref outa, .int (nI no8)], bA g outa 32 FO8, oB zo 4 [.ref sa, .ref wa], iA g sa 8 S8, iA g wa 64 w8_, oB on 3 [.ref aa, .ref ba], lA g aa 25 A8, lA g ba 25 B8, oB ch 0 [.ref lvr, .ref kna, .ref dga, .ref enr, .ref sp, .ref hh], oB lvr 7 [.ref lva, .int (nI 512)], bA g lva 512 L9, zA g kna 32 K9, oB enr 7 [.ref ena, .int (nI ne9)], bA g ena 560 E9, oB te 9 [.ref lvl, .ref sp, .ref hh, .ref ch], oB lvl 7 [.ref lvla, .int (nI (2 ^ ht * nn))], bA g lvla 256 L8, bA g kra 16 kf] rfl (fun _ => rfl) rfl [] rfl (Nat.le_of_ble_eq_true rfl) ⟨Nat.le_refl _, Nat.le_refl _⟩ dX10_key_28 ?_
  intro _ hu_1
  refine j_w [oB so 10 [.ref tpr, .ref khr, .ref sdr, .ref tdr, .ref kr, .ref sgr, .ref srr, .ref ldr, .ref sp, .ref hh, .ref ch, .ref te, .ref ft, .ref pt], oB sp 8 [.int (nI fm), .int (nI nn), .int (nI ht), .int (nI lys), .int (nI fa), .int (nI mk)], oB hh 5 [.ref inr, .ref outr, .ref zo, .ref on, .ref sp, .ref sdr, .int (nI (lys - 1)), .int (nI 0)], oB sdr 7 [.ref sda, .int (nI 48)], bA g sda 48 sd, oB inr 7 [.ref ina, .int (nI nl8)], bA g ina 768 G8, oB outr 7 [.ref outa, .int (nI no8)], bA g outa 32 FO8, oB zo 4 [.ref sa, .ref wa], iA g sa 8 S8, iA g wa 64 w8_, oB on 3 [.ref aa, .ref ba], lA g aa 25 A8, lA g ba 25 B8, oB ch 0 [.ref lvr, .ref kna, .ref dga, .ref enr, .ref sp, .ref hh], oB lvr 7 [.ref lva, .int (nI 512)], bA g lva 512 L9, zA g kna 32 K9, oB enr 7 [.ref ena, .int (nI ne9)], bA g ena 560 E9, oB te 9 [.ref lvl, .ref sp, .ref hh, .ref ch], oB lvl 7 [.ref lvla, .int (nI (2 ^ ht * nn))], bA g lvla 256 L8, oB kr 7 [.ref kra, .int (nI 0)], bA g kra 16 kf] rfl ?_
  refine j_st [] rfl ?_
  refine j_pc 31 rfl ?_
  refine j_aload_n hX 0 dX10_key_31 rfl ?_
  refine j_get hX in10 10 0 4 (v := .ref kr) rfl rfl (by decide) (List.mem_of_getElem? (i := 4) rfl) rfl rfl dX10_key_32 ?_
  refine j_aload_n hX 0 dX10_key_35 rfl ?_
  refine j_get hX in10 10 0 11 (v := .ref te) rfl rfl (by decide) (List.mem_of_getElem? (i := 1) rfl) rfl rfl dX10_key_36 ?_
  refine j_get hX in9 9 21 0 (v := .ref lvl) rfl rfl (by decide) (List.mem_of_getElem? (i := 5) rfl) rfl rfl dX10_key_39 ?_
  refine j_iconst hX (0) dX10_key_42 (by decide) ?_
  refine j_aload_n hX 0 dX10_key_43 rfl ?_
  refine j_get hX in10 10 0 8 (v := .ref sp) rfl rfl (by decide) (List.mem_of_getElem? (i := 2) rfl) rfl rfl dX10_key_44 ?_
  refine j_pc 47 rfl ?_
  refine j_get hX in8 8 1 1 (v := .int (nI nn)) rfl rfl (by decide) (List.mem_of_getElem? (i := 6) rfl) rfl rfl dX10_key_47 ?_
  refine j_callV2 hX 3 (c_add l g kr kra 0 16 kf lvl lvla (2 ^ ht * nn) 256 L8 0 nn (by omega) (by omega) (by omega) (by omega) hC.2.2.1 (by omega) (by omega)) gX10_key_X7_add (by decide +kernel) rfl ⟨rfl, rfl⟩ ⟨Nat.le_of_ble_eq_true rfl, Nat.le_of_ble_eq_true rfl⟩ 7 24 rfl rfl [24, 25, 22, 23] [0, 1, 2, 3, 4, 5, 6, 7, 8, 9, 10, 11, 12, 13, 14, 15, 16, 17, 18, 19, 20, 21] 26 rfl (by decide) (fun jj : (Nat → Int32) => [oB so 10 [.ref tpr, .ref khr, .ref sdr, .ref tdr, .ref kr, .ref sgr, .ref srr, .ref ldr, .ref sp, .ref hh, .ref ch, .ref te, .ref ft, .ref pt], oB sp 8 [.int (nI fm), .int (nI nn), .int (nI ht), .int (nI lys), .int (nI fa), .int (nI mk)], oB hh 5 [.ref inr, .ref outr, .ref zo, .ref on, .ref sp, .ref sdr, .int (nI (lys - 1)), .int (nI 0)], oB sdr 7 [.ref sda, .int (nI 48)], bA g sda 48 sd, oB inr 7 [.ref ina, .int (nI nl8)], bA g ina 768 G8, oB outr 7 [.ref outa, .int (nI no8)], bA g outa 32 FO8, oB zo 4 [.ref sa, .ref wa], iA g sa 8 S8, iA g wa 64 w8_, oB on 3 [.ref aa, .ref ba], lA g aa 25 A8, lA g ba 25 B8, oB ch 0 [.ref lvr, .ref kna, .ref dga, .ref enr, .ref sp, .ref hh], oB lvr 7 [.ref lva, .int (nI 512)], bA g lva 512 L9, zA g kna 32 K9, oB enr 7 [.ref ena, .int (nI ne9)], bA g ena 560 E9, oB te 9 [.ref lvl, .ref sp, .ref hh, .ref ch], oB lvl 7 [.ref lvla, .int (nI (2 ^ ht * nn))], bA g lvla 256 L8, oB kr 7 [.ref kra, .int (nI (0 + nn))], bA g kra 16 jj]) (fun _ => rfl) (by decide) [so, sp, hh, sdr, sda, inr, ina, outr, outa, zo, sa, wa, on, aa, ba, ch, lvr, lva, kna, enr, ena, te, lvl, lvla, kr, kra] rfl (fun _ => rfl) (fun _ => rfl) [oB so 10 [.ref tpr, .ref khr, .ref sdr, .ref tdr, .ref kr, .ref sgr, .ref srr, .ref ldr, .ref sp, .ref hh, .ref ch, .ref te, .ref ft, .ref pt], oB sp 8 [.int (nI fm), .int (nI nn), .int (nI ht), .int (nI lys), .int (nI fa), .int (nI mk)], oB hh 5 [.ref inr, .ref outr, .ref zo, .ref on, .ref sp, .ref sdr, .int (nI (lys - 1)), .int (nI 0)], oB sdr 7 [.ref sda, .int (nI 48)], bA g sda 48 sd, oB inr 7 [.ref ina, .int (nI nl8)], bA g ina 768 G8, oB outr 7 [.ref outa, .int (nI no8)], bA g outa 32 FO8, oB zo 4 [.ref sa, .ref wa], iA g sa 8 S8, iA g wa 64 w8_, oB on 3 [.ref aa, .ref ba], lA g aa 25 A8, lA g ba 25 B8, oB ch 0 [.ref lvr, .ref kna, .ref dga, .ref enr, .ref sp, .ref hh], oB lvr 7 [.ref lva, .int (nI 512)], bA g lva 512 L9, zA g kna 32 K9, oB enr 7 [.ref ena, .int (nI ne9)], bA g ena 560 E9, oB te 9 [.ref lvl, .ref sp, .ref hh, .ref ch]] rfl (fun _ => rfl) rfl [] rfl (Nat.le_of_ble_eq_true rfl) ⟨Nat.le_refl _, Nat.le_refl _⟩ dX10_key_50 ?_
  intro KF9 hK
  try dsimp only at hK
  refine j_w [oB so 10 [.ref tpr, .ref khr, .ref sdr, .ref tdr, .ref kr, .ref sgr, .ref srr, .ref ldr, .ref sp, .ref hh, .ref ch, .ref te, .ref ft, .ref pt], oB sp 8 [.int (nI fm), .int (nI nn), .int (nI ht), .int (nI lys), .int (nI fa), .int (nI mk)], oB hh 5 [.ref inr, .ref outr, .ref zo, .ref on, .ref sp, .ref sdr, .int (nI (lys - 1)), .int (nI 0)], oB sdr 7 [.ref sda, .int (nI 48)], bA g sda 48 sd, oB inr 7 [.ref ina, .int (nI nl8)], bA g ina 768 G8, oB outr 7 [.ref outa, .int (nI no8)], bA g outa 32 FO8, oB zo 4 [.ref sa, .ref wa], iA g sa 8 S8, iA g wa 64 w8_, oB on 3 [.ref aa, .ref ba], lA g aa 25 A8, lA g ba 25 B8, oB ch 0 [.ref lvr, .ref kna, .ref dga, .ref enr, .ref sp, .ref hh], oB lvr 7 [.ref lva, .int (nI 512)], bA g lva 512 L9, zA g kna 32 K9, oB enr 7 [.ref ena, .int (nI ne9)], bA g ena 560 E9, oB te 9 [.ref lvl, .ref sp, .ref hh, .ref ch], oB lvl 7 [.ref lvla, .int (nI (2 ^ ht * nn))], bA g lvla 256 L8, oB kr 7 [.ref kra, .int (nI (0 + nn))], bA g kra 16 KF9] rfl ?_
  refine j_st [] rfl ?_
  rw [hC.2.2.2] at hK
  refine j_w [oB so 10 [.ref tpr, .ref khr, .ref sdr, .ref tdr, .ref kr, .ref sgr, .ref srr, .ref ldr, .ref sp, .ref hh, .ref ch, .ref te, .ref ft, .ref pt], oB sp 8 [.int (nI fm), .int (nI nn), .int (nI ht), .int (nI lys), .int (nI fa), .int (nI mk)], oB hh 5 [.ref inr, .ref outr, .ref zo, .ref on, .ref sp, .ref sdr, .int (nI (lys - 1)), .int (nI 0)], oB sdr 7 [.ref sda, .int (nI 48)], bA g sda 48 sd, oB inr 7 [.ref ina, .int (nI nl8)], bA g ina 768 G8, oB outr 7 [.ref outa, .int (nI no8)], bA g outa 32 FO8, oB zo 4 [.ref sa, .ref wa], iA g sa 8 S8, iA g wa 64 w8_, oB on 3 [.ref aa, .ref ba], lA g aa 25 A8, lA g ba 25 B8, oB ch 0 [.ref lvr, .ref kna, .ref dga, .ref enr, .ref sp, .ref hh], oB lvr 7 [.ref lva, .int (nI 512)], bA g lva 512 L9, zA g kna 32 K9, oB enr 7 [.ref ena, .int (nI ne9)], bA g ena 560 E9, oB te 9 [.ref lvl, .ref sp, .ref hh, .ref ch], oB lvl 7 [.ref lvla, .int (nI (2 ^ ht * nn))], bA g lvla 256 L8, oB kr 7 [.ref kra, .int (nI nn)], bA g kra 16 KF9] (by rw [Nat.zero_add]) ?_
  refine j_iconst hX (1) dX10_key_53 (by decide) ?_
  exact hret (no8, S8, w8_, A8, B8, nl8, G8, FO8, L9, K9, ne9, E9, 2 ^ ht * nn, L8, KF9) (by dsimp only; exact ⟨⟨hC.1.1, hC.1.2, hG.1.1.2.2, by omega⟩, hC.2.1, hG.1.2.2.1, hG.1.2.2.2.1, hG.1.2.2.2.2, hC.2.2.1, hK⟩) 54 _ .ireturn dX10_key_54 rfl

set_option maxHeartbeats 4000000 in
set_option maxRecDepth 100000 in
/-- leaf -/
theorem c_leafT (l : Launch) (g : jG) (so : Nat) (tpr : Nat) (khr : Nat) (sdr : Nat) (tdr : Nat) (kr : Nat) (sgr : Nat) (srr : Nat) (ldr : Nat) (sp : Nat) (hh : Nat) (ch : Nat) (te : Nat) (ft : Nat) (pt : Nat) (fm : Nat) (nn : Nat) (ht : Nat) (lys : Nat) (fa : Nat) (mk : Nat) (inr : Nat) (outr : Nat) (zo : Nat) (on : Nat) (oly : Int32) (otr : Int32) (sda : Nat) (sd : Nat → Int32) (ina : Nat) (ni : Nat) (fi : Nat → Int32) (outa : Nat) (no : Nat) (fo : Nat → Int32) (sa : Nat) (wa : Nat) (S0 : Nat → Int32) (w0 : Nat → Int32) (aa : Nat) (ba : Nat) (A0 : Nat → Int64) (B0 : Nat → Int64) (lvr : Nat) (kna : Nat) (dga : Nat) (enr : Nat) (lva : Nat) (lvs : Nat → Int32) (kn : Nat → Int32) (ena : Nat) (ne : Nat) (ef : Nat → Int32) (ly : Nat) (tr : Nat) (u : Nat) (i : Nat) (hfm : fm < 2) (hnn4 : nn = 4 ∨ nn = 8 ∨ nn = 12 ∨ nn = 16) (hht : 1 ≤ ht ∧ ht ≤ 2) (hlys : 1 ≤ lys ∧ lys ≤ 2) (hfa : 1 ≤ fa ∧ fa ≤ 4) (hmk : 1 ≤ mk ∧ mk ≤ 6) (hB : isB sd) (hno : no ≤ 32) (hBo : isB fo) (hni0 : ni ≤ 768) (hLvB : isB lvs) (hCa : cache fm nn sd lvs kn) (hne : ne ≤ 560) (hEB : isB ef) (hly : ly < lys) (htr : tr < (if ly + 1 = lys then 1 else 2 ^ ht)) (hu : u < 2 ^ ht) (hi : i < nn) : jC l g yX10_leaf wsX10_leaf ({ frames := 5, cells := 0, slots := 0, locals := 142 } : Room) [.ref so, .int (nI ly), .int (nI tr), .int (nI u), .int (nI i)] [oB so 10 [.ref tpr, .ref khr, .ref sdr, .ref tdr, .ref kr, .ref sgr, .ref srr, .ref ldr, .ref sp, .ref hh, .ref ch, .ref te, .ref ft, .ref pt], oB sp 8 [.int (nI fm), .int (nI nn), .int (nI ht), .int (nI lys), .int (nI fa), .int (nI mk)], oB hh 5 [.ref inr, .ref outr, .ref zo, .ref on, .ref sp, .ref sdr, .int oly, .int otr], oB sdr 7 [.ref sda, .int (nI 48)], bA g sda 48 sd, oB inr 7 [.ref ina, .int (nI ni)], bA g ina 768 fi, oB outr 7 [.ref outa, .int (nI no)], bA g outa 32 fo, oB zo 4 [.ref sa, .ref wa], iA g sa 8 S0, iA g wa 64 w0, oB on 3 [.ref aa, .ref ba], lA g aa 25 A0, lA g ba 25 B0, oB ch 0 [.ref lvr, .ref kna, .ref dga, .ref enr, .ref sp, .ref hh], oB lvr 7 [.ref lva, .int (nI 512)], bA g lva 512 lvs, zA g kna 32 kn, oB enr 7 [.ref ena, .int (nI ne)], bA g ena 560 ef] (fun jj : Nat × (Nat → Int32) × (Nat → Int32) × (Nat → Int64) × (Nat → Int64) × Nat × (Nat → Int32) × (Nat → Int32) × (Nat → Int32) × (Nat → Int32) × Nat × (Nat → Int32) => some (.int ((LF fm nn sd ly tr u).getD i 0 &&& 255))) (fun jj : Nat × (Nat → Int32) × (Nat → Int32) × (Nat → Int64) × (Nat → Int64) × Nat × (Nat → Int32) × (Nat → Int32) × (Nat → Int32) × (Nat → Int32) × Nat × (Nat → Int32) => (jj.2.2.2.2.2.1 ≤ 768 ∧ jj.1 ≤ 32 ∧ jj.2.2.2.2.2.2.2.2.2.2.1 ≤ 560) ∧ isB jj.2.2.2.2.2.2.2.1 ∧ isB jj.2.2.2.2.2.2.2.2.1 ∧ isB jj.2.2.2.2.2.2.2.2.2.2.2 ∧ cache fm nn sd jj.2.2.2.2.2.2.2.2.1 jj.2.2.2.2.2.2.2.2.2.1) (fun jj : Nat × (Nat → Int32) × (Nat → Int32) × (Nat → Int64) × (Nat → Int64) × Nat × (Nat → Int32) × (Nat → Int32) × (Nat → Int32) × (Nat → Int32) × Nat × (Nat → Int32) => [oB so 10 [.ref tpr, .ref khr, .ref sdr, .ref tdr, .ref kr, .ref sgr, .ref srr, .ref ldr, .ref sp, .ref hh, .ref ch, .ref te, .ref ft, .ref pt], oB sp 8 [.int (nI fm), .int (nI nn), .int (nI ht), .int (nI lys), .int (nI fa), .int (nI mk)], oB hh 5 [.ref inr, .ref outr, .ref zo, .ref on, .ref sp, .ref sdr, .int (nI ly), .int (nI tr)], oB sdr 7 [.ref sda, .int (nI 48)], bA g sda 48 sd, oB inr 7 [.ref ina, .int (nI jj.2.2.2.2.2.1)], bA g ina 768 jj.2.2.2.2.2.2.1, oB outr 7 [.ref outa, .int (nI jj.1)], bA g outa 32 jj.2.2.2.2.2.2.2.1, oB zo 4 [.ref sa, .ref wa], iA g sa 8 jj.2.1, iA g wa 64 jj.2.2.1, oB on 3 [.ref aa, .ref ba], lA g aa 25 jj.2.2.2.1, lA g ba 25 jj.2.2.2.2.1, oB ch 0 [.ref lvr, .ref kna, .ref dga, .ref enr, .ref sp, .ref hh], oB lvr 7 [.ref lva, .int (nI 512)], bA g lva 512 jj.2.2.2.2.2.2.2.2.1, zA g kna 32 jj.2.2.2.2.2.2.2.2.2.1, oB enr 7 [.ref ena, .int (nI jj.2.2.2.2.2.2.2.2.2.2.1)], bA g ena 560 jj.2.2.2.2.2.2.2.2.2.2.2]) := by
  refine jC.of (cc := cX10_leaf) (own := RX10) (maxL := 5) (ret := (some .int)) (by decide +kernel) rfl rfl (Nat.le_of_ble_eq_true rfl) (fun u hu => ⟨_, rfl, rfl⟩) ?_
  intro p e s m below meth c A Q hX hret
  have in0 : ∀ w ∈ wsX00, w ∈ wsX10_leaf := (fun w h => List.mem_cons_of_mem _ (List.mem_append_left _ (List.mem_append_left _ (List.mem_append_left _ (List.mem_append_left _ (List.mem_append_right _ h))))))
  have in8 : ∀ w ∈ wsX80, w ∈ wsX10_leaf := (fun w h => List.mem_cons_of_mem _ (List.mem_append_left _ (List.mem_append_left _ (List.mem_append_left _ (List.mem_append_left _ (List.mem_append_left _ (List.mem_append_right _ h)))))))
  have in10 : ∀ w ∈ wsX100, w ∈ wsX10_leaf := (fun w h => List.mem_cons_of_mem _ (List.mem_append_left _ (List.mem_append_left _ (List.mem_append_left _ (List.mem_append_left _ (List.mem_append_left _ (List.mem_append_left _ (List.mem_append_right _ h))))))))
  have hp4 : 2 ^ ht ≤ 2 ^ 2 := Nat.pow_le_pow_right (by decide) hht.2
  have hnn : nn ≤ 16 := by omega
  have htr4 := Nat.lt_of_lt_of_le htr (if_le4 hht.2)
  refine j_aload_n hX 0 dX10_leaf_0 rfl ?_
  refine j_get hX in10 10 0 8 (v := .ref sp) rfl rfl (by decide) (List.mem_of_getElem? (i := 1) rfl) rfl rfl dX10_leaf_1 ?_
  refine j_iload_n hX 1 dX10_leaf_4 rfl ?_
  refine j_iload_n hX 2 dX10_leaf_5 rfl ?_
  refine j_callV2 hX 2 (c_hasTreeT l g sp fm nn ht lys fa mk ly tr (by omega) (by omega) hly htr) gX10_leaf_X8_hasTree (by decide +kernel) rfl ⟨rfl, rfl⟩ ⟨Nat.le_of_ble_eq_true rfl, Nat.le_of_ble_eq_true rfl⟩ 8 1 rfl rfl [1] [0, 2, 3, 4, 5, 6, 7, 8, 9, 10, 11, 12, 13, 14, 15, 16, 17, 18, 19, 20] 21 rfl (by decide) (fun jj : Unit => [oB so 10 [.ref tpr, .ref khr, .ref sdr, .ref tdr, .ref kr, .ref sgr, .ref srr, .ref ldr, .ref sp, .ref hh, .ref ch, .ref te, .ref ft, .ref pt], oB sp 8 [.int (nI fm), .int (nI nn), .int (nI ht), .int (nI lys), .int (nI fa), .int (nI mk)], oB hh 5 [.ref inr, .ref outr, .ref zo, .ref on, .ref sp, .ref sdr, .int oly, .int otr], oB sdr 7 [.ref sda, .int (nI 48)], bA g sda 48 sd, oB inr 7 [.ref ina, .int (nI ni)], bA g ina 768 fi, oB outr 7 [.ref outa, .int (nI no)], bA g outa 32 fo, oB zo 4 [.ref sa, .ref wa], iA g sa 8 S0, iA g wa 64 w0, oB on 3 [.ref aa, .ref ba], lA g aa 25 A0, lA g ba 25 B0, oB ch 0 [.ref lvr, .ref kna, .ref dga, .ref enr, .ref sp, .ref hh], oB lvr 7 [.ref lva, .int (nI 512)], bA g lva 512 lvs, zA g kna 32 kn, oB enr 7 [.ref ena, .int (nI ne)], bA g ena 560 ef]) (fun _ => rfl) (by decide) [so, sp, hh, sdr, sda, inr, ina, outr, outa, zo, sa, wa, on, aa, ba, ch, lvr, lva, kna, enr, ena] rfl (fun _ => rfl) (fun _ => rfl) [oB so 10 [.ref tpr, .ref khr, .ref sdr, .ref tdr, .ref kr, .ref sgr, .ref srr, .ref ldr, .ref sp, .ref hh, .ref ch, .ref te, .ref ft, .ref pt], oB hh 5 [.ref inr, .ref outr, .ref zo, .ref on, .ref sp, .ref sdr, .int oly, .int otr], oB sdr 7 [.ref sda, .int (nI 48)], bA g sda 48 sd, oB inr 7 [.ref ina, .int (nI ni)], bA g ina 768 fi, oB outr 7 [.ref outa, .int (nI no)], bA g outa 32 fo, oB zo 4 [.ref sa, .ref wa], iA g sa 8 S0, iA g wa 64 w0, oB on 3 [.ref aa, .ref ba], lA g aa 25 A0, lA g ba 25 B0, oB ch 0 [.ref lvr, .ref kna, .ref dga, .ref enr, .ref sp, .ref hh], oB lvr 7 [.ref lva, .int (nI 512)], bA g lva 512 lvs, zA g kna 32 kn, oB enr 7 [.ref ena, .int (nI ne)], bA g ena 560 ef] rfl (fun _ => rfl) rfl [] rfl (Nat.le_of_ble_eq_true rfl) ⟨Nat.le_refl _, Nat.le_refl _⟩ dX10_leaf_6 ?_
  intro _ hu_1
  refine j_w [oB so 10 [.ref tpr, .ref khr, .ref sdr, .ref tdr, .ref kr, .ref sgr, .ref srr, .ref ldr, .ref sp, .ref hh, .ref ch, .ref te, .ref ft, .ref pt], oB sp 8 [.int (nI fm), .int (nI nn), .int (nI ht), .int (nI lys), .int (nI fa), .int (nI mk)], oB hh 5 [.ref inr, .ref outr, .ref zo, .ref on, .ref sp, .ref sdr, .int oly, .int otr], oB sdr 7 [.ref sda, .int (nI 48)], bA g sda 48 sd, oB inr 7 [.ref ina, .int (nI ni)], bA g ina 768 fi, oB outr 7 [.ref outa, .int (nI no)], bA g outa 32 fo, oB zo 4 [.ref sa, .ref wa], iA g sa 8 S0, iA g wa 64 w0, oB on 3 [.ref aa, .ref ba], lA g aa 25 A0, lA g ba 25 B0, oB ch 0 [.ref lvr, .ref kna, .ref dga, .ref enr, .ref sp, .ref hh], oB lvr 7 [.ref lva, .int (nI 512)], bA g lva 512 lvs, zA g kna 32 kn, oB enr 7 [.ref ena, .int (nI ne)], bA g ena 560 ef] rfl ?_
  refine j_st [.int (nI 1)] rfl ?_
  refine j_if_eqN hX 1 27 dX10_leaf_9 (by decide) (by omega) (fun b_9 => absurd b_9 (by omega)) (fun b_9 => ?_)
  refine j_iload_n hX 3 dX10_leaf_12 rfl ?_
  refine j_pc 13 rfl ?_
  refine j_if_ltN hX u 27 dX10_leaf_13 (by decide) (by omega) (fun b_13 => absurd b_13 not_false) (fun b_13 => ?_)
  refine j_iload_n hX 3 dX10_leaf_16 rfl ?_
  refine j_aload_n hX 0 dX10_leaf_17 rfl ?_
  refine j_get hX in10 10 0 8 (v := .ref sp) rfl rfl (by decide) (List.mem_of_getElem? (i := 1) rfl) rfl rfl dX10_leaf_18 ?_
  refine j_callV2 hX 0 (c_leaves l g sp fm nn ht lys fa mk (by omega)) gX10_leaf_X8_leaves (by decide +kernel) rfl ⟨rfl, rfl⟩ ⟨Nat.le_of_ble_eq_true rfl, Nat.le_of_ble_eq_true rfl⟩ 8 1 rfl rfl [1] [0, 2, 3, 4, 5, 6, 7, 8, 9, 10, 11, 12, 13, 14, 15, 16, 17, 18, 19, 20] 21 rfl (by decide) (fun jj : Unit => [oB so 10 [.ref tpr, .ref khr, .ref sdr, .ref tdr, .ref kr, .ref sgr, .ref srr, .ref ldr, .ref sp, .ref hh, .ref ch, .ref te, .ref ft, .ref pt], oB sp 8 [.int (nI fm), .int (nI nn), .int (nI ht), .int (nI lys), .int (nI fa), .int (nI mk)], oB hh 5 [.ref inr, .ref outr, .ref zo, .ref on, .ref sp, .ref sdr, .int oly, .int otr], oB sdr 7 [.ref sda, .int (nI 48)], bA g sda 48 sd, oB inr 7 [.ref ina, .int (nI ni)], bA g ina 768 fi, oB outr 7 [.ref outa, .int (nI no)], bA g outa 32 fo, oB zo 4 [.ref sa, .ref wa], iA g sa 8 S0, iA g wa 64 w0, oB on 3 [.ref aa, .ref ba], lA g aa 25 A0, lA g ba 25 B0, oB ch 0 [.ref lvr, .ref kna, .ref dga, .ref enr, .ref sp, .ref hh], oB lvr 7 [.ref lva, .int (nI 512)], bA g lva 512 lvs, zA g kna 32 kn, oB enr 7 [.ref ena, .int (nI ne)], bA g ena 560 ef]) (fun _ => rfl) (by decide) [so, sp, hh, sdr, sda, inr, ina, outr, outa, zo, sa, wa, on, aa, ba, ch, lvr, lva, kna, enr, ena] rfl (fun _ => rfl) (fun _ => rfl) [oB so 10 [.ref tpr, .ref khr, .ref sdr, .ref tdr, .ref kr, .ref sgr, .ref srr, .ref ldr, .ref sp, .ref hh, .ref ch, .ref te, .ref ft, .ref pt], oB hh 5 [.ref inr, .ref outr, .ref zo, .ref on, .ref sp, .ref sdr, .int oly, .int otr], oB sdr 7 [.ref sda, .int (nI 48)], bA g sda 48 sd, oB inr 7 [.ref ina, .int (nI ni)], bA g ina 768 fi, oB outr 7 [.ref outa, .int (nI no)], bA g outa 32 fo, oB zo 4 [.ref sa, .ref wa], iA g sa 8 S0, iA g wa 64 w0, oB on 3 [.ref aa, .ref ba], lA g aa 25 A0, lA g ba 25 B0, oB ch 0 [.ref lvr, .ref kna, .ref dga, .ref enr, .ref sp, .ref hh], oB lvr 7 [.ref lva, .int (nI 512)], bA g lva 512 lvs, zA g kna 32 kn, oB enr 7 [.ref ena, .int (nI ne)], bA g ena 560 ef] rfl (fun _ => rfl) rfl [.int (nI u)] rfl (Nat.le_of_ble_eq_true rfl) ⟨Nat.le_refl _, Nat.le_refl _⟩ dX10_leaf_21 ?_
  intro _ hu_2
  refine j_w [oB so 10 [.ref tpr, .ref khr, .ref sdr, .ref tdr, .ref kr, .ref sgr, .ref srr, .ref ldr, .ref sp, .ref hh, .ref ch, .ref te, .ref ft, .ref pt], oB sp 8 [.int (nI fm), .int (nI nn), .int (nI ht), .int (nI lys), .int (nI fa), .int (nI mk)], oB hh 5 [.ref inr, .ref outr, .ref zo, .ref on, .ref sp, .ref sdr, .int oly, .int otr], oB sdr 7 [.ref sda, .int (nI 48)], bA g sda 48 sd, oB inr 7 [.ref ina, .int (nI ni)], bA g ina 768 fi, oB outr 7 [.ref outa, .int (nI no)], bA g outa 32 fo, oB zo 4 [.ref sa, .ref wa], iA g sa 8 S0, iA g wa 64 w0, oB on 3 [.ref aa, .ref ba], lA g aa 25 A0, lA g ba 25 B0, oB ch 0 [.ref lvr, .ref kna, .ref dga, .ref enr, .ref sp, .ref hh], oB lvr 7 [.ref lva, .int (nI 512)], bA g lva 512 lvs, zA g kna 32 kn, oB enr 7 [.ref ena, .int (nI ne)], bA g ena 560 ef] rfl ?_
  refine j_st [.int (nI (2 ^ ht)), .int (nI u)] rfl ?_
  refine j_icmp_ltN hX u (2 ^ ht) 30 dX10_leaf_24 (by decide) (by omega) (by omega) (fun b_24 => ?_) (fun b_24 => absurd b_24 (by omega))
  refine j_iload hX 4 dX10_leaf_30 rfl ?_
  refine j_if_ltN hX i 47 dX10_leaf_32 (by decide) (by omega) (fun b_32 => absurd b_32 not_false) (fun b_32 => ?_)
  refine j_pc 35 rfl ?_
  refine j_iload hX 4 dX10_leaf_35 rfl ?_
  refine j_aload_n hX 0 dX10_leaf_37 rfl ?_
  refine j_get hX in10 10 0 8 (v := .ref sp) rfl rfl (by decide) (List.mem_of_getElem? (i := 1) rfl) rfl rfl dX10_leaf_38 ?_
  refine j_get hX in8 8 1 1 (v := .int (nI nn)) rfl rfl (by decide) (List.mem_of_getElem? (i := 2) rfl) rfl rfl dX10_leaf_41 ?_
  refine j_icmp_ltN hX i nn 50 dX10_leaf_44 (by decide) (by omega) (by omega) (fun b_44 => ?_) (fun b_44 => absurd b_44 (by omega))
  refine j_aload_n hX 0 dX10_leaf_50 rfl ?_
  refine j_get hX in10 10 0 10 (v := .ref ch) rfl rfl (by decide) (List.mem_of_getElem? (i := 3) rfl) rfl rfl dX10_leaf_51 ?_
  refine j_iload_n hX 1 dX10_leaf_54 rfl ?_
  refine j_pc 55 rfl ?_
  refine j_iload_n hX 2 dX10_leaf_55 rfl ?_
  refine j_iload_n hX 3 dX10_leaf_56 rfl ?_
  refine j_callV2 hX 3 (c_keepLeaf l g ch lvr kna dga enr hh inr outr zo on sp fm nn ht lys fa mk sdr oly otr sda sd ina ni fi outa no fo sa wa S0 w0 aa ba A0 B0 lva lvs kn ena ne ef ly tr u (by omega) (by omega) hB (by omega) hBo (by omega) (by omega) (by omega) (by omega) (by omega) hEB hLvB hCa) gX10_leaf_X0_keepLeaf (by decide +kernel) rfl ⟨rfl, rfl⟩ ⟨Nat.le_of_ble_eq_true rfl, Nat.le_of_ble_eq_true rfl⟩ 0 15 rfl rfl [15, 2, 1, 3, 4, 5, 6, 7, 8, 9, 10, 11, 12, 13, 14, 16, 17, 18, 19, 20] [0] 21 rfl (by decide) (fun jj : Nat × (Nat → Int32) × (Nat → Int32) × (Nat → Int64) × (Nat → Int64) × Nat × (Nat → Int32) × (Nat → Int32) × (Nat → Int32) × (Nat → Int32) × Nat × (Nat → Int32) => [oB so 10 [.ref tpr, .ref khr, .ref sdr, .ref tdr, .ref kr, .ref sgr, .ref srr, .ref ldr, .ref sp, .ref hh, .ref ch, .ref te, .ref ft, .ref pt], oB sp 8 [.int (nI fm), .int (nI nn), .int (nI ht), .int (nI lys), .int (nI fa), .int (nI mk)], oB hh 5 [.ref inr, .ref outr, .ref zo, .ref on, .ref sp, .ref sdr, .int (nI ly), .int (nI tr)], oB sdr 7 [.ref sda, .int (nI 48)], bA g sda 48 sd, oB inr 7 [.ref ina, .int (nI jj.2.2.2.2.2.1)], bA g ina 768 jj.2.2.2.2.2.2.1, oB outr 7 [.ref outa, .int (nI jj.1)], bA g outa 32 jj.2.2.2.2.2.2.2.1, oB zo 4 [.ref sa, .ref wa], iA g sa 8 jj.2.1, iA g wa 64 jj.2.2.1, oB on 3 [.ref aa, .ref ba], lA g aa 25 jj.2.2.2.1, lA g ba 25 jj.2.2.2.2.1, oB ch 0 [.ref lvr, .ref kna, .ref dga, .ref enr, .ref sp, .ref hh], oB lvr 7 [.ref lva, .int (nI 512)], bA g lva 512 jj.2.2.2.2.2.2.2.2.1, zA g kna 32 jj.2.2.2.2.2.2.2.2.2.1, oB enr 7 [.ref ena, .int (nI jj.2.2.2.2.2.2.2.2.2.2.1)], bA g ena 560 jj.2.2.2.2.2.2.2.2.2.2.2]) (fun _ => rfl) (by decide) [so, sp, hh, sdr, sda, inr, ina, outr, outa, zo, sa, wa, on, aa, ba, ch, lvr, lva, kna, enr, ena] rfl (fun _ => rfl) (fun _ => rfl) [oB so 10 [.ref tpr, .ref khr, .ref sdr, .ref tdr, .ref kr, .ref sgr, .ref srr, .ref ldr, .ref sp, .ref hh, .ref ch, .ref te, .ref ft, .ref pt]] rfl (fun _ => rfl) rfl [] rfl (Nat.le_of_ble_eq_true rfl) ⟨Nat.le_refl _, Nat.le_refl _⟩ dX10_leaf_57 ?_
  rintro ⟨no9, S9, w9, A9, B9, nl9, G9, FO9, L9, K9, ne9, E9⟩ hK
  try dsimp only at hK
  refine j_w [oB so 10 [.ref tpr, .ref khr, .ref sdr, .ref tdr, .ref kr, .ref sgr, .ref srr, .ref ldr, .ref sp, .ref hh, .ref ch, .ref te, .ref ft, .ref pt], oB sp 8 [.int (nI fm), .int (nI nn), .int (nI ht), .int (nI lys), .int (nI fa), .int (nI mk)], oB hh 5 [.ref inr, .ref outr, .ref zo, .ref on, .ref sp, .ref sdr, .int (nI ly), .int (nI tr)], oB sdr 7 [.ref sda, .int (nI 48)], bA g sda 48 sd, oB inr 7 [.ref ina, .int (nI nl9)], bA g ina 768 G9, oB outr 7 [.ref outa, .int (nI no9)], bA g outa 32 FO9, oB zo 4 [.ref sa, .ref wa], iA g sa 8 S9, iA g wa 64 w9, oB on 3 [.ref aa, .ref ba], lA g aa 25 A9, lA g ba 25 B9, oB ch 0 [.ref lvr, .ref kna, .ref dga, .ref enr, .ref sp, .ref hh], oB lvr 7 [.ref lva, .int (nI 512)], bA g lva 512 L9, zA g kna 32 K9, oB enr 7 [.ref ena, .int (nI ne9)], bA g ena 560 E9] rfl ?_
  refine j_st [] rfl ?_
  refine j_aload_n hX 0 dX10_leaf_60 rfl ?_
  refine j_get hX in10 10 0 10 (v := .ref ch) rfl rfl (by decide) (List.mem_of_getElem? (i := 3) rfl) rfl rfl dX10_leaf_61 ?_
  refine j_get hX in0 0 15 0 (v := .ref lvr) rfl rfl (by decide) (List.mem_of_getElem? (i := 4) rfl) rfl rfl dX10_leaf_64 ?_
  refine j_iload_n hX 1 dX10_leaf_67 rfl ?_
  refine j_iload_n hX 2 dX10_leaf_68 rfl ?_
  refine j_pc 69 rfl ?_
  refine j_iload_n hX 3 dX10_leaf_69 rfl ?_
  refine j_callS2 hX 3 (c_leafStart l g ly tr u ) gX10_leaf_X0_leafStart (by decide +kernel) rfl ⟨rfl, rfl⟩ ⟨Nat.le_of_ble_eq_true rfl, Nat.le_of_ble_eq_true rfl⟩ [] [0, 1, 2, 3, 4, 5, 6, 7, 8, 9, 10, 11, 12, 13, 14, 15, 16, 17, 18, 19, 20] 21 rfl (by decide) (fun jj : Unit => [oB so 10 [.ref tpr, .ref khr, .ref sdr, .ref tdr, .ref kr, .ref sgr, .ref srr, .ref ldr, .ref sp, .ref hh, .ref ch, .ref te, .ref ft, .ref pt], oB sp 8 [.int (nI fm), .int (nI nn), .int (nI ht), .int (nI lys), .int (nI fa), .int (nI mk)], oB hh 5 [.ref inr, .ref outr, .ref zo, .ref on, .ref sp, .ref sdr, .int (nI ly), .int (nI tr)], oB sdr 7 [.ref sda, .int (nI 48)], bA g sda 48 sd, oB inr 7 [.ref ina, .int (nI nl9)], bA g ina 768 G9, oB outr 7 [.ref outa, .int (nI no9)], bA g outa 32 FO9, oB zo 4 [.ref sa, .ref wa], iA g sa 8 S9, iA g wa 64 w9, oB on 3 [.ref aa, .ref ba], lA g aa 25 A9, lA g ba 25 B9, oB ch 0 [.ref lvr, .ref kna, .ref dga, .ref enr, .ref sp, .ref hh], oB lvr 7 [.ref lva, .int (nI 512)], bA g lva 512 L9, zA g kna 32 K9, oB enr 7 [.ref ena, .int (nI ne9)], bA g ena 560 E9]) (fun _ => rfl) (by decide) [so, sp, hh, sdr, sda, inr, ina, outr, outa, zo, sa, wa, on, aa, ba, ch, lvr, lva, kna, enr, ena] rfl (fun _ => rfl) (fun _ => rfl) [oB so 10 [.ref tpr, .ref khr, .ref sdr, .ref tdr, .ref kr, .ref sgr, .ref srr, .ref ldr, .ref sp, .ref hh, .ref ch, .ref te, .ref ft, .ref pt], oB sp 8 [.int (nI fm), .int (nI nn), .int (nI ht), .int (nI lys), .int (nI fa), .int (nI mk)], oB hh 5 [.ref inr, .ref outr, .ref zo, .ref on, .ref sp, .ref sdr, .int (nI ly), .int (nI tr)], oB sdr 7 [.ref sda, .int (nI 48)], bA g sda 48 sd, oB inr 7 [.ref ina, .int (nI nl9)], bA g ina 768 G9, oB outr 7 [.ref outa, .int (nI no9)], bA g outa 32 FO9, oB zo 4 [.ref sa, .ref wa], iA g sa 8 S9, iA g wa 64 w9, oB on 3 [.ref aa, .ref ba], lA g aa 25 A9, lA g ba 25 B9, oB ch 0 [.ref lvr, .ref kna, .ref dga, .ref enr, .ref sp, .ref hh], oB lvr 7 [.ref lva, .int (nI 512)], bA g lva 512 L9, zA g kna 32 K9, oB enr 7 [.ref ena, .int (nI ne9)], bA g ena 560 E9] rfl (fun _ => rfl) rfl [.ref lvr] rfl (Nat.le_of_ble_eq_true rfl) ⟨Nat.le_refl _, Nat.le_refl _⟩ dX10_leaf_70 ?_
  intro _ hu_3
  refine j_w [oB so 10 [.ref tpr, .ref khr, .ref sdr, .ref tdr, .ref kr, .ref sgr, .ref srr, .ref ldr, .ref sp, .ref hh, .ref ch, .ref te, .ref ft, .ref pt], oB sp 8 [.int (nI fm), .int (nI nn), .int (nI ht), .int (nI lys), .int (nI fa), .int (nI mk)], oB hh 5 [.ref inr, .ref outr, .ref zo, .ref on, .ref sp, .ref sdr, .int (nI ly), .int (nI tr)], oB sdr 7 [.ref sda, .int (nI 48)], bA g sda 48 sd, oB inr 7 [.ref ina, .int (nI nl9)], bA g ina 768 G9, oB outr 7 [.ref outa, .int (nI no9)], bA g outa 32 FO9, oB zo 4 [.ref sa, .ref wa], iA g sa 8 S9, iA g wa 64 w9, oB on 3 [.ref aa, .ref ba], lA g aa 25 A9, lA g ba 25 B9, oB ch 0 [.ref lvr, .ref kna, .ref dga, .ref enr, .ref sp, .ref hh], oB lvr 7 [.ref lva, .int (nI 512)], bA g lva 512 L9, zA g kna 32 K9, oB enr 7 [.ref ena, .int (nI ne9)], bA g ena 560 E9] rfl ?_
  refine j_st [.int (nI ((ly * 16 + tr * 4 + u) * 16)), .ref lvr] rfl ?_
  refine j_iload hX 4 dX10_leaf_73 rfl ?_
  refine j_iaddN hX ((ly * 16 + tr * 4 + u) * 16) i dX10_leaf_75 ?_
  refine j_callV2 hX 1 (c_at l g lvr lva 512 512 L9 (nI (((ly * 16 + tr * 4 + u) * 16) + i)) (by omega) (by omega)) gX10_leaf_X7_at (by decide +kernel) rfl ⟨rfl, rfl⟩ ⟨Nat.le_of_ble_eq_true rfl, Nat.le_of_ble_eq_true rfl⟩ 7 16 rfl rfl [16, 17] [0, 1, 2, 3, 4, 5, 6, 7, 8, 9, 10, 11, 12, 13, 14, 15, 18, 19, 20] 21 rfl (by decide) (fun jj : Unit => [oB so 10 [.ref tpr, .ref khr, .ref sdr, .ref tdr, .ref kr, .ref sgr, .ref srr, .ref ldr, .ref sp, .ref hh, .ref ch, .ref te, .ref ft, .ref pt], oB sp 8 [.int (nI fm), .int (nI nn), .int (nI ht), .int (nI lys), .int (nI fa), .int (nI mk)], oB hh 5 [.ref inr, .ref outr, .ref zo, .ref on, .ref sp, .ref sdr, .int (nI ly), .int (nI tr)], oB sdr 7 [.ref sda, .int (nI 48)], bA g sda 48 sd, oB inr 7 [.ref ina, .int (nI nl9)], bA g ina 768 G9, oB outr 7 [.ref outa, .int (nI no9)], bA g outa 32 FO9, oB zo 4 [.ref sa, .ref wa], iA g sa 8 S9, iA g wa 64 w9, oB on 3 [.ref aa, .ref ba], lA g aa 25 A9, lA g ba 25 B9, oB ch 0 [.ref lvr, .ref kna, .ref dga, .ref enr, .ref sp, .ref hh], oB lvr 7 [.ref lva, .int (nI 512)], bA g lva 512 L9, zA g kna 32 K9, oB enr 7 [.ref ena, .int (nI ne9)], bA g ena 560 E9]) (fun _ => rfl) (by decide) [so, sp, hh, sdr, sda, inr, ina, outr, outa, zo, sa, wa, on, aa, ba, ch, lvr, lva, kna, enr, ena] rfl (fun _ => rfl) (fun _ => rfl) [oB so 10 [.ref tpr, .ref khr, .ref sdr, .ref tdr, .ref kr, .ref sgr, .ref srr, .ref ldr, .ref sp, .ref hh, .ref ch, .ref te, .ref ft, .ref pt], oB sp 8 [.int (nI fm), .int (nI nn), .int (nI ht), .int (nI lys), .int (nI fa), .int (nI mk)], oB hh 5 [.ref inr, .ref outr, .ref zo, .ref on, .ref sp, .ref sdr, .int (nI ly), .int (nI tr)], oB sdr 7 [.ref sda, .int (nI 48)], bA g sda 48 sd, oB inr 7 [.ref ina, .int (nI nl9)], bA g ina 768 G9, oB outr 7 [.ref outa, .int (nI no9)], bA g outa 32 FO9, oB zo 4 [.ref sa, .ref wa], iA g sa 8 S9, iA g wa 64 w9, oB on 3 [.ref aa, .ref ba], lA g aa 25 A9, lA g ba 25 B9, oB ch 0 [.ref lvr, .ref kna, .ref dga, .ref enr, .ref sp, .ref hh], zA g kna 32 K9, oB enr 7 [.ref ena, .int (nI ne9)], bA g ena 560 E9] rfl (fun _ => rfl) rfl [] rfl (Nat.le_of_ble_eq_true rfl) ⟨Nat.le_refl _, Nat.le_refl _⟩ dX10_leaf_76 ?_
  intro _ hu_4
  refine j_w [oB so 10 [.ref tpr, .ref khr, .ref sdr, .ref tdr, .ref kr, .ref sgr, .ref srr, .ref ldr, .ref sp, .ref hh, .ref ch, .ref te, .ref ft, .ref pt], oB sp 8 [.int (nI fm), .int (nI nn), .int (nI ht), .int (nI lys), .int (nI fa), .int (nI mk)], oB hh 5 [.ref inr, .ref outr, .ref zo, .ref on, .ref sp, .ref sdr, .int (nI ly), .int (nI tr)], oB sdr 7 [.ref sda, .int (nI 48)], bA g sda 48 sd, oB inr 7 [.ref ina, .int (nI nl9)], bA g ina 768 G9, oB outr 7 [.ref outa, .int (nI no9)], bA g outa 32 FO9, oB zo 4 [.ref sa, .ref wa], iA g sa 8 S9, iA g wa 64 w9, oB on 3 [.ref aa, .ref ba], lA g aa 25 A9, lA g ba 25 B9, oB ch 0 [.ref lvr, .ref kna, .ref dga, .ref enr, .ref sp, .ref hh], oB lvr 7 [.ref lva, .int (nI 512)], bA g lva 512 L9, zA g kna 32 K9, oB enr 7 [.ref ena, .int (nI ne9)], bA g ena 560 E9] rfl ?_
  refine j_st [.int (rAt L9 512 (nI (((ly * 16 + tr * 4 + u) * 16) + i)))] rfl ?_
  refine j_topeq _ ((LF fm nn sd ly tr u).getD i 0 &&& 255) ((rAt_in (by omega) (by omega)).trans (by rw [slice_at hK.2.2.2.2.2 hi])) ?_
  exact hret (no9, S9, w9, A9, B9, nl9, G9, FO9, L9, K9, ne9, E9) (by dsimp only; exact ⟨hK.1, hK.2.1, hK.2.2.1, hK.2.2.2.1, hK.2.2.2.2.1⟩) 79 _ .ireturn dX10_leaf_79 rfl

set_option maxHeartbeats 4000000 in
set_option maxRecDepth 100000 in
/-- leaf: none -/
theorem c_leafN (l : Launch) (g : jG) (so : Nat) (tpr : Nat) (khr : Nat) (sdr : Nat) (tdr : Nat) (kr : Nat) (sgr : Nat) (srr : Nat) (ldr : Nat) (sp : Nat) (hh : Nat) (ch : Nat) (te : Nat) (ft : Nat) (pt : Nat) (fm : Nat) (nn : Nat) (ht : Nat) (lys : Nat) (fa : Nat) (mk : Nat) (ly : Nat) (tr : Nat) (u : Nat) (xi : Int32) (hfm : fm < 2) (hnn4 : nn = 4 ∨ nn = 8 ∨ nn = 12 ∨ nn = 16) (hht : 1 ≤ ht ∧ ht ≤ 2) (hlys : 1 ≤ lys ∧ lys ≤ 2) (hfa : 1 ≤ fa ∧ fa ≤ 4) (hmk : 1 ≤ mk ∧ mk ≤ 6) (hly : ly < lys) (htr : tr < (if ly + 1 = lys then 1 else 2 ^ ht)) (hu : u < 2 ^ ht) (hF : xi < 0 ∨ nI nn ≤ xi) : jC l g yX10_leaf wsX10_leaf ({ frames := 5, cells := 0, slots := 0, locals := 142 } : Room) [.ref so, .int (nI ly), .int (nI tr), .int (nI u), .int xi] [oB so 10 [.ref tpr, .ref khr, .ref sdr, .ref tdr, .ref kr, .ref sgr, .ref srr, .ref ldr, .ref sp, .ref hh, .ref ch, .ref te, .ref ft, .ref pt], oB sp 8 [.int (nI fm), .int (nI nn), .int (nI ht), .int (nI lys), .int (nI fa), .int (nI mk)]] (fun jj : Unit => some (.int (-9))) (fun jj : Unit => True) (fun jj : Unit => [oB so 10 [.ref tpr, .ref khr, .ref sdr, .ref tdr, .ref kr, .ref sgr, .ref srr, .ref ldr, .ref sp, .ref hh, .ref ch, .ref te, .ref ft, .ref pt], oB sp 8 [.int (nI fm), .int (nI nn), .int (nI ht), .int (nI lys), .int (nI fa), .int (nI mk)]]) := by
  refine jC.of (cc := cX10_leaf) (own := RX10) (maxL := 5) (ret := (some .int)) (by decide +kernel) rfl rfl (Nat.le_of_ble_eq_true rfl) (fun u hu => ⟨_, rfl, rfl⟩) ?_
  intro p e s m below meth c A Q hX hret
  have in8 : ∀ w ∈ wsX80, w ∈ wsX10_leaf := (fun w h => List.mem_cons_of_mem _ (List.mem_append_left _ (List.mem_append_left _ (List.mem_append_left _ (List.mem_append_left _ (List.mem_append_left _ (List.mem_append_right _ h)))))))
  have in10 : ∀ w ∈ wsX100, w ∈ wsX10_leaf := (fun w h => List.mem_cons_of_mem _ (List.mem_append_left _ (List.mem_append_left _ (List.mem_append_left _ (List.mem_append_left _ (List.mem_append_left _ (List.mem_append_left _ (List.mem_append_right _ h))))))))
  have hp4 : 2 ^ ht ≤ 2 ^ 2 := Nat.pow_le_pow_right (by decide) hht.2
  have hnn : nn ≤ 16 := by omega
  have htr4 := Nat.lt_of_lt_of_le htr (if_le4 hht.2)
  refine j_aload_n hX 0 dX10_leaf_0 rfl ?_
  refine j_get hX in10 10 0 8 (v := .ref sp) rfl rfl (by decide) (List.mem_of_getElem? (i := 1) rfl) rfl rfl dX10_leaf_1 ?_
  refine j_iload_n hX 1 dX10_leaf_4 rfl ?_
  refine j_iload_n hX 2 dX10_leaf_5 rfl ?_
  refine j_callV2 hX 2 (c_hasTreeT l g sp fm nn ht lys fa mk ly tr (by omega) (by omega) hly htr) gX10_leaf_X8_hasTree (by decide +kernel) rfl ⟨rfl, rfl⟩ ⟨Nat.le_of_ble_eq_true rfl, Nat.le_of_ble_eq_true rfl⟩ 8 1 rfl rfl [1] [0] 2 rfl (by decide) (fun jj : Unit => [oB so 10 [.ref tpr, .ref khr, .ref sdr, .ref tdr, .ref kr, .ref sgr, .ref srr, .ref ldr, .ref sp, .ref hh, .ref ch, .ref te, .ref ft, .ref pt], oB sp 8 [.int (nI fm), .int (nI nn), .int (nI ht), .int (nI lys), .int (nI fa), .int (nI mk)]]) (fun _ => rfl) (by decide) [so, sp] rfl (fun _ => rfl) (fun _ => rfl) [oB so 10 [.ref tpr, .ref khr, .ref sdr, .ref tdr, .ref kr, .ref sgr, .ref srr, .ref ldr, .ref sp, .ref hh, .ref ch, .ref te, .ref ft, .ref pt]] rfl (fun _ => rfl) rfl [] rfl (Nat.le_of_ble_eq_true rfl) ⟨Nat.le_refl _, Nat.le_refl _⟩ dX10_leaf_6 ?_
  intro _ hu_1
  refine j_w [oB so 10 [.ref tpr, .ref khr, .ref sdr, .ref tdr, .ref kr, .ref sgr, .ref srr, .ref ldr, .ref sp, .ref hh, .ref ch, .ref te, .ref ft, .ref pt], oB sp 8 [.int (nI fm), .int (nI nn), .int (nI ht), .int (nI lys), .int (nI fa), .int (nI mk)]] rfl ?_
  refine j_st [.int (nI 1)] rfl ?_
  refine j_if_eqN hX 1 27 dX10_leaf_9 (by decide) (by omega) (fun b_9 => absurd b_9 (by omega)) (fun b_9 => ?_)
  refine j_iload_n hX 3 dX10_leaf_12 rfl ?_
  refine j_pc 13 rfl ?_
  refine j_if_ltN hX u 27 dX10_leaf_13 (by decide) (by omega) (fun b_13 => absurd b_13 not_false) (fun b_13 => ?_)
  refine j_iload_n hX 3 dX10_leaf_16 rfl ?_
  refine j_aload_n hX 0 dX10_leaf_17 rfl ?_
  refine j_get hX in10 10 0 8 (v := .ref sp) rfl rfl (by decide) (List.mem_of_getElem? (i := 1) rfl) rfl rfl dX10_leaf_18 ?_
  refine j_callV2 hX 0 (c_leaves l g sp fm nn ht lys fa mk (by omega)) gX10_leaf_X8_leaves (by decide +kernel) rfl ⟨rfl, rfl⟩ ⟨Nat.le_of_ble_eq_true rfl, Nat.le_of_ble_eq_true rfl⟩ 8 1 rfl rfl [1] [0] 2 rfl (by decide) (fun jj : Unit => [oB so 10 [.ref tpr, .ref khr, .ref sdr, .ref tdr, .ref kr, .ref sgr, .ref srr, .ref ldr, .ref sp, .ref hh, .ref ch, .ref te, .ref ft, .ref pt], oB sp 8 [.int (nI fm), .int (nI nn), .int (nI ht), .int (nI lys), .int (nI fa), .int (nI mk)]]) (fun _ => rfl) (by decide) [so, sp] rfl (fun _ => rfl) (fun _ => rfl) [oB so 10 [.ref tpr, .ref khr, .ref sdr, .ref tdr, .ref kr, .ref sgr, .ref srr, .ref ldr, .ref sp, .ref hh, .ref ch, .ref te, .ref ft, .ref pt]] rfl (fun _ => rfl) rfl [.int (nI u)] rfl (Nat.le_of_ble_eq_true rfl) ⟨Nat.le_refl _, Nat.le_refl _⟩ dX10_leaf_21 ?_
  intro _ hu_2
  refine j_w [oB so 10 [.ref tpr, .ref khr, .ref sdr, .ref tdr, .ref kr, .ref sgr, .ref srr, .ref ldr, .ref sp, .ref hh, .ref ch, .ref te, .ref ft, .ref pt], oB sp 8 [.int (nI fm), .int (nI nn), .int (nI ht), .int (nI lys), .int (nI fa), .int (nI mk)]] rfl ?_
  refine j_st [.int (nI (2 ^ ht)), .int (nI u)] rfl ?_
  refine j_icmp_ltN hX u (2 ^ ht) 30 dX10_leaf_24 (by decide) (by omega) (by omega) (fun b_24 => ?_) (fun b_24 => absurd b_24 (by omega))
  refine j_iload hX 4 dX10_leaf_30 rfl ?_
  refine j_if_lt hX 47 dX10_leaf_32 (by decide) (fun b_32 => ?_) (fun b_32 => ?_)
  · skip
    refine j_pc 47 rfl ?_
    refine j_bipush hX (-9) dX10_leaf_47 (by decide) ?_
    exact hret () trivial 49 _ .ireturn dX10_leaf_49 rfl
  · skip
    refine j_iload hX 4 dX10_leaf_35 rfl ?_
    refine j_aload_n hX 0 dX10_leaf_37 rfl ?_
    refine j_get hX in10 10 0 8 (v := .ref sp) rfl rfl (by decide) (List.mem_of_getElem? (i := 1) rfl) rfl rfl dX10_leaf_38 ?_
    refine j_get hX in8 8 1 1 (v := .int (nI nn)) rfl rfl (by decide) (List.mem_of_getElem? (i := 2) rfl) rfl rfl dX10_leaf_41 ?_
    refine j_icmp_lt hX 50 dX10_leaf_44 (by decide) (fun b_44 => absurd b_44 (by rcases hF with h | h; exact absurd h b_32; exact Int32.not_lt.mpr h)) (fun b_44 => ?_)
    refine j_bipush hX (-9) dX10_leaf_47 (by decide) ?_
    refine j_pc 49 rfl ?_
    exact hret () trivial 49 _ .ireturn dX10_leaf_49 rfl

set_option maxHeartbeats 4000000 in
set_option maxRecDepth 100000 in
/-- leaf: outside -/
theorem c_leafO (l : Launch) (g : jG) (so : Nat) (tpr : Nat) (khr : Nat) (sdr : Nat) (tdr : Nat) (kr : Nat) (sgr : Nat) (srr : Nat) (ldr : Nat) (sp : Nat) (hh : Nat) (ch : Nat) (te : Nat) (ft : Nat) (pt : Nat) (fm : Nat) (nn : Nat) (ht : Nat) (lys : Nat) (fa : Nat) (mk : Nat) (xl : Int32) (xt : Int32) (xu : Int32) (xi : Int32) (hfm : fm < 2) (hnn4 : nn = 4 ∨ nn = 8 ∨ nn = 12 ∨ nn = 16) (hht : 1 ≤ ht ∧ ht ≤ 2) (hlys : 1 ≤ lys ∧ lys ≤ 2) (hfa : 1 ≤ fa ∧ fa ≤ 4) (hmk : 1 ≤ mk ∧ mk ≤ 6) (hF : ¬ (htP lys ht xl xt ∧ ∃ q : Nat, xu = nI q ∧ q < 2 ^ ht)) : jC l g yX10_leaf wsX10_leaf ({ frames := 5, cells := 0, slots := 0, locals := 142 } : Room) [.ref so, .int xl, .int xt, .int xu, .int xi] [oB so 10 [.ref tpr, .ref khr, .ref sdr, .ref tdr, .ref kr, .ref sgr, .ref srr, .ref ldr, .ref sp, .ref hh, .ref ch, .ref te, .ref ft, .ref pt], oB sp 8 [.int (nI fm), .int (nI nn), .int (nI ht), .int (nI lys), .int (nI fa), .int (nI mk)]] (fun jj : Unit => some (.int (-2))) (fun jj : Unit => True) (fun jj : Unit => [oB so 10 [.ref tpr, .ref khr, .ref sdr, .ref tdr, .ref kr, .ref sgr, .ref srr, .ref ldr, .ref sp, .ref hh, .ref ch, .ref te, .ref ft, .ref pt], oB sp 8 [.int (nI fm), .int (nI nn), .int (nI ht), .int (nI lys), .int (nI fa), .int (nI mk)]]) := by
  refine jC.of (cc := cX10_leaf) (own := RX10) (maxL := 5) (ret := (some .int)) (by decide +kernel) rfl rfl (Nat.le_of_ble_eq_true rfl) (fun u hu => ⟨_, rfl, rfl⟩) ?_
  intro p e s m below meth c A Q hX hret
  have in10 : ∀ w ∈ wsX100, w ∈ wsX10_leaf := (fun w h => List.mem_cons_of_mem _ (List.mem_append_left _ (List.mem_append_left _ (List.mem_append_left _ (List.mem_append_left _ (List.mem_append_left _ (List.mem_append_left _ (List.mem_append_right _ h))))))))
  have hp4 : 2 ^ ht ≤ 2 ^ 2 := Nat.pow_le_pow_right (by decide) hht.2
  by_cases hT : htP lys ht xl xt
  · skip
    have hF2 : ¬ ∃ q : Nat, xu = nI q ∧ q < 2 ^ ht := fun h => hF ⟨hT, h⟩
    obtain ⟨qa, qb, rfl, rfl, hqa, hqb⟩ := hT
    refine j_aload_n hX 0 dX10_leaf_0 rfl ?_
    refine j_get hX in10 10 0 8 (v := .ref sp) rfl rfl (by decide) (List.mem_of_getElem? (i := 1) rfl) rfl rfl dX10_leaf_1 ?_
    refine j_iload_n hX 1 dX10_leaf_4 rfl ?_
    refine j_iload_n hX 2 dX10_leaf_5 rfl ?_
    refine j_callV2 hX 2 (c_hasTreeT l g sp fm nn ht lys fa mk qa qb (by omega) (by omega) hqa hqb) gX10_leaf_X8_hasTree (by decide +kernel) rfl ⟨rfl, rfl⟩ ⟨Nat.le_of_ble_eq_true rfl, Nat.le_of_ble_eq_true rfl⟩ 8 1 rfl rfl [1] [0] 2 rfl (by decide) (fun jj : Unit => [oB so 10 [.ref tpr, .ref khr, .ref sdr, .ref tdr, .ref kr, .ref sgr, .ref srr, .ref ldr, .ref sp, .ref hh, .ref ch, .ref te, .ref ft, .ref pt], oB sp 8 [.int (nI fm), .int (nI nn), .int (nI ht), .int (nI lys), .int (nI fa), .int (nI mk)]]) (fun _ => rfl) (by decide) [so, sp] rfl (fun _ => rfl) (fun _ => rfl) [oB so 10 [.ref tpr, .ref khr, .ref sdr, .ref tdr, .ref kr, .ref sgr, .ref srr, .ref ldr, .ref sp, .ref hh, .ref ch, .ref te, .ref ft, .ref pt]] rfl (fun _ => rfl) rfl [] rfl (Nat.le_of_ble_eq_true rfl) ⟨Nat.le_refl _, Nat.le_refl _⟩ dX10_leaf_6 ?_
    intro _ hu_1
    refine j_w [oB so 10 [.ref tpr, .ref khr, .ref sdr, .ref tdr, .ref kr, .ref sgr, .ref srr, .ref ldr, .ref sp, .ref hh, .ref ch, .ref te, .ref ft, .ref pt], oB sp 8 [.int (nI fm), .int (nI nn), .int (nI ht), .int (nI lys), .int (nI fa), .int (nI mk)]] rfl ?_
    refine j_st [.int (nI 1)] rfl ?_
    refine j_if_eqN hX 1 27 dX10_leaf_9 (by decide) (by omega) (fun b_9 => absurd b_9 (by omega)) (fun b_9 => ?_)
    refine j_iload_n hX 3 dX10_leaf_12 rfl ?_
    refine j_pc 13 rfl ?_
    refine j_if_lt hX 27 dX10_leaf_13 (by decide) (fun b_13 => ?_) (fun b_13 => ?_)
    · skip
      refine j_bipush hX (-2) dX10_leaf_27 (by decide) ?_
      exact hret () trivial 29 _ .ireturn dX10_leaf_29 rfl
    · skip
      refine j_iload_n hX 3 dX10_leaf_16 rfl ?_
      refine j_aload_n hX 0 dX10_leaf_17 rfl ?_
      refine j_get hX in10 10 0 8 (v := .ref sp) rfl rfl (by decide) (List.mem_of_getElem? (i := 1) rfl) rfl rfl dX10_leaf_18 ?_
      refine j_callV2 hX 0 (c_leaves l g sp fm nn ht lys fa mk (by omega)) gX10_leaf_X8_leaves (by decide +kernel) rfl ⟨rfl, rfl⟩ ⟨Nat.le_of_ble_eq_true rfl, Nat.le_of_ble_eq_true rfl⟩ 8 1 rfl rfl [1] [0] 2 rfl (by decide) (fun jj : Unit => [oB so 10 [.ref tpr, .ref khr, .ref sdr, .ref tdr, .ref kr, .ref sgr, .ref srr, .ref ldr, .ref sp, .ref hh, .ref ch, .ref te, .ref ft, .ref pt], oB sp 8 [.int (nI fm), .int (nI nn), .int (nI ht), .int (nI lys), .int (nI fa), .int (nI mk)]]) (fun _ => rfl) (by decide) [so, sp] rfl (fun _ => rfl) (fun _ => rfl) [oB so 10 [.ref tpr, .ref khr, .ref sdr, .ref tdr, .ref kr, .ref sgr, .ref srr, .ref ldr, .ref sp, .ref hh, .ref ch, .ref te, .ref ft, .ref pt]] rfl (fun _ => rfl) rfl [.int xu] rfl (Nat.le_of_ble_eq_true rfl) ⟨Nat.le_refl _, Nat.le_refl _⟩ dX10_leaf_21 ?_
      intro _ hu_2
      refine j_w [oB so 10 [.ref tpr, .ref khr, .ref sdr, .ref tdr, .ref kr, .ref sgr, .ref srr, .ref ldr, .ref sp, .ref hh, .ref ch, .ref te, .ref ft, .ref pt], oB sp 8 [.int (nI fm), .int (nI nn), .int (nI ht), .int (nI lys), .int (nI fa), .int (nI mk)]] rfl ?_
      refine j_st [.int (nI (2 ^ ht)), .int xu] rfl ?_
      refine j_icmp_lt hX 30 dX10_leaf_24 (by decide) (fun b_24 => absurd b_24 (fun h => hF2 (by obtain ⟨q, hq, rfl⟩ := nI_of b_13; exact ⟨q, rfl, (nI_ltI hq (by omega)).mp h⟩))) (fun b_24 => ?_)
      refine j_pc 27 rfl ?_
      refine j_bipush hX (-2) dX10_leaf_27 (by decide) ?_
      exact hret () trivial 29 _ .ireturn dX10_leaf_29 rfl
  · skip
    refine j_aload_n hX 0 dX10_leaf_0 rfl ?_
    refine j_get hX in10 10 0 8 (v := .ref sp) rfl rfl (by decide) (List.mem_of_getElem? (i := 1) rfl) rfl rfl dX10_leaf_1 ?_
    refine j_iload_n hX 1 dX10_leaf_4 rfl ?_
    refine j_iload_n hX 2 dX10_leaf_5 rfl ?_
    refine j_callV2 hX 2 (c_hasTreeF l g sp fm nn ht lys fa mk xl xt (by omega) (by omega) hT) gX10_leaf_X8_hasTree (by decide +kernel) rfl ⟨rfl, rfl⟩ ⟨Nat.le_of_ble_eq_true rfl, Nat.le_of_ble_eq_true rfl⟩ 8 1 rfl rfl [1] [0] 2 rfl (by decide) (fun jj : Unit => [oB so 10 [.ref tpr, .ref khr, .ref sdr, .ref tdr, .ref kr, .ref sgr, .ref srr, .ref ldr, .ref sp, .ref hh, .ref ch, .ref te, .ref ft, .ref pt], oB sp 8 [.int (nI fm), .int (nI nn), .int (nI ht), .int (nI lys), .int (nI fa), .int (nI mk)]]) (fun _ => rfl) (by decide) [so, sp] rfl (fun _ => rfl) (fun _ => rfl) [oB so 10 [.ref tpr, .ref khr, .ref sdr, .ref tdr, .ref kr, .ref sgr, .ref srr, .ref ldr, .ref sp, .ref hh, .ref ch, .ref te, .ref ft, .ref pt]] rfl (fun _ => rfl) rfl [] rfl (Nat.le_of_ble_eq_true rfl) ⟨Nat.le_refl _, Nat.le_refl _⟩ dX10_leaf_6 ?_
    intro _ hu_3
    refine j_w [oB so 10 [.ref tpr, .ref khr, .ref sdr, .ref tdr, .ref kr, .ref sgr, .ref srr, .ref ldr, .ref sp, .ref hh, .ref ch, .ref te, .ref ft, .ref pt], oB sp 8 [.int (nI fm), .int (nI nn), .int (nI ht), .int (nI lys), .int (nI fa), .int (nI mk)]] rfl ?_
    refine j_st [.int (nI 0)] rfl ?_
    refine j_if_eqN hX 0 27 dX10_leaf_9 (by decide) (by omega) (fun b_9 => ?_) (fun b_9 => absurd b_9 (by omega))
    refine j_pc 27 rfl ?_
    refine j_bipush hX (-2) dX10_leaf_27 (by decide) ?_
    exact hret () trivial 29 _ .ireturn dX10_leaf_29 rfl

set_option maxHeartbeats 4000000 in
set_option maxRecDepth 100000 in
/-- told -/
theorem c_told0 (l : Launch) (g : jG) (so : Nat) (tpr : Nat) (khr : Nat) (sdr : Nat) (tdr : Nat) (kr : Nat) (sgr : Nat) (srr : Nat) (ldr : Nat) (sp : Nat) (hh : Nat) (ch : Nat) (te : Nat) (ft : Nat) (pt : Nat) (tpa : Nat) (ntp : Nat) (tpf : Nat → Int32)  : jC l g yX10_told wsX10_told ({ frames := 2, cells := 0, slots := 0, locals := 40 } : Room) [.ref so, .int (nI 0)] [oB so 10 [.ref tpr, .ref khr, .ref sdr, .ref tdr, .ref kr, .ref sgr, .ref srr, .ref ldr, .ref sp, .ref hh, .ref ch, .ref te, .ref ft, .ref pt], oB tpr 7 [.ref tpa, .int (nI ntp)], bA g tpa 600 tpf] (fun jj : Unit => some (.int (nI ntp))) (fun jj : Unit => True) (fun jj : Unit => [oB so 10 [.ref tpr, .ref khr, .ref sdr, .ref tdr, .ref kr, .ref sgr, .ref srr, .ref ldr, .ref sp, .ref hh, .ref ch, .ref te, .ref ft, .ref pt], oB tpr 7 [.ref tpa, .int (nI ntp)], bA g tpa 600 tpf]) := by
  refine jC.of (cc := cX10_told) (own := RX10) (maxL := 2) (ret := (some .int)) (by decide +kernel) rfl rfl (Nat.le_of_ble_eq_true rfl) (fun u hu => ⟨_, rfl, rfl⟩) ?_
  intro p e s m below meth c A Q hX hret
  have in7 : ∀ w ∈ wsX70, w ∈ wsX10_told := (fun w h => List.mem_cons_of_mem _ (List.mem_append_left _ (List.mem_append_right _ h)))
  have in10 : ∀ w ∈ wsX100, w ∈ wsX10_told := (fun w h => List.mem_cons_of_mem _ (List.mem_append_left _ (List.mem_append_left _ (List.mem_append_right _ h))))
  refine j_iload_n hX 1 dX10_told_0 rfl ?_
  refine j_tableIn hX (off := 39) 40 dX10_told_1 (by decide) (by decide) (by decide) (by decide) ?_
  refine j_aload_n hX 0 dX10_told_40 rfl ?_
  refine j_get hX in10 10 0 0 (v := .ref tpr) rfl rfl (by decide) (List.mem_of_getElem? (i := 1) rfl) rfl rfl dX10_told_41 ?_
  refine j_get hX in7 7 1 1 (v := .int (nI ntp)) rfl rfl (by decide) (List.mem_of_getElem? (i := 2) rfl) rfl rfl dX10_told_44 ?_
  exact hret () trivial 47 _ .ireturn dX10_told_47 rfl

set_option maxHeartbeats 4000000 in
set_option maxRecDepth 100000 in
/-- told -/
theorem c_told1 (l : Launch) (g : jG) (so : Nat) (tpr : Nat) (khr : Nat) (sdr : Nat) (tdr : Nat) (kr : Nat) (sgr : Nat) (srr : Nat) (ldr : Nat) (sp : Nat) (hh : Nat) (ch : Nat) (te : Nat) (ft : Nat) (pt : Nat) (sga : Nat) (nsg : Nat) (sgf : Nat → Int32)  : jC l g yX10_told wsX10_told ({ frames := 2, cells := 0, slots := 0, locals := 40 } : Room) [.ref so, .int (nI 1)] [oB so 10 [.ref tpr, .ref khr, .ref sdr, .ref tdr, .ref kr, .ref sgr, .ref srr, .ref ldr, .ref sp, .ref hh, .ref ch, .ref te, .ref ft, .ref pt], oB sgr 7 [.ref sga, .int (nI nsg)], bA g sga 1680 sgf] (fun jj : Unit => some (.int (nI nsg))) (fun jj : Unit => True) (fun jj : Unit => [oB so 10 [.ref tpr, .ref khr, .ref sdr, .ref tdr, .ref kr, .ref sgr, .ref srr, .ref ldr, .ref sp, .ref hh, .ref ch, .ref te, .ref ft, .ref pt], oB sgr 7 [.ref sga, .int (nI nsg)], bA g sga 1680 sgf]) := by
  refine jC.of (cc := cX10_told) (own := RX10) (maxL := 2) (ret := (some .int)) (by decide +kernel) rfl rfl (Nat.le_of_ble_eq_true rfl) (fun u hu => ⟨_, rfl, rfl⟩) ?_
  intro p e s m below meth c A Q hX hret
  have in7 : ∀ w ∈ wsX70, w ∈ wsX10_told := (fun w h => List.mem_cons_of_mem _ (List.mem_append_left _ (List.mem_append_right _ h)))
  have in10 : ∀ w ∈ wsX100, w ∈ wsX10_told := (fun w h => List.mem_cons_of_mem _ (List.mem_append_left _ (List.mem_append_left _ (List.mem_append_right _ h))))
  refine j_iload_n hX 1 dX10_told_0 rfl ?_
  refine j_tableIn hX (off := 47) 48 dX10_told_1 (by decide) (by decide) (by decide) (by decide) ?_
  refine j_aload_n hX 0 dX10_told_48 rfl ?_
  refine j_get hX in10 10 0 5 (v := .ref sgr) rfl rfl (by decide) (List.mem_of_getElem? (i := 3) rfl) rfl rfl dX10_told_49 ?_
  refine j_get hX in7 7 1 1 (v := .int (nI nsg)) rfl rfl (by decide) (List.mem_of_getElem? (i := 2) rfl) rfl rfl dX10_told_52 ?_
  exact hret () trivial 55 _ .ireturn dX10_told_55 rfl

set_option maxHeartbeats 4000000 in
set_option maxRecDepth 100000 in
/-- told -/
theorem c_told2 (l : Launch) (g : jG) (so : Nat) (tpr : Nat) (khr : Nat) (sdr : Nat) (tdr : Nat) (kr : Nat) (sgr : Nat) (srr : Nat) (ldr : Nat) (sp : Nat) (hh : Nat) (ch : Nat) (te : Nat) (ft : Nat) (pt : Nat) (fm : Nat) (nn : Nat) (ht : Nat) (lys : Nat) (fa : Nat) (mk : Nat) (hnn : nn ≤ 16) : jC l g yX10_told wsX10_told ({ frames := 2, cells := 0, slots := 0, locals := 40 } : Room) [.ref so, .int (nI 2)] [oB so 10 [.ref tpr, .ref khr, .ref sdr, .ref tdr, .ref kr, .ref sgr, .ref srr, .ref ldr, .ref sp, .ref hh, .ref ch, .ref te, .ref ft, .ref pt], oB sp 8 [.int (nI fm), .int (nI nn), .int (nI ht), .int (nI lys), .int (nI fa), .int (nI mk)]] (fun jj : Unit => some (.int (nI (sgS nn ht lys fa mk)))) (fun jj : Unit => True) (fun jj : Unit => [oB so 10 [.ref tpr, .ref khr, .ref sdr, .ref tdr, .ref kr, .ref sgr, .ref srr, .ref ldr, .ref sp, .ref hh, .ref ch, .ref te, .ref ft, .ref pt], oB sp 8 [.int (nI fm), .int (nI nn), .int (nI ht), .int (nI lys), .int (nI fa), .int (nI mk)]]) := by
  refine jC.of (cc := cX10_told) (own := RX10) (maxL := 2) (ret := (some .int)) (by decide +kernel) rfl rfl (Nat.le_of_ble_eq_true rfl) (fun u hu => ⟨_, rfl, rfl⟩) ?_
  intro p e s m below meth c A Q hX hret
  have in10 : ∀ w ∈ wsX100, w ∈ wsX10_told := (fun w h => List.mem_cons_of_mem _ (List.mem_append_left _ (List.mem_append_left _ (List.mem_append_right _ h))))
  refine j_iload_n hX 1 dX10_told_0 rfl ?_
  refine j_tableIn hX (off := 55) 56 dX10_told_1 (by decide) (by decide) (by decide) (by decide) ?_
  refine j_aload_n hX 0 dX10_told_56 rfl ?_
  refine j_get hX in10 10 0 8 (v := .ref sp) rfl rfl (by decide) (List.mem_of_getElem? (i := 4) rfl) rfl rfl dX10_told_57 ?_
  refine j_callV2 hX 0 (c_size l g sp fm nn ht lys fa mk (by omega)) gX10_told_X8_size (by decide +kernel) rfl ⟨rfl, rfl⟩ ⟨Nat.le_of_ble_eq_true rfl, Nat.le_of_ble_eq_true rfl⟩ 8 1 rfl rfl [1] [0] 2 rfl (by decide) (fun jj : Unit => [oB so 10 [.ref tpr, .ref khr, .ref sdr, .ref tdr, .ref kr, .ref sgr, .ref srr, .ref ldr, .ref sp, .ref hh, .ref ch, .ref te, .ref ft, .ref pt], oB sp 8 [.int (nI fm), .int (nI nn), .int (nI ht), .int (nI lys), .int (nI fa), .int (nI mk)]]) (fun _ => rfl) (by decide) [so, sp] rfl (fun _ => rfl) (fun _ => rfl) [oB so 10 [.ref tpr, .ref khr, .ref sdr, .ref tdr, .ref kr, .ref sgr, .ref srr, .ref ldr, .ref sp, .ref hh, .ref ch, .ref te, .ref ft, .ref pt]] rfl (fun _ => rfl) rfl [] rfl (Nat.le_of_ble_eq_true rfl) ⟨Nat.le_refl _, Nat.le_refl _⟩ dX10_told_60 ?_
  intro _ hu_1
  refine j_w [oB so 10 [.ref tpr, .ref khr, .ref sdr, .ref tdr, .ref kr, .ref sgr, .ref srr, .ref ldr, .ref sp, .ref hh, .ref ch, .ref te, .ref ft, .ref pt], oB sp 8 [.int (nI fm), .int (nI nn), .int (nI ht), .int (nI lys), .int (nI fa), .int (nI mk)]] rfl ?_
  refine j_st [.int (nI (sgS nn ht lys fa mk))] rfl ?_
  exact hret () trivial 63 _ .ireturn dX10_told_63 rfl

set_option maxHeartbeats 4000000 in
set_option maxRecDepth 100000 in
/-- told -/
theorem c_told3 (l : Launch) (g : jG) (so : Nat) (tpr : Nat) (khr : Nat) (sdr : Nat) (tdr : Nat) (kr : Nat) (sgr : Nat) (srr : Nat) (ldr : Nat) (sp : Nat) (hh : Nat) (ch : Nat) (te : Nat) (ft : Nat) (pt : Nat) (fm : Nat) (nn : Nat) (ht : Nat) (lys : Nat) (fa : Nat) (mk : Nat) (hnn : nn ≤ 16) : jC l g yX10_told wsX10_told ({ frames := 2, cells := 0, slots := 0, locals := 40 } : Room) [.ref so, .int (nI 3)] [oB so 10 [.ref tpr, .ref khr, .ref sdr, .ref tdr, .ref kr, .ref sgr, .ref srr, .ref ldr, .ref sp, .ref hh, .ref ch, .ref te, .ref ft, .ref pt], oB sp 8 [.int (nI fm), .int (nI nn), .int (nI ht), .int (nI lys), .int (nI fa), .int (nI mk)]] (fun jj : Unit => some (.int (nI (ln nn)))) (fun jj : Unit => True) (fun jj : Unit => [oB so 10 [.ref tpr, .ref khr, .ref sdr, .ref tdr, .ref kr, .ref sgr, .ref srr, .ref ldr, .ref sp, .ref hh, .ref ch, .ref te, .ref ft, .ref pt], oB sp 8 [.int (nI fm), .int (nI nn), .int (nI ht), .int (nI lys), .int (nI fa), .int (nI mk)]]) := by
  refine jC.of (cc := cX10_told) (own := RX10) (maxL := 2) (ret := (some .int)) (by decide +kernel) rfl rfl (Nat.le_of_ble_eq_true rfl) (fun u hu => ⟨_, rfl, rfl⟩) ?_
  intro p e s m below meth c A Q hX hret
  have in10 : ∀ w ∈ wsX100, w ∈ wsX10_told := (fun w h => List.mem_cons_of_mem _ (List.mem_append_left _ (List.mem_append_left _ (List.mem_append_right _ h))))
  refine j_iload_n hX 1 dX10_told_0 rfl ?_
  refine j_tableIn hX (off := 63) 64 dX10_told_1 (by decide) (by decide) (by decide) (by decide) ?_
  refine j_aload_n hX 0 dX10_told_64 rfl ?_
  refine j_get hX in10 10 0 8 (v := .ref sp) rfl rfl (by decide) (List.mem_of_getElem? (i := 4) rfl) rfl rfl dX10_told_65 ?_
  refine j_callV2 hX 0 (c_len l g sp fm nn ht lys fa mk (by omega)) gX10_told_X8_len (by decide +kernel) rfl ⟨rfl, rfl⟩ ⟨Nat.le_of_ble_eq_true rfl, Nat.le_of_ble_eq_true rfl⟩ 8 1 rfl rfl [1] [0] 2 rfl (by decide) (fun jj : Unit => [oB so 10 [.ref tpr, .ref khr, .ref sdr, .ref tdr, .ref kr, .ref sgr, .ref srr, .ref ldr, .ref sp, .ref hh, .ref ch, .ref te, .ref ft, .ref pt], oB sp 8 [.int (nI fm), .int (nI nn), .int (nI ht), .int (nI lys), .int (nI fa), .int (nI mk)]]) (fun _ => rfl) (by decide) [so, sp] rfl (fun _ => rfl) (fun _ => rfl) [oB so 10 [.ref tpr, .ref khr, .ref sdr, .ref tdr, .ref kr, .ref sgr, .ref srr, .ref ldr, .ref sp, .ref hh, .ref ch, .ref te, .ref ft, .ref pt]] rfl (fun _ => rfl) rfl [] rfl (Nat.le_of_ble_eq_true rfl) ⟨Nat.le_refl _, Nat.le_refl _⟩ dX10_told_68 ?_
  intro _ hu_1
  refine j_w [oB so 10 [.ref tpr, .ref khr, .ref sdr, .ref tdr, .ref kr, .ref sgr, .ref srr, .ref ldr, .ref sp, .ref hh, .ref ch, .ref te, .ref ft, .ref pt], oB sp 8 [.int (nI fm), .int (nI nn), .int (nI ht), .int (nI lys), .int (nI fa), .int (nI mk)]] rfl ?_
  refine j_st [.int (nI (ln nn))] rfl ?_
  exact hret () trivial 71 _ .ireturn dX10_told_71 rfl

set_option maxHeartbeats 4000000 in
set_option maxRecDepth 100000 in
/-- told -/
theorem c_told4 (l : Launch) (g : jG) (so : Nat) (tpr : Nat) (khr : Nat) (sdr : Nat) (tdr : Nat) (kr : Nat) (sgr : Nat) (srr : Nat) (ldr : Nat) (sp : Nat) (hh : Nat) (ch : Nat) (te : Nat) (ft : Nat) (pt : Nat) (fm : Nat) (nn : Nat) (ht : Nat) (lys : Nat) (fa : Nat) (mk : Nat)  : jC l g yX10_told wsX10_told ({ frames := 2, cells := 0, slots := 0, locals := 40 } : Room) [.ref so, .int (nI 4)] [oB so 10 [.ref tpr, .ref khr, .ref sdr, .ref tdr, .ref kr, .ref sgr, .ref srr, .ref ldr, .ref sp, .ref hh, .ref ch, .ref te, .ref ft, .ref pt], oB sp 8 [.int (nI fm), .int (nI nn), .int (nI ht), .int (nI lys), .int (nI fa), .int (nI mk)]] (fun jj : Unit => some (.int (nI nn))) (fun jj : Unit => True) (fun jj : Unit => [oB so 10 [.ref tpr, .ref khr, .ref sdr, .ref tdr, .ref kr, .ref sgr, .ref srr, .ref ldr, .ref sp, .ref hh, .ref ch, .ref te, .ref ft, .ref pt], oB sp 8 [.int (nI fm), .int (nI nn), .int (nI ht), .int (nI lys), .int (nI fa), .int (nI mk)]]) := by
  refine jC.of (cc := cX10_told) (own := RX10) (maxL := 2) (ret := (some .int)) (by decide +kernel) rfl rfl (Nat.le_of_ble_eq_true rfl) (fun u hu => ⟨_, rfl, rfl⟩) ?_
  intro p e s m below meth c A Q hX hret
  have in8 : ∀ w ∈ wsX80, w ∈ wsX10_told := (fun w h => List.mem_cons_of_mem _ (List.mem_append_right _ h))
  have in10 : ∀ w ∈ wsX100, w ∈ wsX10_told := (fun w h => List.mem_cons_of_mem _ (List.mem_append_left _ (List.mem_append_left _ (List.mem_append_right _ h))))
  refine j_iload_n hX 1 dX10_told_0 rfl ?_
  refine j_tableIn hX (off := 71) 72 dX10_told_1 (by decide) (by decide) (by decide) (by decide) ?_
  refine j_aload_n hX 0 dX10_told_72 rfl ?_
  refine j_get hX in10 10 0 8 (v := .ref sp) rfl rfl (by decide) (List.mem_of_getElem? (i := 4) rfl) rfl rfl dX10_told_73 ?_
  refine j_get hX in8 8 1 1 (v := .int (nI nn)) rfl rfl (by decide) (List.mem_of_getElem? (i := 5) rfl) rfl rfl dX10_told_76 ?_
  exact hret () trivial 79 _ .ireturn dX10_told_79 rfl

set_option maxHeartbeats 4000000 in
set_option maxRecDepth 100000 in
/-- told -/
theorem c_told5T (l : Launch) (g : jG) (so : Nat) (tpr : Nat) (khr : Nat) (sdr : Nat) (tdr : Nat) (kr : Nat) (sgr : Nat) (srr : Nat) (ldr : Nat) (sp : Nat) (hh : Nat) (ch : Nat) (te : Nat) (ft : Nat) (pt : Nat) (kra : Nat) (nk : Nat) (kf : Nat → Int32) (hk : 0 < nk) (hk2 : nk ≤ 16) : jC l g yX10_told wsX10_told ({ frames := 2, cells := 0, slots := 0, locals := 40 } : Room) [.ref so, .int (nI 5)] [oB so 10 [.ref tpr, .ref khr, .ref sdr, .ref tdr, .ref kr, .ref sgr, .ref srr, .ref ldr, .ref sp, .ref hh, .ref ch, .ref te, .ref ft, .ref pt], oB kr 7 [.ref kra, .int (nI nk)], bA g kra 16 kf] (fun jj : Unit => some (.int (nI 1))) (fun jj : Unit => True) (fun jj : Unit => [oB so 10 [.ref tpr, .ref khr, .ref sdr, .ref tdr, .ref kr, .ref sgr, .ref srr, .ref ldr, .ref sp, .ref hh, .ref ch, .ref te, .ref ft, .ref pt], oB kr 7 [.ref kra, .int (nI nk)], bA g kra 16 kf]) := by
  refine jC.of (cc := cX10_told) (own := RX10) (maxL := 2) (ret := (some .int)) (by decide +kernel) rfl rfl (Nat.le_of_ble_eq_true rfl) (fun u hu => ⟨_, rfl, rfl⟩) ?_
  intro p e s m below meth c A Q hX hret
  refine j_iload_n hX 1 dX10_told_0 rfl ?_
  refine j_tableIn hX (off := 79) 80 dX10_told_1 (by decide) (by decide) (by decide) (by decide) ?_
  refine j_aload_n hX 0 dX10_told_80 rfl ?_
  refine j_callV2 hX 0 (c_hasKeyT l g so tpr khr sdr tdr kr sgr srr ldr sp hh ch te ft pt kra nk kf (by omega) (by omega)) gX10_told_X10_hasKey (by decide +kernel) rfl ⟨rfl, rfl⟩ ⟨Nat.le_of_ble_eq_true rfl, Nat.le_of_ble_eq_true rfl⟩ 10 0 rfl rfl [0, 1, 2] [] 3 rfl (by decide) (fun jj : Unit => [oB so 10 [.ref tpr, .ref khr, .ref sdr, .ref tdr, .ref kr, .ref sgr, .ref srr, .ref ldr, .ref sp, .ref hh, .ref ch, .ref te, .ref ft, .ref pt], oB kr 7 [.ref kra, .int (nI nk)], bA g kra 16 kf]) (fun _ => rfl) (by decide) [so, kr, kra] rfl (fun _ => rfl) (fun _ => rfl) [] rfl (fun _ => rfl) rfl [] rfl (Nat.le_of_ble_eq_true rfl) ⟨Nat.le_refl _, Nat.le_refl _⟩ dX10_told_81 ?_
  intro _ hu_1
  refine j_w [oB so 10 [.ref tpr, .ref khr, .ref sdr, .ref tdr, .ref kr, .ref sgr, .ref srr, .ref ldr, .ref sp, .ref hh, .ref ch, .ref te, .ref ft, .ref pt], oB kr 7 [.ref kra, .int (nI nk)], bA g kra 16 kf] rfl ?_
  refine j_st [.int (nI 1)] rfl ?_
  refine j_if_eqN hX 1 91 dX10_told_84 (by decide) (by omega) (fun b_84 => absurd b_84 (by omega)) (fun b_84 => ?_)
  refine j_iconst hX (1) dX10_told_87 (by decide) ?_
  refine j_goto hX 92 dX10_told_88 (by decide) ?_
  refine j_pc 92 rfl ?_
  exact hret () trivial 92 _ .ireturn dX10_told_92 rfl

set_option maxHeartbeats 4000000 in
set_option maxRecDepth 100000 in
/-- told -/
theorem c_told5F (l : Launch) (g : jG) (so : Nat) (tpr : Nat) (khr : Nat) (sdr : Nat) (tdr : Nat) (kr : Nat) (sgr : Nat) (srr : Nat) (ldr : Nat) (sp : Nat) (hh : Nat) (ch : Nat) (te : Nat) (ft : Nat) (pt : Nat) (kra : Nat) (nk : Nat) (kf : Nat → Int32) (hk : nk = 0) : jC l g yX10_told wsX10_told ({ frames := 2, cells := 0, slots := 0, locals := 40 } : Room) [.ref so, .int (nI 5)] [oB so 10 [.ref tpr, .ref khr, .ref sdr, .ref tdr, .ref kr, .ref sgr, .ref srr, .ref ldr, .ref sp, .ref hh, .ref ch, .ref te, .ref ft, .ref pt], oB kr 7 [.ref kra, .int (nI nk)], bA g kra 16 kf] (fun jj : Unit => some (.int (nI 0))) (fun jj : Unit => True) (fun jj : Unit => [oB so 10 [.ref tpr, .ref khr, .ref sdr, .ref tdr, .ref kr, .ref sgr, .ref srr, .ref ldr, .ref sp, .ref hh, .ref ch, .ref te, .ref ft, .ref pt], oB kr 7 [.ref kra, .int (nI nk)], bA g kra 16 kf]) := by
  refine jC.of (cc := cX10_told) (own := RX10) (maxL := 2) (ret := (some .int)) (by decide +kernel) rfl rfl (Nat.le_of_ble_eq_true rfl) (fun u hu => ⟨_, rfl, rfl⟩) ?_
  intro p e s m below meth c A Q hX hret
  refine j_iload_n hX 1 dX10_told_0 rfl ?_
  refine j_tableIn hX (off := 79) 80 dX10_told_1 (by decide) (by decide) (by decide) (by decide) ?_
  refine j_aload_n hX 0 dX10_told_80 rfl ?_
  refine j_callV2 hX 0 (c_hasKeyF l g so tpr khr sdr tdr kr sgr srr ldr sp hh ch te ft pt kra nk kf (by omega)) gX10_told_X10_hasKey (by decide +kernel) rfl ⟨rfl, rfl⟩ ⟨Nat.le_of_ble_eq_true rfl, Nat.le_of_ble_eq_true rfl⟩ 10 0 rfl rfl [0, 1, 2] [] 3 rfl (by decide) (fun jj : Unit => [oB so 10 [.ref tpr, .ref khr, .ref sdr, .ref tdr, .ref kr, .ref sgr, .ref srr, .ref ldr, .ref sp, .ref hh, .ref ch, .ref te, .ref ft, .ref pt], oB kr 7 [.ref kra, .int (nI nk)], bA g kra 16 kf]) (fun _ => rfl) (by decide) [so, kr, kra] rfl (fun _ => rfl) (fun _ => rfl) [] rfl (fun _ => rfl) rfl [] rfl (Nat.le_of_ble_eq_true rfl) ⟨Nat.le_refl _, Nat.le_refl _⟩ dX10_told_81 ?_
  intro _ hu_1
  refine j_w [oB so 10 [.ref tpr, .ref khr, .ref sdr, .ref tdr, .ref kr, .ref sgr, .ref srr, .ref ldr, .ref sp, .ref hh, .ref ch, .ref te, .ref ft, .ref pt], oB kr 7 [.ref kra, .int (nI nk)], bA g kra 16 kf] rfl ?_
  refine j_st [.int (nI 0)] rfl ?_
  refine j_if_eqN hX 0 91 dX10_told_84 (by decide) (by omega) (fun b_84 => ?_) (fun b_84 => absurd b_84 (by omega))
  refine j_iconst hX (0) dX10_told_91 (by decide) ?_
  exact hret () trivial 92 _ .ireturn dX10_told_92 rfl

set_option maxHeartbeats 4000000 in
set_option maxRecDepth 100000 in
/-- told: outside -/
theorem c_toldX (l : Launch) (g : jG) (so : Nat) (tpr : Nat) (khr : Nat) (sdr : Nat) (tdr : Nat) (kr : Nat) (sgr : Nat) (srr : Nat) (ldr : Nat) (sp : Nat) (hh : Nat) (ch : Nat) (te : Nat) (ft : Nat) (pt : Nat) (xw : Int32) (hF : xw.toInt < 0 ∨ 5 < xw.toInt) : jC l g yX10_told wsX10_told ({ frames := 2, cells := 0, slots := 0, locals := 40 } : Room) [.ref so, .int xw] [oB so 10 [.ref tpr, .ref khr, .ref sdr, .ref tdr, .ref kr, .ref sgr, .ref srr, .ref ldr, .ref sp, .ref hh, .ref ch, .ref te, .ref ft, .ref pt]] (fun jj : Unit => some (.int (-2))) (fun jj : Unit => True) (fun jj : Unit => [oB so 10 [.ref tpr, .ref khr, .ref sdr, .ref tdr, .ref kr, .ref sgr, .ref srr, .ref ldr, .ref sp, .ref hh, .ref ch, .ref te, .ref ft, .ref pt]]) := by
  refine jC.of (cc := cX10_told) (own := RX10) (maxL := 2) (ret := (some .int)) (by decide +kernel) rfl rfl (Nat.le_of_ble_eq_true rfl) (fun u hu => ⟨_, rfl, rfl⟩) ?_
  intro p e s m below meth c A Q hX hret
  refine j_iload_n hX 1 dX10_told_0 rfl ?_
  refine j_tableOut hX 93 dX10_told_1 hF (by decide) ?_
  refine j_bipush hX (-2) dX10_told_93 (by decide) ?_
  exact hret () trivial 95 _ .ireturn dX10_told_95 rfl

