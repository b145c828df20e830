/-! HASH 0, said plainly -/
theorem ext8 (x : Int64) (k : Nat) (hk : k + 8 ≤ 64) : (x.toBitVec.sshiftRight k).setWidth 8 = (x.toBitVec >>> k).setWidth 8 := by
  apply BitVec.eq_of_getLsbD_eq
  intro i hi
  rw [BitVec.getLsbD_setWidth, BitVec.getLsbD_setWidth, BitVec.getLsbD_sshiftRight, BitVec.getLsbD_ushiftRight]
  simp [show ¬ 64 ≤ i by omega, show k + i < 64 by omega]
def w8 (x : BitVec 64) : Int32 := ((⟨⟨x.signExtend 32⟩⟩ : Int32).toInt8).toInt32
theorem i8_w8 (y : Int64) : i8 y.toInt32 = w8 y.toBitVec := rfl
theorem w8_eq {x y : BitVec 64} (h : x.setWidth 8 = y.setWidth 8) : w8 x = w8 y := by
  have e : ∀ z : BitVec 64, w8 z = ((⟨⟨z.setWidth 8⟩⟩ : Int8)).toInt32 := by
    intro z
    unfold w8
    congr 1
    apply Int8.toBitVec_inj.mp
    show BitVec.signExtend 8 (z.signExtend 32) = z.setWidth 8
    rw [BitVec.signExtend_eq_setWidth_of_le _ (by decide), BitVec.signExtend_eq_setWidth_of_le _ (by decide)]
    apply BitVec.eq_of_getLsbD_eq
    intro i hi
    simp only [BitVec.getLsbD_setWidth]
    simp [show i < 8 by omega, show i < 32 by omega]
  rw [e, e, h]
theorem zB_shr (x : Int64) (i : Nat) (hi : i < 8) : i8 (lshr x (nI (8 * i))).toInt32 = zB x i := by
  unfold zB
  rw [if_pos hi, i8_w8, i8_w8]
  apply w8_eq
  have key : ∀ k, k < 57 → ((nI k).toInt64 &&& 63).toBitVec.smod 64 = BitVec.ofNat 64 k ∧ ((nI k).toInt64.toUInt64 &&& Int64.toUInt64 63).toBitVec % 64 = BitVec.ofNat 64 k := by decide +kernel
  obtain ⟨k1, k2⟩ := key (8 * i) (by omega)
  have e1 : (lshr x (nI (8 * i))).toBitVec = x.toBitVec.sshiftRight (8 * i) := by
    show BitVec.sshiftRight' x.toBitVec (((nI (8 * i)).toInt64 &&& 63).toBitVec.smod 64) = _
    rw [k1, BitVec.sshiftRight', BitVec.toNat_ofNat, Nat.mod_eq_of_lt (by omega)]
  have e2 : (lush x (nI (8 * i))).toBitVec = x.toBitVec >>> (8 * i) := by
    show x.toBitVec >>> (((nI (8 * i)).toInt64.toUInt64 &&& Int64.toUInt64 63).toBitVec % 64) = _
    rw [k2, BitVec.ushiftRight_eq', BitVec.toNat_ofNat, Nat.mod_eq_of_lt (by omega)]
  rw [e1, e2]
  exact ext8 x (8 * i) (by omega)
def ror (x k : Int32) : Int32 := iush x k ||| x <<< ((32 - k) &&& 31)
def sg0 (x : Int32) : Int32 := (ror x 7 ^^^ ror x 18) ^^^ iush x 3
def sg1 (x : Int32) : Int32 := (ror x 17 ^^^ ror x 19) ^^^ iush x 10
/-- a word of a block -/
def bw (f : Nat → Int32) (t i : Nat) : Int32 := (((f (t + 4 * i) <<< (24 &&& 31)) ||| ((f (t + 4 * i + 1) &&& 255) <<< (16 &&& 31))) ||| ((f (t + 4 * i + 2) &&& 255) <<< (8 &&& 31))) ||| (f (t + 4 * i + 3) &&& 255)
def wNext (f : Nat → Int32) (t : Nat) (w : List Int32) : Int32 := if w.length < 16 then bw f t w.length else ((sg1 (w.getD (w.length - 2) 0) + w.getD (w.length - 7) 0) + sg0 (w.getD (w.length - 15) 0)) + w.getD (w.length - 16) 0
def Wl (f : Nat → Int32) (t : Nat) : Nat → List Int32
  | 0 => []
  | n + 1 => Wl f t n ++ [wNext f t (Wl f t n)]
theorem Wl_length (f : Nat → Int32) (t : Nat) : ∀ n, (Wl f t n).length = n
  | 0 => rfl
  | n + 1 => by rw [Wl, List.length_append, Wl_length f t n]; rfl
abbrev S8 : Type := Int32 × Int32 × Int32 × Int32 × Int32 × Int32 × Int32 × Int32
def rdp (e f g h k w : Int32) : Int32 := (((h + ((ror e 6 ^^^ ror e 11) ^^^ ror e 25)) + ((e &&& f) ^^^ ((e ^^^ (-1)) &&& g))) + k) + w
def rdq (a b c : Int32) : Int32 := ((ror a 2 ^^^ ror a 13) ^^^ ror a 22) + (((a &&& b) ^^^ (a &&& c)) ^^^ (b &&& c))
def rstep (k w : Int32) (x : S8) : S8 := (rdp x.2.2.2.2.1 x.2.2.2.2.2.1 x.2.2.2.2.2.2.1 x.2.2.2.2.2.2.2 k w + rdq x.1 x.2.1 x.2.2.1, x.1, x.2.1, x.2.2.1, x.2.2.2.1 + rdp x.2.2.2.2.1 x.2.2.2.2.2.1 x.2.2.2.2.2.2.1 x.2.2.2.2.2.2.2 k w, x.2.2.2.2.1, x.2.2.2.2.2.1, x.2.2.2.2.2.2.1)
def rds (w : Nat → Int32) (x : S8) : Nat → S8
  | 0 => x
  | i + 1 => rstep (s_cube.getD i 0) (w i) (rds w x i)
def st8 (f : Nat → Int32) : S8 := (f 0, f 1, f 2, f 3, f 4, f 5, f 6, f 7)
def add8 (x y : S8) : S8 := (x.1 + y.1, x.2.1 + y.2.1, x.2.2.1 + y.2.2.1, x.2.2.2.1 + y.2.2.2.1, x.2.2.2.2.1 + y.2.2.2.2.1, x.2.2.2.2.2.1 + y.2.2.2.2.2.1, x.2.2.2.2.2.2.1 + y.2.2.2.2.2.2.1, x.2.2.2.2.2.2.2 + y.2.2.2.2.2.2.2)
def lF (l : List Int32) : Nat → Int32 := fun j => l.getD j 0
def blk (f : Nat → Int32) (t : Nat) (x : S8) : S8 := add8 x (rds (lF (Wl f t 64)) x 64)
def hs0 (f : Nat → Int32) : Nat → S8
  | 0 => st8 (lF s_first)
  | k + 1 => blk f (64 * k) (hs0 f k)
def D0l (f : Nat → Int32) : Nat → List Int32
  | 0 => []
  | i + 1 => D0l f i ++ Zl (f i).toInt64 4
def tup8 (x : S8) : Nat → Int32 := fun j => match j with | 0 => x.1 | 1 => x.2.1 | 2 => x.2.2.1 | 3 => x.2.2.2.1 | 4 => x.2.2.2.2.1 | 5 => x.2.2.2.2.2.1 | 6 => x.2.2.2.2.2.2.1 | _ => x.2.2.2.2.2.2.2
def D0 (x : S8) : List Int32 := D0l (tup8 x) 8
theorem D0_st (f : Nat → Int32) : D0l f 8 = D0 (st8 f) := rfl
theorem D0l_length (f : Nat → Int32) : ∀ n, (D0l f n).length = 4 * n
  | 0 => rfl
  | n + 1 => by rw [D0l, List.length_append, D0l_length f n, Zl_length]; omega
theorem D0l_B (f : Nat → Int32) : ∀ n, isBL (D0l f n)
  | 0 => isBL_nil
  | n + 1 => isBL_app (D0l_B f n) (Zl_B _ 4)
def z0 (n : Nat) : Nat := (120 - (n + 1) % 64) % 64
def tail0 (n : Nat) : List Int32 := (i8 128 :: List.replicate (z0 n) 0) ++ Zl ((8 : Int64) * (nI n).toInt64) 8
def pad0 (l : List Int32) : List Int32 := l ++ tail0 l.length
theorem tail0_length (n : Nat) : (tail0 n).length = 1 + z0 n + 8 := by
  simp [tail0, Zl_length]
  omega
theorem pad0_mod (n : Nat) : (n + (tail0 n).length) % 64 = 0 := by
  rw [tail0_length]
  unfold z0
  omega
def HASH0 (l : List Int32) : List Int32 := D0 (hs0 (lF (pad0 l)) ((pad0 l).length / 64))
theorem HASH0_length (l : List Int32) : (HASH0 l).length = 32 := D0l_length _ 8
theorem HASH0_B (l : List Int32) : isBL (HASH0 l) := D0l_B _ 8
theorem bw_congr {f h : Nat → Int32} {t i : Nat} (e : ∀ j, j < 64 → f (t + j) = h (t + j)) (hi : i < 16) : bw f t i = bw h t i := by
  unfold bw
  rw [e (4 * i) (by omega), show t + 4 * i + 1 = t + (4 * i + 1) by omega, e (4 * i + 1) (by omega), show t + 4 * i + 2 = t + (4 * i + 2) by omega, e (4 * i + 2) (by omega), show t + 4 * i + 3 = t + (4 * i + 3) by omega, e (4 * i + 3) (by omega)]
theorem Wl_congr {f h : Nat → Int32} {t : Nat} (e : ∀ j, j < 64 → f (t + j) = h (t + j)) : ∀ n, Wl f t n = Wl h t n
  | 0 => rfl
  | n + 1 => by
    have h1 : wNext f t (Wl h t n) = wNext h t (Wl h t n) := by
      unfold wNext
      rw [Wl_length]
      by_cases hn : n < 16
      · rw [if_pos hn, if_pos hn, bw_congr e hn]
      · rw [if_neg hn, if_neg hn]
    rw [Wl, Wl, Wl_congr e n, h1]
theorem hs0_congr {f h : Nat → Int32} : ∀ (n : Nat), (∀ j, j < 64 * n → f j = h j) → hs0 f n = hs0 h n
  | 0, _ => rfl
  | n + 1, e => by
    rw [hs0, hs0, hs0_congr n (fun j hj => e j (by omega))]
    unfold blk
    rw [Wl_congr (fun j hj => e _ (by omega))]
theorem bwA (x y : Int32) : (x &&& 255) <<< ((24 : Int32) &&& 31) = x <<< ((24 : Int32) &&& 31) := by
  apply Int32.toBitVec_inj.mp
  show (x.toBitVec &&& 255#32) <<< (24#32 : BitVec 32) = x.toBitVec <<< (24#32 : BitVec 32)
  apply BitVec.eq_of_getLsbD_eq
  intro i hi
  simp only [BitVec.shiftLeft_eq', BitVec.toNat_ofNat, BitVec.getLsbD_shiftLeft, BitVec.getLsbD_and]
  by_cases h : i < 24
  · simp [h]
  · have : (255#32).getLsbD (i - 24) = true := by
      have : ∀ k, k < 8 → (255#32).getLsbD k = true := by decide
      exact this _ (by omega)
    simp [h, this]
theorem zeros_Zl : ∀ k, Zl 0 k = List.replicate k 0
  | 0 => rfl
  | k + 1 => by
    rw [Zl, zeros_Zl k, List.replicate_succ]
    congr 1
    unfold zB
    split
    · rename_i h
      have : ∀ k, k < 8 → i8 (lush 0 (nI (8 * k))).toInt32 = 0 := by decide +kernel
      exact this k h
    · rfl
theorem Zl_128 : Zl 128 1 = [i8 128] := by decide +kernel
