/-! HASH 1, said plainly: lanes as a function, of which the first 25 places count -/
def rlc (x : Int64) (t : Int32) : Int64 := lshl x t ||| lush x (64 - t)
def eq25 (A B : Nat → Int64) : Prop := ∀ k, k < 25 → A k = B k
theorem eq25.rf (A : Nat → Int64) : eq25 A A := fun _ _ => rfl
theorem eq25.tr {A B C : Nat → Int64} (h : eq25 A B) (h2 : eq25 B C) : eq25 A C := fun k hk => (h k hk).trans (h2 k hk)
theorem eq25.sy {A B : Nat → Int64} (h : eq25 A B) : eq25 B A := fun k hk => (h k hk).symm
theorem by25 {P : Nat → Prop} (h : P 0 ∧ P 1 ∧ P 2 ∧ P 3 ∧ P 4 ∧ P 5 ∧ P 6 ∧ P 7 ∧ P 8 ∧ P 9 ∧ P 10 ∧ P 11 ∧ P 12 ∧ P 13 ∧ P 14 ∧ P 15 ∧ P 16 ∧ P 17 ∧ P 18 ∧ P 19 ∧ P 20 ∧ P 21 ∧ P 22 ∧ P 23 ∧ P 24) : ∀ k, k < 25 → P k := by
  obtain ⟨h0, h1, h2, h3, h4, h5, h6, h7, h8, h9, h10, h11, h12, h13, h14, h15, h16, h17, h18, h19, h20, h21, h22, h23, h24⟩ := h
  intro k hk
  match k, hk with
  | 0, _ => exact h0
  | 1, _ => exact h1
  | 2, _ => exact h2
  | 3, _ => exact h3
  | 4, _ => exact h4
  | 5, _ => exact h5
  | 6, _ => exact h6
  | 7, _ => exact h7
  | 8, _ => exact h8
  | 9, _ => exact h9
  | 10, _ => exact h10
  | 11, _ => exact h11
  | 12, _ => exact h12
  | 13, _ => exact h13
  | 14, _ => exact h14
  | 15, _ => exact h15
  | 16, _ => exact h16
  | 17, _ => exact h17
  | 18, _ => exact h18
  | 19, _ => exact h19
  | 20, _ => exact h20
  | 21, _ => exact h21
  | 22, _ => exact h22
  | 23, _ => exact h23
  | 24, _ => exact h24
  | k + 25, hk => omega
theorem updL_eq {A : Nat → Int64} {k : Nat} {x : Int64} : vp_updL A k x k = x := pk_uLs
theorem updL_ne {A : Nat → Int64} {k j : Nat} {x : Int64} (h : j ≠ k) : vp_updL A k x j = A j := pk_uLn h
def absS (f : Nat → Int32) (t i : Nat) (A : Nat → Int64) : Int64 := A (i / 8) ^^^ lshl ((f (t + i)).toInt64 &&& 255) (nI (8 * (i % 8)))
def absr (f : Nat → Int32) (t : Nat) (A : Nat → Int64) : Nat → (Nat → Int64)
  | 0 => A
  | i + 1 => vp_updL (absr f t A i) (i / 8) (absS f t i (absr f t A i))
theorem absr_congr {f h : Nat → Int32} {t : Nat} {A B : Nat → Int64} (hA : eq25 A B) : ∀ n, n ≤ 136 → (∀ j, j < n → f (t + j) = h (t + j)) → eq25 (absr f t A n) (absr h t B n)
  | 0, _, _ => hA
  | n + 1, hn, e => by
    have ih := absr_congr hA n (by omega) (fun j hj => e j (by omega))
    intro k hk
    unfold absr absS
    rw [ih (n / 8) (by omega), e n (by omega)]
    unfold vp_updL
    split
    · rfl
    · exact ih k hk
def kC (A : Nat → Int64) (x : Nat) : Int64 := (((A x ^^^ A (x + 5)) ^^^ A (x + 10)) ^^^ A (x + 15)) ^^^ A (x + 20)
def kD (A : Nat → Int64) (x : Nat) : Int64 := kC A ((x + 4) % 5) ^^^ rlc (kC A ((x + 1) % 5)) 1
def kT (A : Nat → Int64) (k : Nat) : Int64 := A k ^^^ kD A (k % 5)
def l_src : List Nat := [0, 6, 12, 18, 24, 3, 9, 10, 16, 22, 1, 7, 13, 19, 20, 4, 5, 11, 17, 23, 2, 8, 14, 15, 21]
def l_tgt : List Nat := [0, 10, 20, 5, 15, 16, 1, 11, 21, 6, 7, 17, 2, 12, 22, 23, 8, 18, 3, 13, 14, 24, 9, 19, 4]
def kSrc (j : Nat) : Nat := l_src.getD j 0
def kTgt (j : Nat) : Nat := l_tgt.getD j 0
/-- the turned lanes, of lanes T that had their columns mixed in -/
def kB (T : Nat → Int64) (j : Nat) : Int64 := rlc (T (kSrc j)) (s_turns.getD (kSrc j) 0)
def kX (B : Nat → Int64) (k : Nat) : Int64 := B k ^^^ ((B ((k % 5 + 1) % 5 + 5 * (k / 5)) ^^^ (-1)) &&& B ((k % 5 + 2) % 5 + 5 * (k / 5)))
def kR (A : Nat → Int64) (w : Int64) (k : Nat) : Int64 := if k = 0 then kX (kB (kT A)) 0 ^^^ w else kX (kB (kT A)) k
def kF (A : Nat → Int64) : Nat → (Nat → Int64)
  | 0 => A
  | r + 1 => kR (kF A r) (s_round.getD r 0)
theorem kC_congr {A B : Nat → Int64} (h : eq25 A B) {x : Nat} (hx : x < 5) : kC A x = kC B x := by
  unfold kC
  rw [h x (by omega), h (x + 5) (by omega), h (x + 10) (by omega), h (x + 15) (by omega), h (x + 20) (by omega)]
theorem kT_congr {A B : Nat → Int64} (h : eq25 A B) : eq25 (kT A) (kT B) := by
  intro k hk
  unfold kT kD
  rw [h k hk, kC_congr h (Nat.mod_lt _ (by decide)), kC_congr h (Nat.mod_lt _ (by decide))]
theorem kSrc_lt : ∀ k, k < 25 → kSrc k < 25 := by decide
theorem kTgt_lt : ∀ k, k < 25 → kTgt k < 25 := by decide
theorem kB_congr {A B : Nat → Int64} (h : eq25 A B) : eq25 (kB A) (kB B) := by
  intro k hk
  unfold kB
  rw [h _ (kSrc_lt k hk)]
theorem kX_congr {A B : Nat → Int64} (h : eq25 A B) : eq25 (kX A) (kX B) := by
  intro k hk
  unfold kX
  rw [h k hk, h _ (by omega), h _ (by omega)]
theorem kR_congr {A B : Nat → Int64} (h : eq25 A B) (w : Int64) : eq25 (kR A w) (kR B w) := by
  have h2 := kX_congr (kB_congr (kT_congr h))
  intro k hk
  unfold kR
  rw [h2 0 (by decide), h2 k hk]
theorem kF_congr {A B : Nat → Int64} (h : eq25 A B) : ∀ r, eq25 (kF A r) (kF B r)
  | 0 => h
  | r + 1 => kR_congr (kF_congr h r) _
def hs1 (f : Nat → Int32) : Nat → (Nat → Int64)
  | 0 => fun _ => 0
  | k + 1 => kF (absr f (136 * k) (hs1 f k) 136) 24
theorem hs1_congr {f h : Nat → Int32} : ∀ n, (∀ j, j < 136 * n → f j = h j) → eq25 (hs1 f n) (hs1 h n)
  | 0, _ => eq25.rf _
  | n + 1, e => kF_congr (absr_congr (hs1_congr n (fun j hj => e j (by omega))) 136 (Nat.le_refl _) (fun j hj => e _ (by omega))) 24
def D1l (A : Nat → Int64) : Nat → List Int32
  | 0 => []
  | i + 1 => D1l A i ++ [zB (A (i / 8)) (i % 8)]
theorem D1l_length (A : Nat → Int64) : ∀ n, (D1l A n).length = n
  | 0 => rfl
  | n + 1 => by rw [D1l, List.length_append, D1l_length A n]; rfl
theorem D1l_B (A : Nat → Int64) : ∀ n, isBL (D1l A n)
  | 0 => isBL_nil
  | n + 1 => isBL_app (D1l_B A n) (isBL_cons (zB_B _ _) isBL_nil)
theorem D1l_congr {A B : Nat → Int64} (h : eq25 A B) : ∀ n, n ≤ 32 → D1l A n = D1l B n
  | 0, _ => rfl
  | n + 1, hn => by rw [D1l, D1l, D1l_congr h n (by omega), h (n / 8) (by omega)]
theorem D1l_getD (A : Nat → Int64) : ∀ n k, k < n → (D1l A n).getD k 0 = zB (A (k / 8)) (k % 8)
  | 0, k, h => by omega
  | n + 1, k, h => by
    rw [D1l]
    simp only [List.getD]
    by_cases hk : k < n
    · rw [List.getElem?_append_left (by rw [D1l_length]; exact hk)]
      exact D1l_getD A n k hk
    · rw [List.getElem?_append_right (by rw [D1l_length]; omega), D1l_length, show k = n by omega, Nat.sub_self]
      rfl
def z1 (n : Nat) : Nat := (136 - (n + 1) % 136) % 136
theorem z1_lt (n : Nat) : z1 n < 136 := Nat.mod_lt _ (by decide)
theorem z1_mod (n : Nat) : (n + 1 + z1 n) % 136 = 0 := by unfold z1; omega
def u1 (n : Nat) : List Int32 := 31 :: List.replicate (z1 n) 0
def last1 (n : Nat) : Int32 := if z1 n = 0 then i8 159 else i8 128
def pf1 (f : Nat → Int32) (n : Nat) : Nat → Int32 := upd (putL f n (u1 n)) (n + z1 n) (last1 n)
theorem u1_last (f : Nat → Int32) (n : Nat) : putL f n (u1 n) (n + z1 n) = if z1 n = 0 then 31 else 0 := by
  rw [putL_in (by simp [u1])]
  unfold u1
  cases h : z1 n with
  | zero => simp
  | succ k => simp [List.getD, List.getElem?_replicate]
theorem last1_c (f : Nat → Int32) (n : Nat) : i8 ((putL f n (u1 n) (n + z1 n) &&& 255) ^^^ 128) = last1 n := by
  rw [u1_last]
  unfold last1
  by_cases h : z1 n = 0
  · rw [if_pos h, if_pos h]; decide
  · rw [if_neg h, if_neg h]; decide
theorem last1_m (f : Nat → Int32) (n : Nat) : i8 (putL f n (u1 n) (n + z1 n) ^^^ (-128)) = last1 n := by
  rw [u1_last]
  unfold last1
  by_cases h : z1 n = 0
  · rw [if_pos h, if_pos h]; decide
  · rw [if_neg h, if_neg h]; decide
theorem pf1_congr {f h : Nat → Int32} {n : Nat} (e : ∀ j, j < n → f j = h j) : ∀ j, j < n + 1 + z1 n → pf1 f n j = pf1 h n j := by
  intro j hj
  unfold pf1 upd
  split
  · rfl
  · by_cases hjn : j < n
    · rw [putL_out (Or.inl hjn), putL_out (Or.inl hjn), e j hjn]
    · obtain ⟨k, rfl⟩ : ∃ k, j = n + k := ⟨j - n, by omega⟩
      have hk : k < (u1 n).length := by simp [u1]; omega
      rw [putL_in hk, putL_in hk]
def HASH1 (l : List Int32) : List Int32 := D1l (hs1 (pf1 (lF l) l.length) ((l.length + 1 + z1 l.length) / 136)) 32
theorem HASH1_length (l : List Int32) : (HASH1 l).length = 32 := D1l_length _ 32
theorem HASH1_B (l : List Int32) : isBL (HASH1 l) := D1l_B _ 32
theorem lF_slice (f : Nat → Int32) (n : Nat) : ∀ j, j < n → lF (slice f 0 n) j = f j := by
  intro j hj
  unfold lF
  rw [slice_getD hj, Nat.zero_add]
theorem HASH1_of {f : Nat → Int32} {A : Nat → Int64} {n k : Nat} (h : eq25 A (hs1 (pf1 f n) k)) (hk : 136 * k = n + 1 + z1 n) : D1l A 32 = HASH1 (slice f 0 n) := by
  unfold HASH1
  rw [slice_length, ← hk, Nat.mul_div_cancel_left k (by decide), D1l_congr h 32 (Nat.le_refl _)]
  exact D1l_congr (hs1_congr k (fun j hj => pf1_congr (fun i hi => (lF_slice f n i hi).symm) j (by omega))) 32 (Nat.le_refl _)
theorem lush0 (x : Int64) : lush x (nI (8 * 0)) = x := by
  apply Int64.toBitVec_inj.mp
  show x.toBitVec >>> (((nI 0).toInt64.toUInt64 &&& Int64.toUInt64 63).toBitVec % 64) = _
  have : ((nI 0).toInt64.toUInt64 &&& Int64.toUInt64 63).toBitVec % 64 = BitVec.ofNat 64 0 := by decide +kernel
  rw [this, BitVec.ushiftRight_eq', BitVec.toNat_ofNat]
  simp
theorem Zl_1 (x : Int64) {j : Nat} (hj : j < 8) : Zl (lush x (nI (8 * j))) 1 = [zB x j] := by
  show [zB (lush x (nI (8 * j))) 0] = _
  unfold zB
  rw [if_pos (by decide), if_pos hj, lush0]
/-- rows of the 25 lanes by steps: what the loops do -/
theorem five {A A1 A2 A3 A4 A5 : Nat → Int64} {y : Nat} {w0 w1 w2 w3 w4 : Int64} (e1 : A1 = vp_updL A y w0) (e2 : A2 = vp_updL A1 (y + 1) w1) (e3 : A3 = vp_updL A2 (y + 2) w2) (e4 : A4 = vp_updL A3 (y + 3) w3) (e5 : A5 = vp_updL A4 (y + 4) w4) : A5 y = w0 ∧ A5 (y + 1) = w1 ∧ A5 (y + 2) = w2 ∧ A5 (y + 3) = w3 ∧ A5 (y + 4) = w4 ∧ ∀ k, (k < y ∨ y + 5 ≤ k) → A5 k = A k := by
  subst e1 e2 e3 e4 e5
  refine ⟨?_, ?_, ?_, ?_, ?_, fun k hk => ?_⟩
  · rw [updL_ne (by omega), updL_ne (by omega), updL_ne (by omega), updL_ne (by omega), updL_eq]
  · rw [updL_ne (by omega), updL_ne (by omega), updL_ne (by omega), updL_eq]
  · rw [updL_ne (by omega), updL_ne (by omega), updL_eq]
  · rw [updL_ne (by omega), updL_eq]
  · rw [updL_eq]
  · rw [updL_ne (by omega), updL_ne (by omega), updL_ne (by omega), updL_ne (by omega), updL_ne (by omega)]
/-- a row done, the rows before it done -/
theorem five_step {A0 A A5 R : Nat → Int64} {y : Nat} (hy : y % 5 = 0) (h : ∀ k, k < 25 → A k = if k < y then R k else A0 k) (h5 : A5 y = R y ∧ A5 (y + 1) = R (y + 1) ∧ A5 (y + 2) = R (y + 2) ∧ A5 (y + 3) = R (y + 3) ∧ A5 (y + 4) = R (y + 4) ∧ ∀ k, (k < y ∨ y + 5 ≤ k) → A5 k = A k) : ∀ k, k < 25 → A5 k = if k < y + 5 then R k else A0 k := by
  intro k hk
  obtain ⟨a0, a1, a2, a3, a4, a5⟩ := h5
  by_cases hlo : k < y
  · rw [a5 k (Or.inl hlo), h k hk, if_pos hlo, if_pos (by omega)]
  · by_cases hhi : y + 5 ≤ k
    · rw [a5 k (Or.inr hhi), h k hk, if_neg (by omega), if_neg (by omega)]
    · rw [if_pos (by omega)]
      rcases (show k = y ∨ k = y + 1 ∨ k = y + 2 ∨ k = y + 3 ∨ k = y + 4 by omega) with rfl | rfl | rfl | rfl | rfl <;> assumption
def rhoI (A B : Nat → Int64) : Nat → (Nat → Int64)
  | 0 => B
  | i + 1 => vp_updL (rhoI A B i) (kTgt i) (rlc (A i) (s_turns.getD i 0))
theorem rhoI_25 (A B : Nat → Int64) : eq25 (rhoI A B 25) (kB A) := by25 ⟨rfl, rfl, rfl, rfl, rfl, rfl, rfl, rfl, rfl, rfl, rfl, rfl, rfl, rfl, rfl, rfl, rfl, rfl, rfl, rfl, rfl, rfl, rfl, rfl, rfl⟩
theorem tgt_nI : ∀ i, i < 25 → s_targets.getD i 0 = nI (kTgt i) := by decide
