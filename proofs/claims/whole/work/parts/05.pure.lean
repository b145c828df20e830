/-! PLAIN WORDS: rows of bytes as lists; what an array holds, with a list laid into it -/
def putL (f : Nat → Int32) (n : Nat) (L : List Int32) : Nat → Int32 := fun j => if n ≤ j ∧ j < n + L.length then L.getD (j - n) 0 else f j
def isB (f : Nat → Int32) : Prop := ∀ j, i8 (f j) = f j
def isBL (L : List Int32) : Prop := ∀ x, x ∈ L → i8 x = x
def slice (f : Nat → Int32) (s c : Nat) : List Int32 := (List.range c).map (fun i => f (s + i))
theorem slice_length (f : Nat → Int32) (s c : Nat) : (slice f s c).length = c := by simp [slice]
theorem slice_getD {f : Nat → Int32} {s c j : Nat} (h : j < c) : (slice f s c).getD j 0 = f (s + j) := by
  simp [slice, List.getD, h]
theorem slice_zero (f : Nat → Int32) (s : Nat) : slice f s 0 = [] := rfl
theorem slice_succ (f : Nat → Int32) (s c : Nat) : slice f s (c + 1) = slice f s c ++ [f (s + c)] := by
  simp [slice, List.range_succ]
theorem slice_B {f : Nat → Int32} (h : isB f) (s c : Nat) : isBL (slice f s c) := by
  intro x hx
  obtain ⟨i, -, rfl⟩ := List.mem_map.mp hx
  exact h _
theorem slice_congr {f h : Nat → Int32} {s t c : Nat} (e : ∀ j, j < c → f (s + j) = h (t + j)) : slice f s c = slice h t c := by
  unfold slice
  apply List.map_congr_left
  intro i hi
  exact e i (List.mem_range.mp hi)
theorem putL_nil (f : Nat → Int32) (n : Nat) : putL f n [] = f := by
  funext j
  unfold putL
  rw [if_neg]
  simp only [List.length_nil]
  omega
theorem putL_in {f : Nat → Int32} {n : Nat} {L : List Int32} {j : Nat} (h : j < L.length) : putL f n L (n + j) = L.getD j 0 := by
  unfold putL
  rw [if_pos ⟨by omega, by omega⟩, Nat.add_sub_cancel_left]
theorem putL_out {f : Nat → Int32} {n : Nat} {L : List Int32} {j : Nat} (h : j < n ∨ n + L.length ≤ j) : putL f n L j = f j := by
  unfold putL
  rw [if_neg (by omega)]
theorem putL_cons (f : Nat → Int32) (n : Nat) (x : Int32) (L : List Int32) : putL (upd f n x) (n + 1) L = putL f n (x :: L) := by
  funext j
  by_cases h1 : j < n
  · rw [putL_out (Or.inl (by omega)), putL_out (Or.inl h1)]
    unfold upd
    rw [if_neg (by omega)]
  · by_cases h2 : j = n
    · subst h2
      rw [putL_out (Or.inl (by omega))]
      have := putL_in (f := f) (n := j) (L := x :: L) (j := 0) (by simp)
      rw [Nat.add_zero] at this
      rw [this]
      simp [upd, List.getD]
    · by_cases h3 : j < n + 1 + L.length
      · obtain ⟨k, rfl⟩ : ∃ k, j = n + 1 + k := ⟨j - (n + 1), by omega⟩
        rw [putL_in (by omega), show n + 1 + k = n + (k + 1) by omega, putL_in (by simp; omega)]
        simp [List.getD]
      · rw [putL_out (Or.inr (by omega)), putL_out (Or.inr (by simp; omega))]
        unfold upd
        rw [if_neg (by omega)]
theorem putL_app (f : Nat → Int32) (A : List Int32) : ∀ (B : List Int32) (n : Nat), putL (putL f n A) (n + A.length) B = putL f n (A ++ B) := by
  intro B n
  funext j
  by_cases h1 : j < n
  · rw [putL_out (Or.inl (by omega)), putL_out (Or.inl h1), putL_out (Or.inl h1)]
  · by_cases h2 : j < n + A.length
    · obtain ⟨k, rfl⟩ : ∃ k, j = n + k := ⟨j - n, by omega⟩
      rw [putL_out (Or.inl h2), putL_in (by omega), putL_in (by rw [List.length_append]; omega)]
      simp only [List.getD]
      rw [List.getElem?_append_left (by omega)]
    · by_cases h3 : j < n + A.length + B.length
      · obtain ⟨k, rfl⟩ : ∃ k, j = n + A.length + k := ⟨j - (n + A.length), by omega⟩
        rw [putL_in (by omega), Nat.add_assoc, putL_in (by rw [List.length_append]; omega)]
        simp only [List.getD]
        rw [List.getElem?_append_right (by omega), Nat.add_sub_cancel_left]
      · rw [putL_out (Or.inr (by omega)), putL_out (Or.inr (by omega)), putL_out (Or.inr (by rw [List.length_append]; omega))]
theorem putL_app' {f : Nat → Int32} {A B : List Int32} {n k : Nat} (h : k = n + A.length) : putL (putL f n A) k B = putL f n (A ++ B) := by subst h; exact putL_app f A B n
theorem putL_snoc {f : Nat → Int32} {A : List Int32} {n k : Nat} {x : Int32} (h : k = n + A.length) : upd (putL f n A) k x = putL f n (A ++ [x]) := by
  rw [← putL_app' h, ← putL_cons, putL_nil]
theorem putL_B {f : Nat → Int32} {n : Nat} {L : List Int32} (hf : isB f) (hL : isBL L) : isB (putL f n L) := by
  intro j
  by_cases h : n ≤ j ∧ j < n + L.length
  · obtain ⟨k, rfl⟩ : ∃ k, j = n + k := ⟨j - n, by omega⟩
    have hk : k < L.length := by omega
    rw [putL_in hk]
    simp only [List.getD, List.getElem?_eq_getElem hk, Option.getD_some]
    exact hL _ (List.getElem_mem hk)
  · rw [putL_out (by omega)]
    exact hf j
theorem isBL_app {A B : List Int32} (hA : isBL A) (hB : isBL B) : isBL (A ++ B) := fun x h => (List.mem_append.mp h).elim (hA x) (hB x)
theorem isBL_nil : isBL [] := fun x h => by cases h
theorem isBL_cons {x : Int32} {L : List Int32} (hx : i8 x = x) (h : isBL L) : isBL (x :: L) := fun z hz => by
  rcases List.mem_cons.mp hz with rfl | hz
  · exact hx
  · exact h z hz
theorem isB_upd {f : Nat → Int32} {k : Nat} {x : Int32} (h : isB f) : isB (upd f k (i8 x)) := fun j => by
  unfold upd
  split
  · exact i8_i8 x
  · exact h j
theorem cpy_put (f h : Nat → Int32) (sp dp n : Nat) : va_cpy f h sp dp n = putL h dp (slice f sp n) := by
  funext j
  by_cases hj : dp ≤ j ∧ j < dp + n
  · obtain ⟨k, rfl⟩ : ∃ k, j = dp + k := ⟨j - dp, by omega⟩
    rw [pk_cpy_in hj.1 hj.2, putL_in (by rw [slice_length]; omega), slice_getD (by omega), Nat.add_sub_cancel_left]
  · rw [pk_cpy_out (by omega), putL_out (by rw [slice_length]; omega)]
theorem slice_put {f : Nat → Int32} {n : Nat} {L : List Int32} {c : Nat} (h : c = L.length) : slice (putL f n L) n c = L := by
  subst h
  apply List.ext_getElem (slice_length _ _ _)
  intro i h1 h2
  have h3 := slice_getD (f := putL f n L) (s := n) h2
  rw [putL_in h2] at h3
  simpa [List.getD, h1, h2] using h3
theorem fits_b {x : Int32} (h : i8 x = x) : fits .byte (.int x) = true := h ▸ pk_fb x
/-- Z(x, c): c bytes of a number, the highest first -/
def zB (x : Int64) (i : Nat) : Int32 := if i < 8 then i8 (lush x (nI (8 * i))).toInt32 else 0
def Zl (x : Int64) : Nat → List Int32
  | 0 => []
  | c + 1 => zB x c :: Zl x c
theorem Zl_length (x : Int64) : ∀ c, (Zl x c).length = c
  | 0 => rfl
  | c + 1 => by rw [Zl, List.length_cons, Zl_length x c]
theorem i8_0 : i8 0 = 0 := by decide
theorem zB_B (x : Int64) (i : Nat) : i8 (zB x i) = zB x i := by
  unfold zB
  split
  · exact i8_i8 _
  · exact i8_0
theorem Zl_B (x : Int64) : ∀ c, isBL (Zl x c)
  | 0 => isBL_nil
  | c + 1 => isBL_cons (zB_B x c) (Zl_B x c)
theorem nI_dec {a : Nat} (k : Nat) (h : k ≤ a) : nI a + Int32.ofInt (-(k : Int)) = nI (a - k) := by
  rw [← pk_sub h]
  rw [Int32.ofInt_neg, ← Int32.sub_eq_add_neg]
  rfl
theorem nI_m1_lt {k : Nat} (h : k < 2 ^ 31) : nI k - 1 < 0 ↔ k = 0 := by
  cases k with
  | zero => exact ⟨fun _ => rfl, fun _ => by decide⟩
  | succ k => rw [nI_pred]; exact ⟨fun hh => absurd hh (nI_pos (by omega)), fun hh => absurd hh (Nat.succ_ne_zero k)⟩
