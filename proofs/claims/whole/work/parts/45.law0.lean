section JL3
variable {p : Program} {l : Launch} {e : Env} {R : Room} {s : State} {m : MethodId} {args : Array Value} {below : List Frame} {meth : Method} {c : Code} {g : jG} {A : Nat → Prop} {nL : Nat} {Q : State → Prop} {cells slots : Nat}
variable {ws : va_W} {lv : List (Nat × Value)} {pc : Nat} {st : List Value} {cc : ByteArray} {own : String} {Ts : List Cond}
theorem j_sld (hX : jOK p s m args c g A cc nL own Ts) {b L : Nat} {xs : Nat → Int32} (hs : va_X b L xs s s.heap) (hb : b < s.heap.size) (hnA : ¬ A b) (i : Nat) (hi : i < L) (hL : L < 2 ^ 31) (hd : decode cc pc = .ok (.iaload, 1)) (kk : J p l e R s m args below meth c g A nL Q cells slots ws lv (pc + 1) (.int (xs i) :: st)) : J p l e R s m args below meth c g A nL Q cells slots ws lv pc (.int (nI i) :: .ref b :: st) :=
  fun H locs ls hP hD hS hl => va_sld hX.1.1 hX.1.2.1 hs hb hnA hS (i := nI i) (vp_in_nI hi hL) hd (by rw [nI_clamp (by omega)]; exact kk H locs ls hP hD hS hl)
theorem j_slen (hX : jOK p s m args c g A cc nL own Ts) {b L : Nat} {xs : Nat → Int32} (hs : va_X b L xs s s.heap) (hb : b < s.heap.size) (hnA : ¬ A b) (hd : decode cc pc = .ok (.arraylength, 1)) (kk : J p l e R s m args below meth c g A nL Q cells slots ws lv (pc + 1) (.int (nI L) :: st)) : J p l e R s m args below meth c g A nL Q cells slots ws lv pc (.ref b :: st) :=
  fun H locs ls hP hD hS hl => va_slen hX.1.1 hX.1.2.1 hs hb hnA hS hd (kk H locs ls hP hD hS hl)
end JL3
theorem out_of {x : Int32} {n : Nat} (hn : n < 2 ^ 31) (h : ¬ ∃ k : Nat, x = nI k ∧ k ≤ n) : x < 0 ∨ nI n < x := by
  by_cases c1 : x < 0
  · exact Or.inl c1
  · obtain ⟨q, hq, rfl⟩ := nI_of c1
    refine Or.inr ((nI_ltI hn hq).mpr ?_)
    exact Nat.lt_of_not_le (fun h2 => h ⟨q, rfl, h2⟩)
theorem out_lt {x : Int32} {n : Nat} (hn : n < 2 ^ 31) (h : ¬ ∃ k : Nat, x = nI k ∧ k < n) : x < 0 ∨ nI n ≤ x := by
  by_cases c1 : x < 0
  · exact Or.inl c1
  · obtain ⟨q, hq, rfl⟩ := nI_of c1
    refine Or.inr ((nI_leI hn hq).mpr ?_)
    exact Nat.le_of_not_lt (fun h2 => h ⟨q, rfl, h2⟩)
theorem rAt_eq {f h : Nat → Int32} {n : Nat} (hn : n < 2 ^ 31) (e : slice f 0 n = slice h 0 n) (x : Int32) : rAt f n x = rAt h n x := by
  by_cases c1 : x < 0
  · rw [rAt_lo c1, rAt_lo c1]
  · by_cases c2 : x < nI n
    · obtain ⟨q, hq, rfl⟩ := nI_of c1
      have h3 := (nI_ltI hq hn).mp c2
      rw [rAt_in h3 hn, rAt_in h3 hn, slice_eq_iff.mp e q h3]
    · rw [rAt_hi c2, rAt_hi c2]

theorem ND_B (fm n : Nat) (sd : Nat → Int32) (ly tr z i : Nat) : isBL (ND fm n sd ly tr z i) := by
  cases z with
  | zero => exact TT_B _ _ _ _ _ _ _ _ _ _
  | succ z => exact TT_B _ _ _ _ _ _ _ _ _ _
theorem alt_out {x y : Int32} {n : Nat} (hn : n < 2 ^ 31) (h : ¬ ((∃ k : Nat, x = nI k ∧ k < n) ∧ ∃ k : Nat, y = nI k ∧ k < 256)) : (x < 0 ∨ nI n ≤ x) ∨ (y < 0 ∨ 255 < y) := by
  by_cases c : ∃ k : Nat, x = nI k ∧ k < n
  · refine Or.inr (out_of (n := 255) (by decide) (fun h2 => h ⟨c, ?_⟩))
    obtain ⟨k, e, hk⟩ := h2
    exact ⟨k, e, by omega⟩
  · exact Or.inl (out_lt hn c)
theorem told_split (x : Int32) : x = nI 0 ∨ x = nI 1 ∨ x = nI 2 ∨ x = nI 3 ∨ x = nI 4 ∨ x = nI 5 ∨ (x.toInt < 0 ∨ 5 < x.toInt) := by
  by_cases c : x.toInt < 0 ∨ 5 < x.toInt
  · exact Or.inr (Or.inr (Or.inr (Or.inr (Or.inr (Or.inr c)))))
  · have h0 : ¬ x < 0 := fun h => by rw [Int32.lt_iff_toInt_lt] at h; exact c (Or.inl h)
    obtain ⟨q, hq, rfl⟩ := nI_of h0
    rw [nI_toInt hq] at c
    rcases (show q = 0 ∨ q = 1 ∨ q = 2 ∨ q = 3 ∨ q = 4 ∨ q = 5 by omega) with rfl | rfl | rfl | rfl | rfl | rfl
    · exact Or.inl rfl
    · exact Or.inr (Or.inl rfl)
    · exact Or.inr (Or.inr (Or.inl rfl))
    · exact Or.inr (Or.inr (Or.inr (Or.inl rfl)))
    · exact Or.inr (Or.inr (Or.inr (Or.inr (Or.inl rfl))))
    · exact Or.inr (Or.inr (Or.inr (Or.inr (Or.inr (Or.inl rfl)))))
theorem ix_same {mk nfd k : Nat} {fdf xf : Nat → Int32} (hmk : 1 ≤ mk ∧ mk ≤ 6) (hn : nfd ≤ 8) (h : (nfd = 0 ∧ ∀ j, j < 8 → xf j = -9) ∨ (nfd = 2 + mk ∧ ∃ ix : Nat → Nat, (∀ j, j < 2 + mk → fdf j = nI (ix j)) ∧ (∀ j, j < 8 → xf j = ixV ix mk j) ∧ ∀ j, ix j < 16)) (hk : k < 8) : rAt fdf nfd (nI k) = xf k := by
  rcases h with ⟨h1, h2⟩ | ⟨h1, ix, h2, h3, h4⟩
  · rw [h1, rAt_0, h2 k hk]
  · rw [h3 k hk]
    unfold ixV
    by_cases c : k < 2 + mk
    · rw [if_pos c, rAt_ix (h2 k c) (by have := h4 k; omega) (by omega) (by omega)]
    · rw [if_neg c, rAt_hi (fun hh => by rw [nI_ltI (by omega) (by omega)] at hh; omega)]
theorem ix_none {nfd : Nat} {fdf : Nat → Int32} {x : Int32} (hn : nfd ≤ 8) (h : ¬ ∃ k : Nat, x = nI k ∧ k < 8) : rAt fdf nfd x = -9 := by
  by_cases c1 : x < 0
  · exact rAt_lo c1
  · obtain ⟨q, hq, rfl⟩ := nI_of c1
    refine rAt_hi (fun hh => ?_)
    rw [nI_ltI hq (by omega)] at hh
    exact h ⟨q, rfl, by omega⟩

/-- the loop head of the law, for any state of both sides that agree -/
def LawB (p : Program) (l : Launch) (e : Env) (s : State) (m : MethodId) (below : List Frame) (meth : Method) (c : Code) (g : jG) (A : Nat → Prop) (Q : State → Prop) (sb L : Nat) (xs : Nat → Int32) (so tpr tpa khr kha sdr sda tdr tda kr kra sgr sga srr sra ldr lda sp hh inr ina outr outa zo sa wa on aa ba ch lvr lva kna dga enr ena te lvl lvla ft tps tpsa bar bara pt fnd fna mid mda h : Nat) (b : Nat → Nat) (i : Nat) : Prop := ∀ (oly : Int32) (otr : Int32) (fm : Nat) (nn : Nat) (ht : Nat) (lys : Nat) (fa : Nat) (mk : Nat) (ni : Nat) (no : Nat) (ne : Nat) (nlv : Nat) (nts : Nat) (nba : Nat) (nfd : Nat) (nmd : Nat) (ntp : Nat) (nk : Nat) (nsg : Nat) (nsr : Nat) (ntd : Nat) (nld : Nat) (nkh : Nat) (n0 : Nat) (kyf : Nat) (haf : Nat) (lef : Nat) (fi : Nat → Int32) (fo : Nat → Int32) (S0 : Nat → Int32) (w0 : Nat → Int32) (lvs : Nat → Int32) (kn : Nat → Int32) (D0 : Nat → Int32) (ef : Nat → Int32) (lf : Nat → Int32) (tsf : Nat → Int32) (baf : Nat → Int32) (fdf : Nat → Int32) (mdf : Nat → Int32) (tpf : Nat → Int32) (kf : Nat → Int32) (sgf : Nat → Int32) (srf : Nat → Int32) (tdf : Nat → Int32) (ldf : Nat → Int32) (khf : Nat → Int32) (sd : Nat → Int32) (v : Nat → Int32) (mf : Nat → Int32) (mdg : Nat → Int32) (mw : Nat → Int32) (mS : Nat → Int32) (fs : Nat → Int32) (rt : Nat → Int32) (tn : Nat → Int32) (mD : Nat → Int32) (me : Nat → Int32) (mnd : Nat → Int32) (mfn : Nat → Int32) (mpf : Nat → Int32) (mrd : Nat → Int32) (mmx : Nat → Int32) (xf : Nat → Int32) (mfr : Nat → Int32) (mrw : Nat → Int32) (mle : Nat → Int32) (A0 : Nat → Int64) (B0 : Nat → Int64) (mA : Nat → Int64) (mT : Nat → Int64) (mU : Nat → Int64), (fm < 2) → (nn = 4 ∨ nn = 8 ∨ nn = 12 ∨ nn = 16) → (1 ≤ ht ∧ ht ≤ 2) → (1 ≤ lys ∧ lys ≤ 2) → (1 ≤ fa ∧ fa ≤ 4) → (1 ≤ mk ∧ mk ≤ 6) → (isB sd) → (no ≤ 32) → (isB fo) → (ni ≤ 768) → (isB lvs) → (cache fm nn sd lvs kn) → (ne ≤ 560) → (isB ef) → (nlv ≤ 256) → (isB lf) → (nts ≤ 96) → (isB tsf) → (nba ≤ 16) → (isB baf) → (nfd ≤ 8) → (isB fdf) → (nmd ≤ 32) → (isB mdf) → (ntp ≤ 600) → (isB tpf) → (isB kf) → (nsg ≤ 1680) → (isB sgf) → (nsr ≤ 16) → (isB srf) → (ntd ≤ 16) → (isB tdf) → (nld ≤ 16) → (isB ldf) → ((nk = 0 ∧ kyf = 0) ∨ (nk = nn ∧ kyf = 1)) → ((nkh = 0 ∧ haf = 0) ∨ (nkh = 32 ∧ haf = 1)) → ((nld = 0 ∧ lef = 0) ∨ (nld = nn ∧ lef = 1 ∧ slice ldf 0 nn = slice mle 0 nn)) → ((nfd = 0 ∧ ∀ j, j < 8 → xf j = -9) ∨ (nfd = 2 + mk ∧ ∃ ix : Nat → Nat, (∀ j, j < 2 + mk → fdf j = nI (ix j)) ∧ (∀ j, j < 8 → xf j = ixV ix mk j) ∧ ∀ j, ix j < 16)) → (∀ j, j < 8 → fs j = s_first.getD j 0) → (∀ j, j < 64 → rt j = s_cube.getD j 0) → (∀ k, k < 25 → tn k = s_turns.getD k 0) → (n0 ≤ 1400) → (isB me) → (isB mnd) → (isB mfn) → (isB mpf) → (isB mrd) → (isB mmx) → (isB mfr) → (isB mrw) → (isB mle) → (v 1 = nI ntp) → (v 3 = nI n0) → (v 14 = nI haf) → (v 15 = nI fm) → (v 16 = nI nn) → (v 17 = nI ht) → (v 18 = nI lys) → (v 19 = nI fa) → (v 20 = nI mk) → (v 21 = nI (ln nn)) → (v 22 = nI (sgS nn ht lys fa mk)) → (v 24 = nI kyf) → (v 25 = nI nsg) → (v 26 = nI lef) → J p l e room_1 s m ([.ref sb] : List Value).toArray below meth c g A 4 Q 76 10782 [oB so 10 [.ref tpr, .ref khr, .ref sdr, .ref tdr, .ref kr, .ref sgr, .ref srr, .ref ldr, .ref sp, .ref hh, .ref ch, .ref te, .ref ft, .ref pt], oB tpr 7 [.ref tpa, .int (nI ntp)], bA g tpa 600 tpf, oB khr 7 [.ref kha, .int (nI nkh)], bA g kha 32 khf, oB sdr 7 [.ref sda, .int (nI 48)], bA g sda 48 sd, oB tdr 7 [.ref tda, .int (nI ntd)], bA g tda 16 tdf, oB kr 7 [.ref kra, .int (nI nk)], bA g kra 16 kf, oB sgr 7 [.ref sga, .int (nI nsg)], bA g sga 1680 sgf, oB srr 7 [.ref sra, .int (nI nsr)], bA g sra 16 srf, oB ldr 7 [.ref lda, .int (nI nld)], bA g lda 16 ldf, oB sp 8 [.int (nI fm), .int (nI nn), .int (nI ht), .int (nI lys), .int (nI fa), .int (nI mk)], oB hh 5 [.ref inr, .ref outr, .ref zo, .ref on, .ref sp, .ref sdr, .int oly, .int otr], oB inr 7 [.ref ina, .int (nI ni)], bA g ina 768 fi, oB outr 7 [.ref outa, .int (nI no)], bA g outa 32 fo, oB zo 4 [.ref sa, .ref wa], iA g sa 8 S0, iA g wa 64 w0, oB on 3 [.ref aa, .ref ba], lA g aa 25 A0, lA g ba 25 B0, oB ch 0 [.ref lvr, .ref kna, .ref dga, .ref enr, .ref sp, .ref hh], oB lvr 7 [.ref lva, .int (nI 512)], bA g lva 512 lvs, zA g kna 32 kn, iA g dga 35 D0, oB enr 7 [.ref ena, .int (nI ne)], bA g ena 560 ef, oB te 9 [.ref lvl, .ref sp, .ref hh, .ref ch], oB lvl 7 [.ref lvla, .int (nI nlv)], bA g lvla 256 lf, oB ft 1 [.ref tps, .ref bar, .ref sp, .ref hh, .ref te], oB tps 7 [.ref tpsa, .int (nI nts)], bA g tpsa 96 tsf, oB bar 7 [.ref bara, .int (nI nba)], bA g bara 16 baf, oB pt 6 [.ref fnd, .ref mid, .ref sp, .ref sdr, .ref hh], oB fnd 7 [.ref fna, .int (nI nfd)], bA g fna 8 fdf, oB mid 7 [.ref mda, .int (nI nmd)], bA g mda 32 mdf, oB h 11 (mO b v), bA g (b 0) 600 tpf, bA g (b 2) 1400 mf, bA g (b 4) 32 mdg, iA g (b 5) 64 mw, iA g (b 6) 8 mS, iA g (b 7) 8 fs, iA g (b 8) 64 rt, lA g (b 9) 25 mA, lA g (b 10) 25 mT, lA g (b 11) 5 mU, iA g (b 12) 25 tn, bA g (b 13) 32 khf, bA g (b 23) 48 sd, iA g (b 29) 40 mD, bA g (b 30) 560 me, bA g (b 31) 112 mnd, bA g (b 32) 16 kf, bA g (b 33) 496 mfn, bA g (b 34) 32 mpf, bA g (b 35) 16 mrd, bA g (b 36) 16 mmx, iA g (b 37) 8 xf, bA g (b 38) 2000 sgf, bA g (b 40) 96 mfr, bA g (b 41) 16 mrw, bA g (b 42) 16 mle] [(0, .ref sb), (1, .ref so), (2, .ref h), (3, .int (nI i))] 18 []
